/-! a text's items, as the model keeps them -/
theorem WF_itA {y : Nat → Int32} {S : OS} (h : WF S) {n : Nat} (ho : okA y S n) : ∀ k, k ≤ n → WF (itA y S k)
  | 0, _ => h
  | k + 1, hk => okI_WF (WF_itA h ho k (by omega)) (ho k (by omega)).1
theorem apR_lt {S : OS} (h : WF S) (w i : Nat) : (if w = 10 then S 0 i else S 7 0) < 64 := by
  have := h.f0 i
  have := h.n
  split <;> omega
section TXQ
variable {tb : Nat → Nat} {tl : Nat} {S0 S1 : OS} {y : Nat → Int32} {m p1 n5 : Nat} {r : Bool × Nat}
def TXI (S0 : OS) (tb : Nat → Nat) (tl : Nat) (y : Nat → Int32) (m p1 n5 : Nat) (S1 : OS) (r : Bool × Nat) : Prop :=
  (1 ≤ m ∧ 2 * (m - 1) ≤ p1 ∧ p1 ≤ tl) ∧ WF S1 ∧ tR tb tl (121 - m) m p1 S1 = tR tb tl 120 1 0 S0 ∧ r = (!(iR tb tl p1 S1).1, (iR tb tl p1 S1).2.1) ∧ ((iR tb tl p1 S1).1 = true → okA y S0 m ∧ itA y S0 m = (iR tb tl p1 S1).2.2 ∧ n5 = (iR tb tl p1 S1).2.2 7 0)
theorem txi_mk (ht : tl ≤ 120) (hm : 1 ≤ m + 1 ∧ 2 * (m + 1 - 1) ≤ p1 ∧ p1 ≤ tl) (hW : WF S1) (hr : tR tb tl (121 - (m + 1)) (m + 1) p1 S1 = tR tb tl 120 1 0 S0) (ho : okA y S0 m) (hi : itA y S0 m = S1) (hn : S1 7 0 = n5) : TXI S0 tb tl (riY tb tl y m p1 n5) (m + 1) p1 (riN tb tl p1 n5) S1 (riS tb tl p1 n5) := by
  obtain ⟨a, b⟩ := ri_rel (tb := tb) (tl := tl) (p := p1) hn (hn ▸ hW.n)
  refine ⟨hm, hW, hr, a, fun h => ?_⟩
  obtain ⟨c, d, e⟩ := b h
  obtain ⟨f, g⟩ := it_next ho hi d
  rw [riY_W]
  exact ⟨f, g.trans c.symm, e⟩
theorem txi_0 (ht : tl ≤ 120) (hW : WF S0) : TXI S0 tb tl (riY tb tl y 0 0 (S0 7 0)) (0 + 1) 0 (riN tb tl 0 (S0 7 0)) S0 (riS tb tl 0 (S0 7 0)) :=
  txi_mk ht ⟨by omega, by omega, by omega⟩ hW rfl (fun k hk => absurd hk (Nat.not_lt_zero k)) rfl rfl
theorem txi_w (h : TXI S0 tb tl y m p1 n5 S1 r) (h1 : r.1 = false) : (iR tb tl p1 S1).1 = true ∧ (iR tb tl p1 S1).2.1 = r.2 := by
  obtain ⟨_, _, _, e, _⟩ := h
  rw [e] at h1
  constructor
  · cases q : (iR tb tl p1 S1).1
    · rw [q] at h1; cases h1
    · rfl
  · rw [e]
theorem txi_f (ht : tl ≤ 120) (h : TXI S0 tb tl y m p1 n5 S1 r) : r.2 ≤ tl ∧ 1 ≤ m ∧ m < 120 ∧ stt tb tl r.2 ≤ tl ∧ nxt tb tl r.2 ≤ tl := by
  obtain ⟨⟨a, b, c⟩, d, _, e, _⟩ := h
  have h2 : r.2 ≤ tl := by rw [e]; exact (iR_ok d c).1.2.1
  exact ⟨h2, a, by omega, stt_le h2, nxt_le h2⟩
theorem txi_n (h : TXI S0 tb tl y m p1 n5 S1 r) (h1 : r.1 = false) : n5 ≤ 8 := by
  obtain ⟨a, _⟩ := txi_w h h1
  obtain ⟨⟨_, _, c⟩, d, _, _, e⟩ := h
  rw [(e a).2.2]
  exact (iR_ok d c).1.1.n
theorem txi_s (ht : tl ≤ 120) (h : TXI S0 tb tl y m p1 n5 S1 r) (h1 : r.1 = false) (h3 : srt tb tl r.2 = 3) : TXI S0 tb tl (riY tb tl y m (nxt tb tl r.2) n5) (m + 1) (nxt tb tl r.2) (riN tb tl (nxt tb tl r.2) n5) (iR tb tl p1 S1).2.2 (riS tb tl (nxt tb tl r.2) n5) := by
  obtain ⟨a, b⟩ := txi_w h h1
  obtain ⟨f1, f2, f3, f4, f5⟩ := txi_f ht h
  obtain ⟨⟨c1, c2, c3⟩, d, hr, _, e⟩ := h
  obtain ⟨e1, e2, e3⟩ := e a
  have g1 := iR_n (tb := tb) ht d c3 a
  have g2 := nxt_gt (tb := tb) (p := r.2) ht (by omega)
  have g3 := stt_ge (tb := tb) (tl := tl) r.2
  refine txi_mk ht ⟨by omega, by omega, f5⟩ (iR_ok d c3).1.1 ?_ e1 e2 e3.symm
  rw [← hr, tR_d (by omega) rfl a (by rw [b]; exact h3), b]
theorem txi_e (ht : tl ≤ 120) (h : TXI S0 tb tl y m p1 n5 S1 r) (h1 : r.1 = false) (h0 : srt tb tl r.2 = 0) : tR tb tl 120 1 0 S0 = (true, m, itA y S0 m) ∧ okA y S0 m := by
  obtain ⟨a, b⟩ := txi_w h h1
  obtain ⟨f1, f2, f3, f4, f5⟩ := txi_f ht h
  obtain ⟨_, _, hr, _, e⟩ := h
  obtain ⟨e1, e2, _⟩ := e a
  exact ⟨by rw [← hr, e2]; exact tR_b (by omega) rfl a (by rw [b]; exact h0), e1⟩
theorem txi_b1 (ht : tl ≤ 120) (h : TXI S0 tb tl y m p1 n5 S1 r) (h1 : r.1 = true) : ∃ S9, tR tb tl 120 1 0 S0 = (false, stt tb tl r.2, S9) := by
  obtain ⟨f1, f2, f3, f4, f5⟩ := txi_f ht h
  obtain ⟨_, _, hr, e, _⟩ := h
  refine ⟨(iR tb tl p1 S1).2.2, ?_⟩
  rw [← hr, e]
  refine tR_a (by omega) rfl ?_
  rw [e] at h1
  cases q : (iR tb tl p1 S1).1
  · rfl
  · rw [q] at h1; cases h1
theorem txi_b2 (ht : tl ≤ 120) (h : TXI S0 tb tl y m p1 n5 S1 r) (h1 : r.1 = false) (h0 : srt tb tl r.2 ≠ 0) (h3 : srt tb tl r.2 ≠ 3) : ∃ S9, tR tb tl 120 1 0 S0 = (false, stt tb tl r.2, S9) := by
  obtain ⟨a, b⟩ := txi_w h h1
  obtain ⟨f1, f2, f3, f4, f5⟩ := txi_f ht h
  obtain ⟨_, _, hr, _, _⟩ := h
  refine ⟨(iR tb tl p1 S1).2.2, ?_⟩
  rw [← hr, tR_c (by omega) rfl a (by rw [b]; exact h0) (by rw [b]; exact h3), b]
theorem sr_59 {p : Nat} (h : stt tb tl p < tl) (h2 : tb (stt tb tl p) = 59) : srt tb tl p = 3 := by
  rw [srt, bE_in h, h2]; decide
theorem sr_n59 {p : Nat} (h : stt tb tl p < tl) (h2 : tb (stt tb tl p) ≠ 59) : srt tb tl p ≠ 3 := by
  intro e
  rw [srt, bE_in h, srtB] at e
  repeat' split at e
  all_goals omega
end TXQ
theorem tx_t {X : AS} {m : Nat} {S9 : OS} (h : tR X.2.2.2.2.2.1 X.2.2.2.2.1 120 1 0 X.1 = (true, m, S9)) : p_text X = (nI m, toS (toL X 0) S9) := by
  rw [p_text, h]; rfl
theorem tx_f {X : AS} {k : Nat} (h : ∃ S9, tR X.2.2.2.2.2.1 X.2.2.2.2.1 120 1 0 X.1 = (false, k, S9)) : p_text X = (-1 - nI k, toL X 0) := by
  obtain ⟨S9, h⟩ := h
  rw [p_text, h]; rfl
