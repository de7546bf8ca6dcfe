/-! own rows: the whole of what can be seen of the system, and what each call does to it -/
def inN (x : Int32) (n : Nat) : Bool := decide (0 ≤ x.toInt ∧ x.toInt < (n : Int))
def tn (x : Int32) : Nat := x.toNatClampNeg
def fnd (k : Nat) : Int32 := -1000001 - nI k
theorem tn_nI {k : Nat} (h : k < 2147483648) : tn (nI k) = k := nI_clamp h
theorem in_ex {x : Int32} {n : Nat} (h : inN x n = true) (hn : n < 2147483648) : ∃ k, k < n ∧ x = nI k := vp_in_of (vp_in_iff.mpr (of_decide_eq_true h)) hn
theorem in_nI {k n : Nat} (h : k < 2147483648) : inN (nI k) n = decide (k < n) := by
  unfold inN
  rw [nI_toInt h]
  simp
theorem in_t {x : Int32} {n : Nat} (hn : n < 2147483648) (h0 : ¬ x < 0) (h1 : ¬ nI n ≤ x) : inN x n = true := by
  unfold inN
  rw [decide_eq_true_eq]
  have a : (0 : Int32).toInt = 0 := rfl
  have b : (nI n).toInt = (n : Int) := nI_toInt hn
  rw [Int32.lt_iff_toInt_lt, a] at h0
  rw [Int32.le_iff_toInt_le, b] at h1
  omega
theorem in_f0 {x : Int32} {n : Nat} (h : x < 0) : inN x n = false := by
  unfold inN
  rw [decide_eq_false_iff_not]
  have a : (0 : Int32).toInt = 0 := rfl
  rw [Int32.lt_iff_toInt_lt, a] at h
  omega
theorem in_f1 {x : Int32} {n : Nat} (hn : n < 2147483648) (h : nI n ≤ x) : inN x n = false := by
  unfold inN
  rw [decide_eq_false_iff_not]
  have b : (nI n).toInt = (n : Int) := nI_toInt hn
  rw [Int32.le_iff_toInt_le, b] at h
  omega
/-- S, K (kept), whether kept, findings, tape: length, bytes, sheets: bits, length, numbers -/
abbrev AS : Type := OS × OS × Bool × (Nat → Nat) × Nat × (Nat → Nat) × (Nat → Nat) × (Nat → Nat) × (Nat → Nat → Int32)
def inc (f : Nat → Nat) (k : Nat) : Nat → Nat := fun j => if j = k then f j + 1 else f j
def fl (X : AS) (k : Nat) : Int32 × AS := (fnd k, (X.1, X.2.1, X.2.2.1, inc X.2.2.2.1 k, X.2.2.2.2))
def toS (X : AS) (S : OS) : AS := (S, X.2)
def WFX (X : AS) : Prop := WF X.1 ∧ WF X.2.1 ∧ X.1 8 0 ≤ 99999 ∧ X.2.1 8 0 ≤ 99999 ∧ X.2.2.2.2.1 ≤ 120 ∧ (∀ k, X.2.2.2.2.2.1 k < 256) ∧ (∀ k, X.2.2.2.2.2.2.1 k = 0 ∨ X.2.2.2.2.2.2.1 k = 8 ∨ X.2.2.2.2.2.2.1 k = 16 ∨ X.2.2.2.2.2.2.1 k = 32) ∧ (∀ k, X.2.2.2.2.2.2.2.1 k ≤ 40) ∧ (∀ k, X.2.2.2.2.2.2.1 k = 0 → X.2.2.2.2.2.2.2.1 k = 0)
theorem WFX.w {X : AS} (h : WFX X) : WF X.1 := h.1
theorem WFX.k {X : AS} (h : WFX X) : WF X.2.1 := h.2.1
theorem WFX.e {X : AS} (h : WFX X) : X.1 8 0 ≤ 99999 := h.2.2.1
theorem WFX.ke {X : AS} (h : WFX X) : X.2.1 8 0 ≤ 99999 := h.2.2.2.1
theorem WFX.t {X : AS} (h : WFX X) : X.2.2.2.2.1 ≤ 120 := h.2.2.2.2.1
theorem WFX.tb {X : AS} (h : WFX X) (k : Nat) : X.2.2.2.2.2.1 k < 256 := h.2.2.2.2.2.1 k
theorem WFX.sb {X : AS} (h : WFX X) (k : Nat) : X.2.2.2.2.2.2.1 k = 0 ∨ X.2.2.2.2.2.2.1 k = 8 ∨ X.2.2.2.2.2.2.1 k = 16 ∨ X.2.2.2.2.2.2.1 k = 32 := h.2.2.2.2.2.2.1 k
theorem WFX.sl {X : AS} (h : WFX X) (k : Nat) : X.2.2.2.2.2.2.2.1 k ≤ 40 := h.2.2.2.2.2.2.2.1 k
theorem WFX.s0 {X : AS} (h : WFX X) (k : Nat) : X.2.2.2.2.2.2.1 k = 0 → X.2.2.2.2.2.2.2.1 k = 0 := h.2.2.2.2.2.2.2.2 k
/-- the class's world: 48 cells -/
def sh (ad : Nat → Nat) (n : Nat) : Nat → Nat := fun k => ad (n + k)
def wMain (ci : Nat → ClassId) (ad : Nat → Nat) (kp : Bool) (fd : Nat → Nat) (la tt : Nat → Int32) : va_W := [(ad 0, .inr (3, [.ref (ad 5), .ref (ad 16), .ref (ad 27), .int (bI kp), .ref (ad 38), .ref (ad 1), .ref (ad 2), .ref (ad 3), .ref (ad 4)])), (ad 1, .inl (ci 1, 4, .inr (.inr (.inr (.inr (fun k => some (ad (40 + 2 * k)))))))), (ad 2, .inl (ci 0, 7, .inl (fun j => nI (fd j)))), (ad 3, .inl (ci 0, 256, .inl la)), (ad 4, .inl (ci 0, 256, .inl tt))]
def wTp (ci : Nat → ClassId) (a : Nat → Nat) (tl : Nat) (tb : Nat → Nat) (tq : Nat → Int32) : va_W := [(a 0, .inr (2, [.int (nI tl), .ref (a 1), .int (tq 0), .int (tq 1), .int (tq 2), .int (tq 3)])), (a 1, .inl (ci 0, 120, .inl (fun j => nI (tb j))))]
def wSh (ci : Nat → ClassId) (a : Nat → Nat) (b n : Nat) (f : Nat → Int32) : va_W := [(a 0, .inr (1, [.ref (a 1), .int (nI b), .int (nI n)])), (a 1, .inl (ci 0, 40, .inl f))]
def wX (ci : Nat → ClassId) (ad : Nat → Nat) (X : AS) (T : OS) (tq : Nat → Int32) (la tt : Nat → Int32) (z : Nat → Nat → Int32) : va_W := wMain ci ad X.2.2.1 X.2.2.2.1 la tt ++ (wO (ci 0) (sh ad 5) X.1 (z 0) (z 1) (z 2) ++ (wO (ci 0) (sh ad 16) T (z 3) (z 4) (z 5) ++ (wO (ci 0) (sh ad 27) X.2.1 (z 6) (z 7) (z 8) ++ (wTp ci (sh ad 38) X.2.2.2.2.1 X.2.2.2.2.2.1 tq ++ (wSh ci (sh ad 40) (X.2.2.2.2.2.2.1 0) (X.2.2.2.2.2.2.2.1 0) (X.2.2.2.2.2.2.2.2 0) ++ (wSh ci (sh ad 42) (X.2.2.2.2.2.2.1 1) (X.2.2.2.2.2.2.2.1 1) (X.2.2.2.2.2.2.2.2 1) ++ (wSh ci (sh ad 44) (X.2.2.2.2.2.2.1 2) (X.2.2.2.2.2.2.2.1 2) (X.2.2.2.2.2.2.2.2 2) ++ wSh ci (sh ad 46) (X.2.2.2.2.2.2.1 3) (X.2.2.2.2.2.2.2.1 3) (X.2.2.2.2.2.2.2.2 3))))))))
def toF (X : AS) (f : Nat → Nat) : AS := (X.1, X.2.1, X.2.2.1, f, X.2.2.2.2)
def toK (X : AS) (K : OS) (kp : Bool) : AS := (X.1, K, kp, X.2.2.2)
def toL (X : AS) (tl : Nat) : AS := (X.1, X.2.1, X.2.2.1, X.2.2.2.1, tl, X.2.2.2.2.2)
def toB (X : AS) (tl : Nat) (tb : Nat → Nat) : AS := (X.1, X.2.1, X.2.2.1, X.2.2.2.1, tl, tb, X.2.2.2.2.2.2)
def toH (X : AS) (b n : Nat → Nat) (f : Nat → Nat → Int32) : AS := (X.1, X.2.1, X.2.2.1, X.2.2.2.1, X.2.2.2.2.1, X.2.2.2.2.2.1, b, n, f)
section WX
variable {D : va_G} {ci : Nat → ClassId} {ad : Nat → Nat} {X : AS} {T : OS} {tq la tt : Nat → Int32} {z : Nat → Nat → Int32} {H H1 : Heap}
theorem va_Pl {ws ws' : va_W} (h : va_P D vwCl (ws ++ ws') H) : va_P D vwCl ws H := fun k q hk => h k q (by
  have hl : k < ws.length := (List.getElem?_eq_some_iff.mp hk).1
  rw [List.getElem?_append_left hl]; exact hk)
theorem va_Pr {ws ws' : va_W} (h : va_P D vwCl (ws ++ ws') H) : va_P D vwCl ws' H := fun k q hk => h (ws.length + k) q (by
  rw [List.getElem?_append_right (Nat.le_add_right _ _), Nat.add_sub_cancel_left]; exact hk)
theorem va_Pf {A : Nat → Prop} {ws : va_W} (h : va_P D vwCl ws H) (hf : ∀ q : Nat, q < H.size → ¬ A q → H1[q]? = H[q]?) (hn : ∀ (k : Nat) (q : Nat × va_E), ws[k]? = some q → ¬ A q.1) : va_P D vwCl ws H1 := fun k q hk => (h k q hk).kept (hf q.1 (h k q hk).lt (hn k q hk))
def adrs (ad : Nat → Nat) (lo hi : Nat) (ws : va_W) : Prop := ∀ (k : Nat) (q : Nat × va_E), ws[k]? = some q → ∃ j, lo ≤ j ∧ j < hi ∧ q.1 = ad j
theorem adrs_app {lo mi hi : Nat} {ws ws' : va_W} (h : adrs ad lo mi ws) (h' : adrs ad mi hi ws') (h1 : lo ≤ mi) (h2 : mi ≤ hi) : adrs ad lo hi (ws ++ ws') := by
  intro k q hk
  rcases Nat.lt_or_ge k ws.length with e | e
  · rw [List.getElem?_append_left e] at hk
    obtain ⟨j, a, b, c⟩ := h k q hk
    exact ⟨j, a, by omega, c⟩
  · rw [List.getElem?_append_right e] at hk
    obtain ⟨j, a, b, c⟩ := h' _ q hk
    exact ⟨j, by omega, b, c⟩
theorem adrs_O (cI : ClassId) (n : Nat) (S : OS) (w r nb : Nat → Int32) : adrs ad n (n + 11) (wO cI (sh ad n) S w r nb) := fun k q hk => by
  obtain ⟨h1, h2⟩ := wO_adr _ _ _ _ _ _ k q hk
  exact ⟨n + k, by omega, by omega, h2⟩
theorem adrs_main (kp : Bool) (fd : Nat → Nat) : adrs ad 0 5 (wMain ci ad kp fd la tt) := fun k q hk => by
  match k, hk with
  | 0, hk => cases hk; exact ⟨0, by omega, by omega, rfl⟩
  | 1, hk => cases hk; exact ⟨1, by omega, by omega, rfl⟩
  | 2, hk => cases hk; exact ⟨2, by omega, by omega, rfl⟩
  | 3, hk => cases hk; exact ⟨3, by omega, by omega, rfl⟩
  | 4, hk => cases hk; exact ⟨4, by omega, by omega, rfl⟩
  | k + 5, hk => simp [wMain] at hk
theorem adrs_tp (n tl : Nat) (tb : Nat → Nat) : adrs ad n (n + 2) (wTp ci (sh ad n) tl tb tq) := fun k q hk => by
  match k, hk with
  | 0, hk => cases hk; exact ⟨n, by omega, by omega, rfl⟩
  | 1, hk => cases hk; exact ⟨n + 1, by omega, by omega, rfl⟩
  | k + 2, hk => simp [wTp] at hk
theorem adrs_sh (n b l : Nat) (f : Nat → Int32) : adrs ad n (n + 2) (wSh ci (sh ad n) b l f) := fun k q hk => by
  match k, hk with
  | 0, hk => cases hk; exact ⟨n, by omega, by omega, rfl⟩
  | 1, hk => cases hk; exact ⟨n + 1, by omega, by omega, rfl⟩
  | k + 2, hk => simp [wSh] at hk
theorem wX_adr : adrs ad 0 48 (wX ci ad X T tq la tt z) := adrs_app (adrs_main _ _) (adrs_app (adrs_O _ 5 _ _ _ _) (adrs_app (adrs_O _ 16 _ _ _ _) (adrs_app (adrs_O _ 27 _ _ _ _) (adrs_app (adrs_tp 38 _ _) (adrs_app (adrs_sh 40 _ _ _) (adrs_app (adrs_sh 42 _ _ _) (adrs_app (adrs_sh 44 _ _ _) (adrs_sh 46 _ _ _) (by decide) (by decide)) (by decide) (by decide)) (by decide) (by decide)) (by decide) (by decide)) (by decide) (by decide)) (by decide) (by decide)) (by decide) (by decide)) (by decide) (by decide)
def aX (ad : Nat → Nat) : Nat → Prop := fun q => ∃ k, k < 48 ∧ q = ad k
/-- addresses of the cells from lo to hi -/
def aR (ad : Nat → Nat) (lo hi : Nat) : Nat → Prop := fun q => ∃ k, lo ≤ k ∧ k < hi ∧ q = ad k
theorem aO_sh {n : Nat} : ∀ q, aO (sh ad n) q → aR ad n (n + 11) q := fun q ⟨k, h1, h2⟩ => ⟨n + k, by omega, by omega, h2⟩
theorem aR_X {lo hi : Nat} (h : hi ≤ 48) : ∀ q, aR ad lo hi q → aX ad q := fun q ⟨k, _, h2, h3⟩ => ⟨k, by omega, h3⟩
theorem aX_G {G : Nat → Prop} (hG : ∀ k, k < 48 → G (ad k)) : ∀ q, aX ad q → G q := fun q ⟨k, h1, h2⟩ => h2 ▸ hG k h1
theorem injA_sh {n : Nat} (hI : injA ad 48) (h : n + 11 ≤ 48) : injA (sh ad n) 11 := fun i j hi hj e => by
  have := hI (n + i) (n + j) (by omega) (by omega) e
  omega
theorem G_sh {G : Nat → Prop} {n : Nat} (hG : ∀ k, k < 48 → G (ad k)) (h : n + 11 ≤ 48) : ∀ k, k < 11 → G (sh ad n k) := fun k hk => hG (n + k) (by omega)
theorem G_sh2 {G : Nat → Prop} {n : Nat} (hG : ∀ k, k < 48 → G (ad k)) (h : n + 2 ≤ 48) : ∀ k, k < 2 → G (sh ad n k) := fun k hk => hG (n + k) (by omega)
theorem injA_sh2 {n : Nat} (hI : injA ad 48) (h : n + 2 ≤ 48) : injA (sh ad n) 2 := fun i j hi hj e => by
  have := hI (n + i) (n + j) (by omega) (by omega) e
  omega
theorem wX_len : (wX ci ad X T tq la tt z).length = 48 := rfl
theorem wX_k (i : Nat) (hi : i < 48) : ∃ e : va_E, (wX ci ad X T tq la tt z)[i]? = some (ad i, e) := by
  match i, hi with
  | 0, _ => exact ⟨_, rfl⟩
  | 1, _ => exact ⟨_, rfl⟩
  | 2, _ => exact ⟨_, rfl⟩
  | 3, _ => exact ⟨_, rfl⟩
  | 4, _ => exact ⟨_, rfl⟩
  | 5, _ => exact ⟨_, rfl⟩
  | 6, _ => exact ⟨_, rfl⟩
  | 7, _ => exact ⟨_, rfl⟩
  | 8, _ => exact ⟨_, rfl⟩
  | 9, _ => exact ⟨_, rfl⟩
  | 10, _ => exact ⟨_, rfl⟩
  | 11, _ => exact ⟨_, rfl⟩
  | 12, _ => exact ⟨_, rfl⟩
  | 13, _ => exact ⟨_, rfl⟩
  | 14, _ => exact ⟨_, rfl⟩
  | 15, _ => exact ⟨_, rfl⟩
  | 16, _ => exact ⟨_, rfl⟩
  | 17, _ => exact ⟨_, rfl⟩
  | 18, _ => exact ⟨_, rfl⟩
  | 19, _ => exact ⟨_, rfl⟩
  | 20, _ => exact ⟨_, rfl⟩
  | 21, _ => exact ⟨_, rfl⟩
  | 22, _ => exact ⟨_, rfl⟩
  | 23, _ => exact ⟨_, rfl⟩
  | 24, _ => exact ⟨_, rfl⟩
  | 25, _ => exact ⟨_, rfl⟩
  | 26, _ => exact ⟨_, rfl⟩
  | 27, _ => exact ⟨_, rfl⟩
  | 28, _ => exact ⟨_, rfl⟩
  | 29, _ => exact ⟨_, rfl⟩
  | 30, _ => exact ⟨_, rfl⟩
  | 31, _ => exact ⟨_, rfl⟩
  | 32, _ => exact ⟨_, rfl⟩
  | 33, _ => exact ⟨_, rfl⟩
  | 34, _ => exact ⟨_, rfl⟩
  | 35, _ => exact ⟨_, rfl⟩
  | 36, _ => exact ⟨_, rfl⟩
  | 37, _ => exact ⟨_, rfl⟩
  | 38, _ => exact ⟨_, rfl⟩
  | 39, _ => exact ⟨_, rfl⟩
  | 40, _ => exact ⟨_, rfl⟩
  | 41, _ => exact ⟨_, rfl⟩
  | 42, _ => exact ⟨_, rfl⟩
  | 43, _ => exact ⟨_, rfl⟩
  | 44, _ => exact ⟨_, rfl⟩
  | 45, _ => exact ⟨_, rfl⟩
  | 46, _ => exact ⟨_, rfl⟩
  | 47, _ => exact ⟨_, rfl⟩
  | i + 48, hi => omega
theorem wX_D (hI : injA ad 48) : va_D (aX ad) (wX ci ad X T tq la tt z) := by
  have key : ∀ (k : Nat) (q : Nat × va_E), (wX ci ad X T tq la tt z)[k]? = some q → k < 48 ∧ q.1 = ad k := fun k q hk => by
    have hl : k < 48 := (List.getElem?_eq_some_iff.mp hk).1
    obtain ⟨e, he⟩ := wX_k (ci := ci) (ad := ad) (X := X) (T := T) (tq := tq) (la := la) (tt := tt) (z := z) k hl
    rw [hk] at he
    cases he
    exact ⟨hl, rfl⟩
  refine ⟨fun i j p q hp hq h => ?_, fun k q hk => ?_⟩
  · obtain ⟨h1, h2⟩ := key i p hp
    obtain ⟨h3, h4⟩ := key j q hq
    exact hI i j h1 h3 (by rw [← h2, ← h4]; exact h)
  · obtain ⟨h1, h2⟩ := key k q hk
    exact ⟨k, h1, h2⟩
theorem adrs_no {lo hi a b : Nat} {ws : va_W} (hI : injA ad 48) (h : adrs ad lo hi ws) (hh : hi ≤ 48) (hb : b ≤ 48) (hd : hi ≤ a ∨ b ≤ lo) : ∀ (k : Nat) (q : Nat × va_E), ws[k]? = some q → ¬ aR ad a b q.1 := fun k q hk ⟨j, h1, h2, h3⟩ => by
  obtain ⟨i, g1, g2, g3⟩ := h k q hk
  have := hI i j (by omega) (by omega) (by rw [← g3, h3])
  omega
/-- the pieces of the class's world -/
theorem wX_un (h : va_P D vwCl (wX ci ad X T tq la tt z) H) : va_P D vwCl (wMain ci ad X.2.2.1 X.2.2.2.1 la tt) H ∧ va_P D vwCl (wO (ci 0) (sh ad 5) X.1 (z 0) (z 1) (z 2)) H ∧ va_P D vwCl (wO (ci 0) (sh ad 16) T (z 3) (z 4) (z 5)) H ∧ va_P D vwCl (wO (ci 0) (sh ad 27) X.2.1 (z 6) (z 7) (z 8)) H ∧ va_P D vwCl (wTp ci (sh ad 38) X.2.2.2.2.1 X.2.2.2.2.2.1 tq) H ∧ va_P D vwCl (wSh ci (sh ad 40) (X.2.2.2.2.2.2.1 0) (X.2.2.2.2.2.2.2.1 0) (X.2.2.2.2.2.2.2.2 0)) H ∧ va_P D vwCl (wSh ci (sh ad 42) (X.2.2.2.2.2.2.1 1) (X.2.2.2.2.2.2.2.1 1) (X.2.2.2.2.2.2.2.2 1)) H ∧ va_P D vwCl (wSh ci (sh ad 44) (X.2.2.2.2.2.2.1 2) (X.2.2.2.2.2.2.2.1 2) (X.2.2.2.2.2.2.2.2 2)) H ∧ va_P D vwCl (wSh ci (sh ad 46) (X.2.2.2.2.2.2.1 3) (X.2.2.2.2.2.2.2.1 3) (X.2.2.2.2.2.2.2.2 3)) H := by
  have h1 := va_Pr h
  have h2 := va_Pr h1
  have h3 := va_Pr h2
  have h4 := va_Pr h3
  have h5 := va_Pr h4
  have h6 := va_Pr h5
  have h7 := va_Pr h6
  exact ⟨va_Pl h, va_Pl h1, va_Pl h2, va_Pl h3, va_Pl h4, va_Pl h5, va_Pl h6, va_Pl h7, va_Pr h7⟩
theorem wX_s5 (h : va_P D vwCl (wX ci ad X T tq la tt z) H) : va_P D vwCl (wO (ci 0) (sh ad 5) X.1 (z 0) (z 1) (z 2)) H := (wX_un h).2.1
theorem wX_s16 (h : va_P D vwCl (wX ci ad X T tq la tt z) H) : va_P D vwCl (wO (ci 0) (sh ad 16) T (z 3) (z 4) (z 5)) H := (wX_un h).2.2.1
theorem wX_s27 (h : va_P D vwCl (wX ci ad X T tq la tt z) H) : va_P D vwCl (wO (ci 0) (sh ad 27) X.2.1 (z 6) (z 7) (z 8)) H := (wX_un h).2.2.2.1
theorem wX_s38 (h : va_P D vwCl (wX ci ad X T tq la tt z) H) : va_P D vwCl (wTp ci (sh ad 38) X.2.2.2.2.1 X.2.2.2.2.2.1 tq) H := (wX_un h).2.2.2.2.1
def z3 (z : Nat → Nat → Int32) (i : Nat) (w r nb : Nat → Int32) : Nat → Nat → Int32 := fun k => if k = i then w else if k = i + 1 then r else if k = i + 2 then nb else z k
/-- an orchestra of the class's world has changed -/
theorem wX_j5 (hI : injA ad 48) (h : va_P D vwCl (wX ci ad X T tq la tt z) H) (hf : ∀ q : Nat, q < H.size → ¬ aO (sh ad 5) q → H1[q]? = H[q]?) {S : OS} {w r nb : Nat → Int32} (h2 : va_P D vwCl (wO (ci 0) (sh ad 5) S w r nb) H1) : va_P D vwCl (wX ci ad (toS X S) T tq la tt (z3 z 0 w r nb)) H1 := by
  have hf' : ∀ q : Nat, q < H.size → ¬ aR ad 5 16 q → H1[q]? = H[q]? := fun q a b => hf q a (fun c => b (aO_sh q c))
  have h1 := va_Pr (va_Pr h)
  exact va_P.app (va_Pf (va_Pl h) hf' (adrs_no hI (adrs_main _ _) (by decide) (by decide) (Or.inl (by decide)))) (va_P.app h2 (va_Pf h1 hf' (adrs_no (lo := 16) (hi := 48) hI (adrs_app (adrs_O _ 16 _ _ _ _) (adrs_app (adrs_O _ 27 _ _ _ _) (adrs_app (adrs_tp 38 _ _) (adrs_app (adrs_sh 40 _ _ _) (adrs_app (adrs_sh 42 _ _ _) (adrs_app (adrs_sh 44 _ _ _) (adrs_sh 46 _ _ _) (by decide) (by decide)) (by decide) (by decide)) (by decide) (by decide)) (by decide) (by decide)) (by decide) (by decide)) (by decide) (by decide)) (by decide) (by decide) (Or.inr (by decide)))))
theorem wX_j16 (hI : injA ad 48) (h : va_P D vwCl (wX ci ad X T tq la tt z) H) (hf : ∀ q : Nat, q < H.size → ¬ aO (sh ad 16) q → H1[q]? = H[q]?) {T' : OS} {w r nb : Nat → Int32} (h2 : va_P D vwCl (wO (ci 0) (sh ad 16) T' w r nb) H1) : va_P D vwCl (wX ci ad X T' tq la tt (z3 z 3 w r nb)) H1 := by
  have hf' : ∀ q : Nat, q < H.size → ¬ aR ad 16 27 q → H1[q]? = H[q]? := fun q a b => hf q a (fun c => b (aO_sh q c))
  have h0 := va_Pr h
  have h1 := va_Pr (va_Pr h0)
  exact va_P.app (va_Pf (va_Pl h) hf' (adrs_no hI (adrs_main _ _) (by decide) (by decide) (Or.inl (by decide)))) (va_P.app (va_Pf (va_Pl h0) hf' (adrs_no hI (adrs_O _ 5 _ _ _ _) (by decide) (by decide) (Or.inl (by decide)))) (va_P.app h2 (va_Pf h1 hf' (adrs_no (lo := 27) (hi := 48) hI (adrs_app (adrs_O _ 27 _ _ _ _) (adrs_app (adrs_tp 38 _ _) (adrs_app (adrs_sh 40 _ _ _) (adrs_app (adrs_sh 42 _ _ _) (adrs_app (adrs_sh 44 _ _ _) (adrs_sh 46 _ _ _) (by decide) (by decide)) (by decide) (by decide)) (by decide) (by decide)) (by decide) (by decide)) (by decide) (by decide)) (by decide) (by decide) (Or.inr (by decide))))))
theorem wX_j27 (hI : injA ad 48) (h : va_P D vwCl (wX ci ad X T tq la tt z) H) (hf : ∀ q : Nat, q < H.size → ¬ aO (sh ad 27) q → H1[q]? = H[q]?) {K : OS} {w r nb : Nat → Int32} (h2 : va_P D vwCl (wO (ci 0) (sh ad 27) K w r nb) H1) : va_P D vwCl (wX ci ad (toK X K X.2.2.1) T tq la tt (z3 z 6 w r nb)) H1 := by
  have hf' : ∀ q : Nat, q < H.size → ¬ aR ad 27 38 q → H1[q]? = H[q]? := fun q a b => hf q a (fun c => b (aO_sh q c))
  have h0 := va_Pr h
  have h00 := va_Pr h0
  have h1 := va_Pr (va_Pr h00)
  exact va_P.app (va_Pf (va_Pl h) hf' (adrs_no hI (adrs_main _ _) (by decide) (by decide) (Or.inl (by decide)))) (va_P.app (va_Pf (va_Pl h0) hf' (adrs_no hI (adrs_O _ 5 _ _ _ _) (by decide) (by decide) (Or.inl (by decide)))) (va_P.app (va_Pf (va_Pl h00) hf' (adrs_no hI (adrs_O _ 16 _ _ _ _) (by decide) (by decide) (Or.inl (by decide)))) (va_P.app h2 (va_Pf h1 hf' (adrs_no (lo := 38) (hi := 48) hI (adrs_app (adrs_tp 38 _ _) (adrs_app (adrs_sh 40 _ _ _) (adrs_app (adrs_sh 42 _ _ _) (adrs_app (adrs_sh 44 _ _ _) (adrs_sh 46 _ _ _) (by decide) (by decide)) (by decide) (by decide)) (by decide) (by decide)) (by decide) (by decide)) (by decide) (by decide) (Or.inr (by decide)))))))
end WX
/-! one cell of the class's world changed -/
section WX2
variable (ci : Nat → ClassId) (ad : Nat → Nat) (X : AS) (T : OS) (tq la tt : Nat → Int32) (z : Nat → Nat → Int32) (j v : Nat) (x : Int32)
theorem wX_fd : (wX ci ad X T tq la tt z).set 2 (ad 2, .inl (ci 0, 7, .inl (upd (fun k => nI (X.2.2.2.1 k)) j (nI (X.2.2.2.1 j + 1))))) = wX ci ad (toF X (inc X.2.2.2.1 j)) T tq la tt z := by
  rw [upd_nI (X.2.2.2.1) j (X.2.2.2.1 j + 1) (inc X.2.2.2.1 j) (fun k => by simp only [inc]; split <;> simp_all)]
  rfl
theorem wX_la : (wX ci ad X T tq la tt z).set 3 (ad 3, .inl (ci 0, 256, .inl (upd la j x))) = wX ci ad X T tq (upd la j x) tt z := rfl
theorem wX_tt : (wX ci ad X T tq la tt z).set 4 (ad 4, .inl (ci 0, 256, .inl (upd tt j x))) = wX ci ad X T tq la (upd tt j x) z := rfl
theorem wX_kp (b : Bool) : (wX ci ad X T tq la tt z).set 0 (ad 0, .inr (3, ([.ref (ad 5), .ref (ad 16), .ref (ad 27), .int (bI X.2.2.1), .ref (ad 38), .ref (ad 1), .ref (ad 2), .ref (ad 3), .ref (ad 4)] : List Value).set 3 (.int (bI b)))) = wX ci ad (toK X X.2.1 b) T tq la tt z := rfl
theorem wX_o0 : (wX ci ad X T tq la tt z).set 6 (ad 6, .inl (ci 0, 12, .inl (upd (fun k => nI (X.1 0 k)) j (nI v)))) = wX ci ad (toS X (st X.1 0 j v)) T tq la tt z := by
  rw [upd_nI (X.1 0) j v (st X.1 0 j v 0) (fun k => by simp [st])]
  rfl
theorem wX_t0 : (wX ci ad X T tq la tt z).set 17 (ad 17, .inl (ci 0, 12, .inl (upd (fun k => nI (T 0 k)) j (nI v)))) = wX ci ad X (st T 0 j v) tq la tt z := by
  rw [upd_nI (T 0) j v (st T 0 j v 0) (fun k => by simp [st])]
  rfl
theorem wX_o1 : (wX ci ad X T tq la tt z).set 7 (ad 7, .inl (ci 0, 8, .inl (upd (fun k => nI (X.1 1 k)) j (nI v)))) = wX ci ad (toS X (st X.1 1 j v)) T tq la tt z := by
  rw [upd_nI (X.1 1) j v (st X.1 1 j v 1) (fun k => by simp [st])]
  rfl
theorem wX_t1 : (wX ci ad X T tq la tt z).set 18 (ad 18, .inl (ci 0, 8, .inl (upd (fun k => nI (T 1 k)) j (nI v)))) = wX ci ad X (st T 1 j v) tq la tt z := by
  rw [upd_nI (T 1) j v (st T 1 j v 1) (fun k => by simp [st])]
  rfl
theorem wX_o2 : (wX ci ad X T tq la tt z).set 8 (ad 8, .inl (ci 0, 8, .inl (upd (fun k => nI (X.1 2 k)) j (nI v)))) = wX ci ad (toS X (st X.1 2 j v)) T tq la tt z := by
  rw [upd_nI (X.1 2) j v (st X.1 2 j v 2) (fun k => by simp [st])]
  rfl
theorem wX_t2 : (wX ci ad X T tq la tt z).set 19 (ad 19, .inl (ci 0, 8, .inl (upd (fun k => nI (T 2 k)) j (nI v)))) = wX ci ad X (st T 2 j v) tq la tt z := by
  rw [upd_nI (T 2) j v (st T 2 j v 2) (fun k => by simp [st])]
  rfl
theorem wX_o3 : (wX ci ad X T tq la tt z).set 9 (ad 9, .inl (ci 0, 8, .inl (upd (fun k => nI (X.1 3 k)) j (nI v)))) = wX ci ad (toS X (st X.1 3 j v)) T tq la tt z := by
  rw [upd_nI (X.1 3) j v (st X.1 3 j v 3) (fun k => by simp [st])]
  rfl
theorem wX_t3 : (wX ci ad X T tq la tt z).set 20 (ad 20, .inl (ci 0, 8, .inl (upd (fun k => nI (T 3 k)) j (nI v)))) = wX ci ad X (st T 3 j v) tq la tt z := by
  rw [upd_nI (T 3) j v (st T 3 j v 3) (fun k => by simp [st])]
  rfl
theorem wX_o4 : (wX ci ad X T tq la tt z).set 10 (ad 10, .inl (ci 0, 8, .inl (upd (fun k => nI (X.1 4 k)) j (nI v)))) = wX ci ad (toS X (st X.1 4 j v)) T tq la tt z := by
  rw [upd_nI (X.1 4) j v (st X.1 4 j v 4) (fun k => by simp [st])]
  rfl
theorem wX_t4 : (wX ci ad X T tq la tt z).set 21 (ad 21, .inl (ci 0, 8, .inl (upd (fun k => nI (T 4 k)) j (nI v)))) = wX ci ad X (st T 4 j v) tq la tt z := by
  rw [upd_nI (T 4) j v (st T 4 j v 4) (fun k => by simp [st])]
  rfl
theorem wX_o5 : (wX ci ad X T tq la tt z).set 11 (ad 11, .inl (ci 0, 8, .inl (upd (fun k => nI (X.1 5 k)) j (nI v)))) = wX ci ad (toS X (st X.1 5 j v)) T tq la tt z := by
  rw [upd_nI (X.1 5) j v (st X.1 5 j v 5) (fun k => by simp [st])]
  rfl
theorem wX_t5 : (wX ci ad X T tq la tt z).set 22 (ad 22, .inl (ci 0, 8, .inl (upd (fun k => nI (T 5 k)) j (nI v)))) = wX ci ad X (st T 5 j v) tq la tt z := by
  rw [upd_nI (T 5) j v (st T 5 j v 5) (fun k => by simp [st])]
  rfl
theorem wX_sp : (wX ci ad X T tq la tt z).set 12 (ad 12, .inl (ci 0, 10, .inl (upd (fun k => nI (X.1 6 k) - nI 1) j (nI v - nI 1)))) = wX ci ad (toS X (st X.1 6 j v)) T tq la tt z := by
  have e : upd (fun k => nI (X.1 6 k) - nI 1) j (nI v - nI 1) = fun k => nI (st X.1 6 j v 6 k) - nI 1 := by
    funext k
    simp only [upd, st]
    by_cases h : k = j <;> simp [h]
  rw [e]
  rfl
theorem wX_oz : (wX ci ad X T tq la tt z).set 5 (ad 5, .inr (0, ([.ref (ad 6), .ref (ad 7), .ref (ad 8), .ref (ad 9), .ref (ad 10), .ref (ad 11), .ref (ad 12), .int (nI (X.1 7 0)), .int (nI (X.1 8 0)), .int (nI (X.1 9 0)), .ref (ad 13), .ref (ad 14), .ref (ad 15)] : List Value).set 9 (.int (nI v)))) = wX ci ad (toS X (st X.1 9 0 v)) T tq la tt z := rfl
theorem wX_tl : (wX ci ad X T tq la tt z).set 38 (ad 38, .inr (2, ([.int (nI X.2.2.2.2.1), .ref (ad 39), .int (tq 0), .int (tq 1), .int (tq 2), .int (tq 3)] : List Value).set 0 (.int (nI v)))) = wX ci ad (toL X v) T tq la tt z := rfl
end WX2
theorem in_t2 {x : Int32} {n : Nat} (hn : n < 2147483648) (h0 : ¬ x < 0) (h1 : x < nI n) : inN x n = true := in_t hn h0 (Int32.not_le.mpr h1)
theorem in_t3 {x : Int32} {n : Nat} (hn : n < 2147483647) (h0 : ¬ x < 0) (h1 : x ≤ nI n) : inN x (n + 1) = true := by
  unfold inN
  rw [decide_eq_true_eq]
  have a : (0 : Int32).toInt = 0 := rfl
  have b : (nI n).toInt = (n : Int) := nI_toInt (by omega)
  rw [Int32.lt_iff_toInt_lt, a] at h0
  rw [Int32.le_iff_toInt_le, b] at h1
  omega
theorem in_f2 {x : Int32} {n : Nat} (hn : n < 2147483648) (h : ¬ x < nI n) : inN x n = false := in_f1 hn (Int32.not_lt.mp h)
theorem in_f3 {x : Int32} {n : Nat} (hn : n < 2147483647) (h : ¬ x ≤ nI n) : inN x (n + 1) = false := by
  unfold inN
  rw [decide_eq_false_iff_not]
  have b : (nI n).toInt = (n : Int) := nI_toInt (by omega)
  rw [Int32.le_iff_toInt_le, b] at h
  omega
theorem tsw_out {x : Int32} {n : Nat} (h : inN x n = false) : x.toInt < 0 ∨ (n : Int) - 1 < x.toInt := by
  unfold inN at h
  rw [decide_eq_false_iff_not] at h
  omega
def inP (X : AS) (x : Int32) : Bool := inN x (X.1 7 0)
def pairB (X : AS) (x y : Int32) : Bool := inN x (X.1 7 0) && inN y (X.1 7 0) && decide (x ≠ y)
theorem pair_ex {X : AS} {x y : Int32} (h : pairB X x y = true) (hn : X.1 7 0 ≤ 8) : ∃ a b : Nat, a < X.1 7 0 ∧ b < X.1 7 0 ∧ a ≠ b ∧ x = nI a ∧ y = nI b := by
  unfold pairB at h
  simp only [Bool.and_eq_true, decide_eq_true_eq] at h
  obtain ⟨a, ha, rfl⟩ := in_ex h.1.1 (by omega)
  obtain ⟨b, hb, rfl⟩ := in_ex h.1.2 (by omega)
  exact ⟨a, b, ha, hb, fun e => h.2 (by rw [e]), rfl, rfl⟩
section WX3
variable {D : va_G} {ci : Nat → ClassId} {ad : Nat → Nat} {X : AS} {T : OS} {tq la tt : Nat → Int32} {z : Nat → Nat → Int32} {H H1 : Heap}
theorem adrs_rest (tl : Nat) (tb : Nat → Nat) (b0 n0 b1 n1 b2 n2 b3 n3 : Nat) (f0 f1 f2 f3 : Nat → Int32) : adrs ad 38 48 (wTp ci (sh ad 38) tl tb tq ++ (wSh ci (sh ad 40) b0 n0 f0 ++ (wSh ci (sh ad 42) b1 n1 f1 ++ (wSh ci (sh ad 44) b2 n2 f2 ++ wSh ci (sh ad 46) b3 n3 f3)))) := adrs_app (adrs_tp 38 _ _) (adrs_app (adrs_sh 40 _ _ _) (adrs_app (adrs_sh 42 _ _ _) (adrs_app (adrs_sh 44 _ _ _) (adrs_sh 46 _ _ _) (by decide) (by decide)) (by decide) (by decide)) (by decide) (by decide)) (by decide) (by decide)
theorem wX_D2 {n k : Nat} (hI : injA ad 48) (h1 : n + 11 ≤ 48) (h2 : k + 11 ≤ 48) (h3 : n + 11 ≤ k ∨ k + 11 ≤ n) (S : OS) (w r nb : Nat → Int32) (S2 : OS) (w2 r2 nb2 : Nat → Int32) : va_D (aO2 (sh ad n) (sh ad k)) (wO (ci 0) (sh ad n) S w r nb ++ wO (ci 0) (sh ad k) S2 w2 r2 nb2) := wO2_D (injA_sh hI h1) (injA_sh hI h2) (fun i j hi hj e => by
  have := hI (n + i) (k + j) (by omega) (by omega) e
  omega) S w r nb S2 w2 r2 nb2
/-- outside two ranges nothing has changed -/
theorem fr2 {n k : Nat} (hf : ∀ q : Nat, q < H.size → ¬ aO2 (sh ad n) (sh ad k) q → H1[q]? = H[q]?) : ∀ q : Nat, q < H.size → ¬ (aR ad n (n + 11) q ∨ aR ad k (k + 11) q) → H1[q]? = H[q]? := fun q a b => hf q a (fun c => c.elim (fun c => b (Or.inl (aO_sh q c))) (fun c => b (Or.inr (aO_sh q c))))
theorem no2 {lo hi a b a' b' : Nat} {ws : va_W} (hI : injA ad 48) (h : adrs ad lo hi ws) (hh : hi ≤ 48) (hb : b ≤ 48) (hb' : b' ≤ 48) (hd : hi ≤ a ∨ b ≤ lo) (hd' : hi ≤ a' ∨ b' ≤ lo) : ∀ (k : Nat) (q : Nat × va_E), ws[k]? = some q → ¬ (aR ad a b q.1 ∨ aR ad a' b' q.1) := fun k q hk c => c.elim (adrs_no hI h hh hb hd k q hk) (adrs_no hI h hh hb' hd' k q hk)
theorem wX_j16_5 (hI : injA ad 48) (h : va_P D vwCl (wX ci ad X T tq la tt z) H) (hf : ∀ q : Nat, q < H.size → ¬ aO2 (sh ad 16) (sh ad 5) q → H1[q]? = H[q]?) {S' : OS} (h2 : va_P D vwCl (wO (ci 0) (sh ad 16) S' (z 3) (z 4) (z 5) ++ wO (ci 0) (sh ad 5) X.1 (z 0) (z 1) (z 2)) H1) : va_P D vwCl (wX ci ad X S' tq la tt z) H1 := by
  have hf2 := fr2 hf
  have h5 := va_Pr h
  have h16 := va_Pr h5
  have h27 := va_Pr h16
  have h38 := va_Pr h27
  exact va_P.app (va_Pf (va_Pl h) hf2 (no2 hI (adrs_main _ _) (by decide) (by decide) (by decide) (Or.inl (by decide)) (Or.inl (by decide)))) (va_P.app (va_Pr h2) (va_P.app (va_Pl h2) (va_P.app (va_Pf (va_Pl h27) hf2 (no2 hI (adrs_O _ 27 _ _ _ _) (by decide) (by decide) (by decide) (Or.inr (by decide)) (Or.inr (by decide)))) (va_Pf h38 hf2 (no2 hI (adrs_rest _ _ _ _ _ _ _ _ _ _ _ _ _ _) (by decide) (by decide) (by decide) (Or.inr (by decide)) (Or.inr (by decide)))))))
theorem wX_j27_5 (hI : injA ad 48) (h : va_P D vwCl (wX ci ad X T tq la tt z) H) (hf : ∀ q : Nat, q < H.size → ¬ aO2 (sh ad 27) (sh ad 5) q → H1[q]? = H[q]?) {S' : OS} (h2 : va_P D vwCl (wO (ci 0) (sh ad 27) S' (z 6) (z 7) (z 8) ++ wO (ci 0) (sh ad 5) X.1 (z 0) (z 1) (z 2)) H1) : va_P D vwCl (wX ci ad (toK X S' X.2.2.1) T tq la tt z) H1 := by
  have hf2 := fr2 hf
  have h5 := va_Pr h
  have h16 := va_Pr h5
  have h27 := va_Pr h16
  have h38 := va_Pr h27
  exact va_P.app (va_Pf (va_Pl h) hf2 (no2 hI (adrs_main _ _) (by decide) (by decide) (by decide) (Or.inl (by decide)) (Or.inl (by decide)))) (va_P.app (va_Pr h2) (va_P.app (va_Pf (va_Pl h16) hf2 (no2 hI (adrs_O _ 16 _ _ _ _) (by decide) (by decide) (by decide) (Or.inl (by decide)) (Or.inr (by decide)))) (va_P.app (va_Pl h2) (va_Pf h38 hf2 (no2 hI (adrs_rest _ _ _ _ _ _ _ _ _ _ _ _ _ _) (by decide) (by decide) (by decide) (Or.inr (by decide)) (Or.inr (by decide)))))))
theorem wX_j5_27 (hI : injA ad 48) (h : va_P D vwCl (wX ci ad X T tq la tt z) H) (hf : ∀ q : Nat, q < H.size → ¬ aO2 (sh ad 5) (sh ad 27) q → H1[q]? = H[q]?) {S' : OS} (h2 : va_P D vwCl (wO (ci 0) (sh ad 5) S' (z 0) (z 1) (z 2) ++ wO (ci 0) (sh ad 27) X.2.1 (z 6) (z 7) (z 8)) H1) : va_P D vwCl (wX ci ad (toS X S') T tq la tt z) H1 := by
  have hf2 := fr2 hf
  have h5 := va_Pr h
  have h16 := va_Pr h5
  have h27 := va_Pr h16
  have h38 := va_Pr h27
  exact va_P.app (va_Pf (va_Pl h) hf2 (no2 hI (adrs_main _ _) (by decide) (by decide) (by decide) (Or.inl (by decide)) (Or.inl (by decide)))) (va_P.app (va_Pl h2) (va_P.app (va_Pf (va_Pl h16) hf2 (no2 hI (adrs_O _ 16 _ _ _ _) (by decide) (by decide) (by decide) (Or.inr (by decide)) (Or.inl (by decide)))) (va_P.app (va_Pr h2) (va_Pf h38 hf2 (no2 hI (adrs_rest _ _ _ _ _ _ _ _ _ _ _ _ _ _) (by decide) (by decide) (by decide) (Or.inr (by decide)) (Or.inr (by decide)))))))
theorem wX_j5_16 (hI : injA ad 48) (h : va_P D vwCl (wX ci ad X T tq la tt z) H) (hf : ∀ q : Nat, q < H.size → ¬ aO2 (sh ad 5) (sh ad 16) q → H1[q]? = H[q]?) {S' : OS} (h2 : va_P D vwCl (wO (ci 0) (sh ad 5) S' (z 0) (z 1) (z 2) ++ wO (ci 0) (sh ad 16) T (z 3) (z 4) (z 5)) H1) : va_P D vwCl (wX ci ad (toS X S') T tq la tt z) H1 := by
  have hf2 := fr2 hf
  have h5 := va_Pr h
  have h16 := va_Pr h5
  have h27 := va_Pr h16
  have h38 := va_Pr h27
  exact va_P.app (va_Pf (va_Pl h) hf2 (no2 hI (adrs_main _ _) (by decide) (by decide) (by decide) (Or.inl (by decide)) (Or.inl (by decide)))) (va_P.app (va_Pl h2) (va_P.app (va_Pr h2) (va_P.app (va_Pf (va_Pl h27) hf2 (no2 hI (adrs_O _ 27 _ _ _ _) (by decide) (by decide) (by decide) (Or.inr (by decide)) (Or.inr (by decide)))) (va_Pf h38 hf2 (no2 hI (adrs_rest _ _ _ _ _ _ _ _ _ _ _ _ _ _) (by decide) (by decide) (by decide) (Or.inr (by decide)) (Or.inr (by decide)))))))
/-- a sheet of the class's world -/
theorem wX_sh {k : Nat} (hk : k < 4) (h : va_P D vwCl (wX ci ad X T tq la tt z) H) : va_P D vwCl (wSh ci (sh ad (40 + 2 * k)) (X.2.2.2.2.2.2.1 k) (X.2.2.2.2.2.2.2.1 k) (X.2.2.2.2.2.2.2.2 k)) H := by
  obtain ⟨-, -, -, -, -, h0, h1, h2, h3⟩ := wX_un h
  rcases (show k = 0 ∨ k = 1 ∨ k = 2 ∨ k = 3 by omega) with rfl | rfl | rfl | rfl
  · exact h0
  · exact h1
  · exact h2
  · exact h3
def aT (a : Nat → Nat) : Nat → Prop := fun q => ∃ k, k < 2 ∧ q = a k
theorem aT_sh {n : Nat} : ∀ q, aT (sh ad n) q → aR ad n (n + 2) q := fun q ⟨k, h1, h2⟩ => ⟨n + k, by omega, by omega, h2⟩
def updF {α : Type} (f : Nat → α) (k : Nat) (v : α) : Nat → α := fun j => if j = k then v else f j
theorem updF_s {α : Type} (f : Nat → α) (k : Nat) (v : α) : updF f k v k = v := by simp [updF]
theorem updF_n {α : Type} {f : Nat → α} {k j : Nat} {v : α} (h : j ≠ k) : updF f k v j = f j := by simp [updF, h]
theorem wX_jS (hI : injA ad 48) {k : Nat} (hk : k < 4) (h : va_P D vwCl (wX ci ad X T tq la tt z) H) (hf : ∀ q : Nat, q < H.size → ¬ aT (sh ad (40 + 2 * k)) q → H1[q]? = H[q]?) {b n : Nat} {f : Nat → Int32} (h2 : va_P D vwCl (wSh ci (sh ad (40 + 2 * k)) b n f) H1) : va_P D vwCl (wX ci ad (toH X (updF X.2.2.2.2.2.2.1 k b) (updF X.2.2.2.2.2.2.2.1 k n) (updF X.2.2.2.2.2.2.2.2 k f)) T tq la tt z) H1 := by
  have hf' : ∀ q : Nat, q < H.size → ¬ aR ad (40 + 2 * k) (40 + 2 * k + 2) q → H1[q]? = H[q]? := fun q a b => hf q a (fun c => b (aT_sh q c))
  have h5 := va_Pr h
  have h16 := va_Pr h5
  have h27 := va_Pr h16
  have h38 := va_Pr h27
  have h40 := va_Pr h38
  have h42 := va_Pr h40
  have h44 := va_Pr h42
  have h46 := va_Pr h44
  refine va_P.app (va_Pf (va_Pl h) hf' (adrs_no hI (adrs_main _ _) (by decide) (by omega) (Or.inl (by omega)))) (va_P.app (va_Pf (va_Pl h5) hf' (adrs_no hI (adrs_O _ 5 _ _ _ _) (by decide) (by omega) (Or.inl (by omega)))) (va_P.app (va_Pf (va_Pl h16) hf' (adrs_no hI (adrs_O _ 16 _ _ _ _) (by decide) (by omega) (Or.inl (by omega)))) (va_P.app (va_Pf (va_Pl h27) hf' (adrs_no hI (adrs_O _ 27 _ _ _ _) (by decide) (by omega) (Or.inl (by omega)))) (va_P.app (va_Pf (va_Pl h38) hf' (adrs_no hI (adrs_tp 38 _ _) (by decide) (by omega) (Or.inl (by omega)))) ?_))))
  rcases (show k = 0 ∨ k = 1 ∨ k = 2 ∨ k = 3 by omega) with rfl | rfl | rfl | rfl
  · exact va_P.app h2 (va_P.app (va_Pf (va_Pl h42) hf' (adrs_no hI (adrs_sh 42 _ _ _) (by decide) (by decide) (Or.inr (by decide)))) (va_P.app (va_Pf (va_Pl h44) hf' (adrs_no hI (adrs_sh 44 _ _ _) (by decide) (by decide) (Or.inr (by decide)))) (va_Pf h46 hf' (adrs_no hI (adrs_sh 46 _ _ _) (by decide) (by decide) (Or.inr (by decide))))))
  · exact va_P.app (va_Pf (va_Pl h40) hf' (adrs_no hI (adrs_sh 40 _ _ _) (by decide) (by decide) (Or.inl (by decide)))) (va_P.app h2 (va_P.app (va_Pf (va_Pl h44) hf' (adrs_no hI (adrs_sh 44 _ _ _) (by decide) (by decide) (Or.inr (by decide)))) (va_Pf h46 hf' (adrs_no hI (adrs_sh 46 _ _ _) (by decide) (by decide) (Or.inr (by decide))))))
  · exact va_P.app (va_Pf (va_Pl h40) hf' (adrs_no hI (adrs_sh 40 _ _ _) (by decide) (by decide) (Or.inl (by decide)))) (va_P.app (va_Pf (va_Pl h42) hf' (adrs_no hI (adrs_sh 42 _ _ _) (by decide) (by decide) (Or.inl (by decide)))) (va_P.app h2 (va_Pf h46 hf' (adrs_no hI (adrs_sh 46 _ _ _) (by decide) (by decide) (Or.inr (by decide))))))
  · exact va_P.app (va_Pf (va_Pl h40) hf' (adrs_no hI (adrs_sh 40 _ _ _) (by decide) (by decide) (Or.inl (by decide)))) (va_P.app (va_Pf (va_Pl h42) hf' (adrs_no hI (adrs_sh 42 _ _ _) (by decide) (by decide) (Or.inl (by decide)))) (va_P.app (va_Pf (va_Pl h44) hf' (adrs_no hI (adrs_sh 44 _ _ _) (by decide) (by decide) (Or.inl (by decide)))) h2))
end WX3
