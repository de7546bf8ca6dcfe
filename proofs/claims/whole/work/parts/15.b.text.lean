/-! texts, read from bytes -/
def ext (P : Nat → Bool) : Nat → Nat → Nat
  | 0, p => p
  | f + 1, p => if P p = true then ext P f (p + 1) else p
theorem ext_t {P : Nat → Bool} {f p : Nat} (h : P p = true) (hf : 0 < f) : ext P f p = ext P (f - 1) (p + 1) := by
  obtain ⟨f, rfl⟩ : ∃ g, f = g + 1 := ⟨f - 1, by omega⟩
  rw [ext, if_pos h, Nat.add_sub_cancel]
theorem ext_f {P : Nat → Bool} {p : Nat} (h : P p = false) : ∀ f, ext P f p = p
  | 0 => rfl
  | f + 1 => by rw [ext, if_neg (by rw [h]; decide)]
theorem ext_ge (P : Nat → Bool) : ∀ f p, p ≤ ext P f p
  | 0, _ => Nat.le_refl _
  | f + 1, p => by
    have := ext_ge P f (p + 1)
    rw [ext]
    split <;> omega
theorem ext_le {P : Nat → Bool} {n : Nat} (hP : ∀ k, P k = true → k < n) : ∀ f p, p ≤ n → ext P f p ≤ n
  | 0, _, h => h
  | f + 1, p, h => by
    rw [ext]
    split
    · rename_i g
      exact ext_le hP f (p + 1) (hP p g)
    · exact h
/-- a byte and 1; 0 where there is none -/
def bE (tb : Nat → Nat) (tl k : Nat) : Nat := if k < tl then tb k + 1 else 0
def bBl (b : Nat) : Bool := b == 33
def bLt (b : Nat) : Bool := decide (98 ≤ b) && decide (b ≤ 123)
def bDg (b : Nat) : Bool := decide (49 ≤ b) && decide (b ≤ 58)
def srtB (b : Nat) : Nat := if b = 0 then 0 else if bLt b = true then 1 else if bDg b = true then 2 else if b = 60 then 3 else 4
def q4 (a b c d : Int32) : Nat → Int32 := fun k => match k with
  | 0 => a
  | 1 => b
  | 2 => c
  | _ => d
section TX
variable (tb : Nat → Nat) (tl : Nat)
def blk (k : Nat) : Bool := bBl (bE tb tl k)
def ltr (k : Nat) : Bool := bLt (bE tb tl k)
def dgt (k : Nat) : Bool := bDg (bE tb tl k)
def vl : Nat → Nat → Nat → Nat
  | 0, _, v => v
  | f + 1, p, v => if dgt tb tl p = true then vl f (p + 1) (min 1000 (v * 10 + (bE tb tl p - 49))) else v
/-- the token from a place on: where it begins, its sort, where the next may begin, its value -/
def stt (p : Nat) : Nat := ext (blk tb tl) (121 - p) p
def srt (p : Nat) : Nat := srtB (bE tb tl (stt tb tl p))
def nxt (p : Nat) : Nat := if srt tb tl p = 1 then ext (ltr tb tl) (121 - stt tb tl p) (stt tb tl p) else if srt tb tl p = 2 then ext (dgt tb tl) (121 - stt tb tl p) (stt tb tl p) else if srt tb tl p = 0 then stt tb tl p else stt tb tl p + 1
def vlu (p : Nat) : Nat := if srt tb tl p = 2 then vl tb tl (121 - stt tb tl p) (stt tb tl p) 0 else 0
/-- where the class stands before it reads digits -/
def aft (p : Nat) : Nat := if srt tb tl p = 2 then stt tb tl p else nxt tb tl p
def tkq (p : Nat) : Nat → Int32 := q4 (nI (srt tb tl p)) (nI (stt tb tl p)) (nI (nxt tb tl p)) (nI (vlu tb tl p))
def isW (p i : Nat) : Bool := srt tb tl p == 1 && (nxt tb tl p - stt tb tl p == (wd i).length) && !anyTo (fun k => bE tb tl (stt tb tl p + k) != (wd i).getD k 0 + 1) (wd i).length
def kT (p : Nat) : Nat := if anyTo (fun k => isW tb tl p k) 7 = true then frst (fun k => isW tb tl p k) 7 + 1 else 0
def rNum (p mx : Nat) : Bool := srt tb tl p == 2 && decide (vlu tb tl p ≤ mx)
def nP (p mx : Nat) : Nat := if rNum tb tl p mx = true then nxt tb tl p else p
abbrev RS : Type := Bool × Nat × OS
def pR (i f mx u p : Nat) (S : OS) : RS := if isW tb tl p i = true then (if rNum tb tl (nxt tb tl p) mx = true then (true, nxt tb tl (nxt tb tl p), st S f u (vlu tb tl (nxt tb tl p))) else (false, nxt tb tl p, S)) else (true, p, S)
def bR (p : Nat) (S : OS) : RS := if rNum tb tl (nxt tb tl p) 11 = true then (if rNum tb tl (nxt tb tl (nxt tb tl p)) 63 = true then (true, nxt tb tl (nxt tb tl (nxt tb tl p)), st S 0 (vlu tb tl (nxt tb tl p)) (vlu tb tl (nxt tb tl (nxt tb tl p)))) else (false, nxt tb tl (nxt tb tl p), S)) else (false, nxt tb tl p, S)
def thn (r : RS) (f : Nat → OS → RS) : RS := if r.1 = true then f r.2.1 r.2.2 else r
def kR (u p : Nat) (S : OS) : RS := thn (thn (thn (pR tb tl 8 2 15 u p S) (pR tb tl 9 3 5 u)) (pR tb tl 10 4 9 u)) (pR tb tl 11 5 99 u)
def iR (p : Nat) (S : OS) : RS := if isW tb tl p 7 = true then bR tb tl p S else if kT tb tl p = 0 ∨ 8 ≤ S 7 0 then (false, p, S) else kR tb tl (S 7 0) (nxt tb tl p) (engS S (kT tb tl p - 1) 0)
/-- whether it is a text, how many items or where it is wrong, what it tells -/
def tR : Nat → Nat → Nat → OS → RS
  | 0, _, p, S => (false, stt tb tl p, S)
  | f + 1, n, p, S => if (iR tb tl p S).1 = true then (if srt tb tl (iR tb tl p S).2.1 = 0 then (true, n, (iR tb tl p S).2.2) else if srt tb tl (iR tb tl p S).2.1 = 3 then tR f (n + 1) (nxt tb tl (iR tb tl p S).2.1) (iR tb tl p S).2.2 else (false, stt tb tl (iR tb tl p S).2.1, (iR tb tl p S).2.2)) else (false, stt tb tl (iR tb tl p S).2.1, (iR tb tl p S).2.2)
end TX
def tI (r : RS) : Int32 := if r.1 = true then nI r.2.1 else -1 - nI r.2.1
def p_text (X : AS) : Int32 × AS := (tI (tR X.2.2.2.2.2.1 X.2.2.2.2.1 120 1 0 X.1), if (tR X.2.2.2.2.2.1 X.2.2.2.2.1 120 1 0 X.1).1 = true then toL (toS X (tR X.2.2.2.2.2.1 X.2.2.2.2.1 120 1 0 X.1).2.2) 0 else toL X 0)
section TXL
variable {tb : Nat → Nat} {tl : Nat}
theorem bE_lt {k : Nat} (h : bE tb tl k ≠ 0) : k < tl := by
  unfold bE at h
  split at h
  · assumption
  · exact absurd rfl h
theorem bE_in {k : Nat} (h : k < tl) : bE tb tl k = tb k + 1 := if_pos h
theorem bE_out {k : Nat} (h : tl ≤ k) : bE tb tl k = 0 := if_neg (by omega)
theorem bE_le (h : ∀ k, tb k < 256) (k : Nat) : bE tb tl k ≤ 256 := by
  have := h k
  unfold bE
  split <;> omega
theorem blk_lt {k : Nat} (h : blk tb tl k = true) : k < tl := bE_lt (fun e => by rw [blk, e] at h; cases h)
theorem ltr_lt {k : Nat} (h : ltr tb tl k = true) : k < tl := bE_lt (fun e => by rw [ltr, e] at h; cases h)
theorem dgt_lt {k : Nat} (h : dgt tb tl k = true) : k < tl := bE_lt (fun e => by rw [dgt, e] at h; cases h)
theorem stt_le {p : Nat} (h : p ≤ tl) : stt tb tl p ≤ tl := ext_le (fun _ => blk_lt) _ _ h
theorem stt_ge (p : Nat) : p ≤ stt tb tl p := ext_ge _ _ _
theorem srt_le (p : Nat) : srt tb tl p ≤ 4 := by
  unfold srt srtB
  repeat' split
  all_goals omega
theorem srtB_0 {b : Nat} (h : srtB b = 0) : b = 0 := by
  unfold srtB at h
  repeat' split at h
  all_goals first | assumption | omega
theorem srtB_ne {b : Nat} (h : b ≠ 0) : srtB b ≠ 0 := fun e => h (srtB_0 e)
theorem srt_lt {p : Nat} (h : srt tb tl p ≠ 0) : stt tb tl p < tl := bE_lt (fun e => h (by rw [srt, e]; rfl))
theorem nxt_le {p : Nat} (h : p ≤ tl) : nxt tb tl p ≤ tl := by
  have h1 := stt_le (tb := tb) h
  unfold nxt
  split
  · exact ext_le (fun _ => ltr_lt) _ _ h1
  · split
    · exact ext_le (fun _ => dgt_lt) _ _ h1
    · split
      · exact h1
      · exact srt_lt (by assumption)
theorem nxt_ge (p : Nat) : stt tb tl p ≤ nxt tb tl p := by
  unfold nxt
  split
  · exact ext_ge _ _ _
  · split
    · exact ext_ge _ _ _
    · split <;> omega
theorem srt1 {p : Nat} (h : srt tb tl p = 1) : ltr tb tl (stt tb tl p) = true := by
  unfold srt srtB at h
  rw [ltr]
  repeat' split at h
  all_goals first | assumption | omega
theorem srt2 {p : Nat} (h : srt tb tl p = 2) : dgt tb tl (stt tb tl p) = true := by
  unfold srt srtB at h
  rw [dgt]
  repeat' split at h
  all_goals first | assumption | omega
/-- a token takes a byte at least, but for the end -/
theorem nxt_gt {p : Nat} (ht : tl ≤ 120) (h : srt tb tl p ≠ 0) : stt tb tl p < nxt tb tl p := by
  have h0 := srt_lt h
  unfold nxt
  split
  · rename_i e
    rw [ext_t (srt1 e) (by omega)]
    exact ext_ge _ _ _
  · split
    · rename_i e
      rw [ext_t (srt2 e) (by omega)]
      exact ext_ge _ _ _
    · first | omega | (rw [if_neg h]; omega)
theorem vl_t {f p v : Nat} (h : dgt tb tl p = true) (hf : 0 < f) : vl tb tl f p v = vl tb tl (f - 1) (p + 1) (min 1000 (v * 10 + (bE tb tl p - 49))) := by
  obtain ⟨f, rfl⟩ : ∃ g, f = g + 1 := ⟨f - 1, by omega⟩
  rw [vl, if_pos h, Nat.add_sub_cancel]
theorem vl_f {p v : Nat} (h : dgt tb tl p = false) : ∀ f, vl tb tl f p v = v
  | 0 => rfl
  | f + 1 => by rw [vl, if_neg (by rw [h]; decide)]
theorem vl_le : ∀ f p v, v ≤ 1000 → vl tb tl f p v ≤ 1000
  | 0, _, _, h => h
  | f + 1, p, v, h => by
    rw [vl]
    split
    · exact vl_le f (p + 1) _ (Nat.min_le_left _ _)
    · exact h
theorem vlu_le (p : Nat) : vlu tb tl p ≤ 1000 := by
  unfold vlu
  split
  · exact vl_le _ _ _ (by omega)
  · omega
theorem nP_le {p mx : Nat} (h : p ≤ tl) : nP tb tl p mx ≤ tl := by
  unfold nP
  split
  · exact nxt_le h
  · exact h
theorem rNum_le {p mx : Nat} (h : rNum tb tl p mx = true) : vlu tb tl p ≤ mx := by
  unfold rNum at h
  simp only [Bool.and_eq_true, decide_eq_true_eq] at h
  exact h.2
theorem rNum_s {p mx : Nat} (h : rNum tb tl p mx = true) : srt tb tl p = 2 := by
  unfold rNum at h
  simp only [Bool.and_eq_true, beq_iff_eq] at h
  exact h.1
theorem isW_s {p i : Nat} (h : isW tb tl p i = true) : srt tb tl p = 1 := by
  unfold isW at h
  simp only [Bool.and_eq_true, beq_iff_eq] at h
  exact h.1.1
theorem kT_le (p : Nat) : kT tb tl p ≤ 7 := by
  unfold kT
  split
  · rename_i h
    have := (frst_lt h).1
    omega
  · omega
theorem kT_w {p : Nat} (h : kT tb tl p ≠ 0) : kT tb tl p - 1 < 7 ∧ isW tb tl p (kT tb tl p - 1) = true := by
  unfold kT at h ⊢
  split
  · rename_i g
    obtain ⟨a, b, _⟩ := frst_lt g
    exact ⟨a, b⟩
  · rename_i g
    rw [if_neg g] at h
    exact absurd rfl h
/-- what a step leaves is as all states are, and the place goes on -/
def okR (tl p0 : Nat) (r : RS) : Prop := WF r.2.2 ∧ r.2.1 ≤ tl ∧ p0 ≤ r.2.1
theorem pR_ok {i f mx u p : Nat} {S : OS} (h : WF S) (hp : p ≤ tl) (hs : ∀ v, v ≤ mx → WF (st S f u v)) : okR tl p (pR tb tl i f mx u p S) := by
  have h1 := nxt_le (tb := tb) hp
  have h2 := nxt_le (tb := tb) h1
  have g1 : p ≤ nxt tb tl p := Nat.le_trans (stt_ge p) (nxt_ge p)
  have g2 : nxt tb tl p ≤ nxt tb tl (nxt tb tl p) := Nat.le_trans (stt_ge _) (nxt_ge _)
  unfold pR
  split
  · split
    · rename_i g
      exact ⟨hs _ (rNum_le g), h2, Nat.le_trans g1 g2⟩
    · exact ⟨h, h1, g1⟩
  · exact ⟨h, hp, Nat.le_refl _⟩
theorem bR_ok {p : Nat} {S : OS} (h : WF S) (hp : p ≤ tl) : okR tl (nxt tb tl p) (bR tb tl p S) := by
  have h1 := nxt_le (tb := tb) hp
  have h2 := nxt_le (tb := tb) h1
  have h3 := nxt_le (tb := tb) h2
  have g2 : nxt tb tl p ≤ nxt tb tl (nxt tb tl p) := Nat.le_trans (stt_ge _) (nxt_ge _)
  have g3 : nxt tb tl (nxt tb tl p) ≤ nxt tb tl (nxt tb tl (nxt tb tl p)) := Nat.le_trans (stt_ge _) (nxt_ge _)
  unfold bR
  split
  · split
    · rename_i g
      exact ⟨WF_st0 h _ (Nat.lt_succ_of_le (rNum_le g)), h3, Nat.le_trans g2 g3⟩
    · exact ⟨h, h2, g2⟩
  · exact ⟨h, h1, Nat.le_refl _⟩
theorem thn_ok {p : Nat} {r : RS} {f : Nat → OS → RS} (h : okR tl p r) (hf : ∀ q S, q ≤ tl → WF S → okR tl q (f q S)) : okR tl p (thn r f) := by
  unfold thn
  split
  · obtain ⟨a, b, c⟩ := hf r.2.1 r.2.2 h.2.1 h.1
    exact ⟨a, b, Nat.le_trans h.2.2 c⟩
  · exact h
theorem kR_ok {u p : Nat} {S : OS} (h : WF S) (hp : p ≤ tl) : okR tl p (kR tb tl u p S) :=
  thn_ok (thn_ok (thn_ok (pR_ok h hp (fun _ hv => WF_st2 h u (by omega))) (fun _ _ hq hS => pR_ok hS hq (fun _ hv => WF_st3 hS u (by omega)))) (fun _ _ hq hS => pR_ok hS hq (fun _ hv => WF_st4 hS u (by omega)))) (fun _ _ hq hS => pR_ok hS hq (fun _ hv => WF_st5 hS u (by omega)))
theorem WF_engS {S : OS} (h : WF S) (hn : S 7 0 < 8) {k : Nat} (hk : k < 7) : WF (engS S k 0) := WF_comeS h hn hk (by decide) (by decide) (by decide) (by decide)
theorem iR_ok {p : Nat} {S : OS} (h : WF S) (hp : p ≤ tl) : okR tl p (iR tb tl p S) ∧ ((iR tb tl p S).1 = true → nxt tb tl p ≤ (iR tb tl p S).2.1 ∧ srt tb tl p = 1) := by
  have g1 : p ≤ nxt tb tl p := Nat.le_trans (stt_ge p) (nxt_ge p)
  unfold iR
  split
  · rename_i g
    obtain ⟨a, b, c⟩ := bR_ok (tb := tb) h hp
    exact ⟨⟨a, b, Nat.le_trans g1 c⟩, fun _ => ⟨c, isW_s g⟩⟩
  · split
    · exact ⟨⟨h, hp, Nat.le_refl _⟩, fun z => by cases z⟩
    · rename_i g
      obtain ⟨a, b, c⟩ := kR_ok (tb := tb) (u := S 7 0) (S := engS S (kT tb tl p - 1) 0) (WF_engS h (by omega) (kT_w (by omega)).1) (nxt_le (tb := tb) hp)
      exact ⟨⟨a, b, Nat.le_trans g1 c⟩, fun _ => ⟨c, isW_s (kT_w (tb := tb) (tl := tl) (p := p) (by omega)).2⟩⟩
theorem iR_n {p : Nat} {S : OS} (ht : tl ≤ 120) (h : WF S) (hp : p ≤ tl) (h1 : (iR tb tl p S).1 = true) : p + 1 ≤ (iR tb tl p S).2.1 := by
  obtain ⟨_, b⟩ := iR_ok (tb := tb) h hp
  obtain ⟨c, d⟩ := b h1
  have := nxt_gt (tb := tb) (p := p) ht (by omega)
  have := stt_ge (tb := tb) (tl := tl) p
  omega
/-- evening and the draws' number stay -/
theorem pR_8 {i f mx u p : Nat} {S : OS} (hf : f ≠ 8) : (pR tb tl i f mx u p S).2.2 8 0 = S 8 0 := by
  unfold pR
  repeat' split
  all_goals first | rfl | (show st S f u _ 8 0 = S 8 0; exact st_ne u 0 _ (Ne.symm hf))
theorem thn_8 {r : RS} {f : Nat → OS → RS} {v : Nat} (h : r.2.2 8 0 = v) (hf : ∀ q S, (f q S).2.2 8 0 = S 8 0) : (thn r f).2.2 8 0 = v := by
  unfold thn
  split
  · rw [hf, h]
  · exact h
theorem iR_8 {p : Nat} {S : OS} : (iR tb tl p S).2.2 8 0 = S 8 0 := by
  unfold iR
  split
  · unfold bR
    repeat' split
    all_goals rfl
  · split
    · rfl
    · exact thn_8 (thn_8 (thn_8 (pR_8 (by decide)) (fun _ _ => pR_8 (by decide))) (fun _ _ => pR_8 (by decide))) (fun _ _ => pR_8 (by decide))
theorem tR_ok : ∀ f n p S, WF S → p ≤ tl → WF (tR tb tl f n p S).2.2 ∧ (tR tb tl f n p S).2.2 8 0 = S 8 0
  | 0, _, _, _, h, _ => ⟨h, rfl⟩
  | f + 1, n, p, S, h, hp => by
    obtain ⟨⟨a, b, _⟩, _⟩ := iR_ok (tb := tb) h hp
    rw [tR]
    split
    · split
      · exact ⟨a, iR_8⟩
      · split
        · have h1 := tR_ok f (n + 1) (nxt tb tl (iR tb tl p S).2.1) (iR tb tl p S).2.2 a (nxt_le b)
          rw [iR_8] at h1
          exact h1
        · exact ⟨a, iR_8⟩
    · exact ⟨a, iR_8⟩
end TXL
theorem wf_text {X : AS} (h : WFX X) : WFX (p_text X).2 := by
  unfold p_text
  obtain ⟨a, b⟩ := tR_ok (tb := X.2.2.2.2.2.1) (tl := X.2.2.2.2.1) 120 1 0 X.1 h.w (Nat.zero_le _)
  split
  · refine ⟨a, h.2.1, ?_, h.2.2.2.1, Nat.zero_le _, h.2.2.2.2.2⟩
    show (tR X.2.2.2.2.2.1 X.2.2.2.2.1 120 1 0 X.1).2.2 8 0 ≤ 99999
    rw [b]
    exact h.e
  · exact ⟨h.1, h.2.1, h.2.2.1, h.2.2.2.1, Nat.zero_le _, h.2.2.2.2.2⟩
section MUD
variable {p : Program} {l : Launch} {e : Env} {R : Room} {s : State} {m : MethodId} {args : Array Value} {below : List Frame} {meth : Method} {c : Code} {H : Heap} {locs : List Loc} {cells slots : Nat} {Q : State → Prop} {cc : ByteArray} {rest : List Value} {pc : Nat} {ls : Array Slot}
theorem Dn_lt {b k : Nat} (hb : b < 1000) (hk : k < 1000) : nI b - nI 1 < nI k ↔ b < k + 1 := by
  rcases b with _ | b
  · rw [show nI 0 - nI 1 = (-1 : Int32) by decide]
    exact ⟨fun _ => by omega, fun _ => Int32.lt_of_lt_of_le (by decide) (nI_pos' (by omega))⟩
  · rw [show nI (b + 1) - nI 1 = nI b from nI_pred b, nI_ltI (by omega) (by omega)]
    omega
theorem Dn_gt {b k : Nat} (hb : b < 1000) (hk : k < 1000) : nI k < nI b - nI 1 ↔ k + 1 < b := by
  rcases b with _ | b
  · rw [show nI 0 - nI 1 = (-1 : Int32) by decide]
    exact ⟨fun h => (Int32.lt_irrefl (Int32.lt_trans h (Int32.lt_of_lt_of_le (by decide) (nI_pos' (n := k) (by omega))))).elim, fun h => absurd h (by omega)⟩
  · rw [show nI (b + 1) - nI 1 = nI b from nI_pred b, nI_ltI (by omega) (by omega)]
    omega
theorem Dn_eq {b k : Nat} (hb : b < 1000) (hk : k < 1000) : nI b - nI 1 = nI k ↔ b = k + 1 := by
  rcases b with _ | b
  · rw [show nI 0 - nI 1 = (-1 : Int32) by decide]
    exact ⟨fun h => absurd h.symm (nI_m1 (by omega)), fun h => absurd h (by omega)⟩
  · rw [show nI (b + 1) - nI 1 = nI b from nI_pred b, nI_eq (by omega) (by omega)]
    omega
theorem nv_icmp_lt_DN (hx : p.tables.exec = Jvm.exec) (hb : c.code = cc) {b k : Nat} {off : Int} {tgt : Nat} (hi : b < 1000) (hj : k < 1000) (hdg : decode cc pc = .ok (.if_icmp .lt off, 3)) (ht : (pc : Int) + off = (tgt : Int)) (kt : b < k + 1 → W p l e R s m args below meth c H locs cells slots Q (F0 m tgt ls rest)) (kf : k + 1 ≤ b → W p l e R s m args below meth c H locs cells slots Q (F0 m (pc + 3) ls rest)) : W p l e R s m args below meth c H locs cells slots Q (F0 m pc ls (.int (nI k) :: .int (nI b - nI 1) :: rest)) := lv_icmp_lt hx hb hdg ht (fun h => kt ((Dn_lt hi hj).mp h)) (fun h => kf (Nat.not_lt.mp (fun q => h ((Dn_lt hi hj).mpr q))))
theorem nv_icmp_gt_DN (hx : p.tables.exec = Jvm.exec) (hb : c.code = cc) {b k : Nat} {off : Int} {tgt : Nat} (hi : b < 1000) (hj : k < 1000) (hdg : decode cc pc = .ok (.if_icmp .gt off, 3)) (ht : (pc : Int) + off = (tgt : Int)) (kt : k + 1 < b → W p l e R s m args below meth c H locs cells slots Q (F0 m tgt ls rest)) (kf : b ≤ k + 1 → W p l e R s m args below meth c H locs cells slots Q (F0 m (pc + 3) ls rest)) : W p l e R s m args below meth c H locs cells slots Q (F0 m pc ls (.int (nI k) :: .int (nI b - nI 1) :: rest)) := lv_icmp_gt hx hb hdg ht (fun h => kt ((Dn_gt hi hj).mp h)) (fun h => kf (Nat.not_lt.mp (fun q => h ((Dn_gt hi hj).mpr q))))
theorem nv_icmp_eq_DN (hx : p.tables.exec = Jvm.exec) (hb : c.code = cc) {b k : Nat} {off : Int} {tgt : Nat} (hi : b < 1000) (hj : k < 1000) (hdg : decode cc pc = .ok (.if_icmp .eq off, 3)) (ht : (pc : Int) + off = (tgt : Int)) (kt : b = k + 1 → W p l e R s m args below meth c H locs cells slots Q (F0 m tgt ls rest)) (kf : b ≠ k + 1 → W p l e R s m args below meth c H locs cells slots Q (F0 m (pc + 3) ls rest)) : W p l e R s m args below meth c H locs cells slots Q (F0 m pc ls (.int (nI k) :: .int (nI b - nI 1) :: rest)) := lv_icmp_eq hx hb hdg ht (fun h => kt ((Dn_eq hi hj).mp h)) (fun h => kf (fun q => h ((Dn_eq hi hj).mpr q)))
theorem nv_icmp_ne_DN (hx : p.tables.exec = Jvm.exec) (hb : c.code = cc) {b k : Nat} {off : Int} {tgt : Nat} (hi : b < 1000) (hj : k < 1000) (hdg : decode cc pc = .ok (.if_icmp .ne off, 3)) (ht : (pc : Int) + off = (tgt : Int)) (kt : b ≠ k + 1 → W p l e R s m args below meth c H locs cells slots Q (F0 m tgt ls rest)) (kf : b = k + 1 → W p l e R s m args below meth c H locs cells slots Q (F0 m (pc + 3) ls rest)) : W p l e R s m args below meth c H locs cells slots Q (F0 m pc ls (.int (nI k) :: .int (nI b - nI 1) :: rest)) := lv_icmp_ne hx hb hdg ht (fun h => kt (fun q => h ((Dn_eq hi hj).mpr q))) (fun h => kf ((Dn_eq hi hj).mp h))
theorem nv_cvv {x y : Value} (h : x = y) (k : W p l e R s m args below meth c H locs cells slots Q (F0 m pc ls (y :: rest))) : W p l e R s m args below meth c H locs cells slots Q (F0 m pc ls (x :: rest)) := by rw [h]; exact k
theorem ro_aret {v : Nat} {rt : FieldType} (hx : p.tables.exec = Jvm.exec) (hb : c.code = cc) (hr : meth.sig.returnType = some rt) (hrt : (∃ n, rt = .object n) ∨ ∃ t, rt = .array t) (hlocks : meth.locks = false) (hdg : decode cc pc = .ok (.areturn, 1)) : W p l e R s m args below meth c s.heap [] 0 0 (MQ below (ro_Q (some (.ref v))) args s 0 0 (fun _ => False)) (F0 m pc ls [.ref v]) := W.aret hx hb hr hrt (Or.inr ⟨v, rfl⟩) (fun _ ht _ => ⟨rfl, ht⟩) (fun _ h => by cases h) hdg hlocks
theorem dig_v {v b : Nat} (h : 49 ≤ b) : nI (v * 10) + (nI b - nI 1) - nI 48 = nI (v * 10 + (b - 49)) := by
  have e : ∀ x y : Int32, x + (y - nI 1) - nI 48 = x + y - nI 49 := fun x y => by
    rw [show nI 49 = nI 48 + nI 1 by decide]; grind
  rw [e, nI_add, pk_sub (show 49 ≤ v * 10 + b by omega)]
  congr 1
  omega
end MUD
/-! the tape's world, alone or with an orchestra -/
def enS (D : va_G) (cI : ClassId) (G : Nat → Prop) (ka : Nat) (adK adV : Nat → Nat) (fx : Nat) (U : State) (H : Heap) : Prop := en D cI G ka U H ∧ enW G adK adV fx rfW U H
theorem hE_S (D : va_G) (cI : ClassId) (G : Nat → Prop) (ka : Nat) (adK adV : Nat → Nat) (fx : Nat) : EW (enS D cI G ka adK adV fx) := ⟨fun s U H hW h => ⟨(hE_en D cI G ka).1 s U H hW h.1, (hE_W G adK adV fx rfW).1 s U H hW h.2⟩, fun U g mk a H h => ⟨(hE_en D cI G ka).2 U g mk a H h.1, (hE_W G adK adV fx rfW).2 U g mk a H h.2⟩⟩
theorem enS_S {D : va_G} {cI : ClassId} {A G : Nat → Prop} {ka : Nat} {adK adV : Nat → Nat} {fx : Nat} {s : State} {H0 H : Heap} {locs : List Loc} (hG : ∀ q, A q → G q) (h : enS D cI G ka adK adV fx s H0) (hS : va_S A H0 H locs) : enS D cI G ka adK adV fx s H := ⟨en_S hG h.1 hS, enW_S hG h.2 hS⟩
section TPW
variable (ci : Nat → ClassId) (a : Nat → Nat) (tl : Nat) (tb : Nat → Nat) (x0 x1 x2 x3 y : Int32)
theorem wTq_0 : (wTp ci a tl tb (q4 x0 x1 x2 x3)).set 0 (a 0, .inr (2, ([.int (nI tl), .ref (a 1), .int x0, .int x1, .int x2, .int x3] : List Value).set 2 (.int y))) = wTp ci a tl tb (q4 y x1 x2 x3) := rfl
theorem wTq_1 : (wTp ci a tl tb (q4 x0 x1 x2 x3)).set 0 (a 0, .inr (2, ([.int (nI tl), .ref (a 1), .int x0, .int x1, .int x2, .int x3] : List Value).set 3 (.int y))) = wTp ci a tl tb (q4 x0 y x2 x3) := rfl
theorem wTq_2 : (wTp ci a tl tb (q4 x0 x1 x2 x3)).set 0 (a 0, .inr (2, ([.int (nI tl), .ref (a 1), .int x0, .int x1, .int x2, .int x3] : List Value).set 4 (.int y))) = wTp ci a tl tb (q4 x0 x1 y x3) := rfl
theorem wTq_3 : (wTp ci a tl tb (q4 x0 x1 x2 x3)).set 0 (a 0, .inr (2, ([.int (nI tl), .ref (a 1), .int x0, .int x1, .int x2, .int x3] : List Value).set 5 (.int y))) = wTp ci a tl tb (q4 x0 x1 x2 y) := rfl
end TPW
def aTO (a b : Nat → Nat) : Nat → Prop := fun q => aT a q ∨ aO b q
theorem wTp_adr {ci : Nat → ClassId} {a : Nat → Nat} {tl : Nat} {tb : Nat → Nat} {tq : Nat → Int32} : ∀ (k : Nat) (q : Nat × va_E), (wTp ci a tl tb tq)[k]? = some q → k < 2 ∧ q.1 = a k := fun k q h => by
  match k, h with
  | 0, h => cases h; exact ⟨by decide, rfl⟩
  | 1, h => cases h; exact ⟨by decide, rfl⟩
  | k + 2, h => simp [wTp] at h
section WTO
variable {D : va_G} {ci : Nat → ClassId} {a b : Nat → Nat} {tl : Nat} {tb : Nat → Nat} {tq : Nat → Int32} {S : OS} {w r nb : Nat → Int32} {H H1 : Heap}
theorem wTO_D (hI : injA a 2) (hI2 : injA b 11) (hd : ∀ i j, i < 2 → j < 11 → a i ≠ b j) : va_D (aTO a b) (wTp ci a tl tb tq ++ wO (ci 0) b S w r nb) :=
  va_D.app ((wTp_D hI).weaken (fun _ _ _ h => Or.inl h)) ((wO_D hI2 S w r nb).weaken (fun _ _ _ h => Or.inr h)) (fun i j x y hx hy hxy => by
    obtain ⟨h1, h2⟩ := wTp_adr i x hx
    obtain ⟨h3, h4⟩ := wO_adr _ _ _ _ _ _ j y hy
    exact hd i j h1 h3 (by rw [← h2, ← h4]; exact hxy))
theorem wTO_t (hd : ∀ i j, i < 2 → j < 11 → a i ≠ b j) (h : va_P D vwCl (wTp ci a tl tb tq ++ wO (ci 0) b S w r nb) H) (hf : ∀ q : Nat, q < H.size → ¬ aT a q → H1[q]? = H[q]?) {tq' : Nat → Int32} (h2 : va_P D vwCl (wTp ci a tl tb tq') H1) : va_P D vwCl (wTp ci a tl tb tq' ++ wO (ci 0) b S w r nb) H1 :=
  va_P.app h2 (va_Pf (va_Pr h) hf (fun k q hk z => by
    obtain ⟨h3, h4⟩ := wO_adr _ _ _ _ _ _ k q hk
    obtain ⟨i, h5, h6⟩ := z
    exact hd i k h5 h3 (by rw [← h6, ← h4])))
theorem wTO_o (hd : ∀ i j, i < 2 → j < 11 → a i ≠ b j) (h : va_P D vwCl (wTp ci a tl tb tq ++ wO (ci 0) b S w r nb) H) (hf : ∀ q : Nat, q < H.size → ¬ aO b q → H1[q]? = H[q]?) {S' : OS} {w' r' nb' : Nat → Int32} (h2 : va_P D vwCl (wO (ci 0) b S' w' r' nb') H1) : va_P D vwCl (wTp ci a tl tb tq ++ wO (ci 0) b S' w' r' nb') H1 :=
  va_P.app (va_Pf (va_Pl h) hf (fun k q hk z => by
    obtain ⟨h3, h4⟩ := wTp_adr k q hk
    obtain ⟨i, h5, h6⟩ := z
    exact hd k i h3 h5 (by rw [← h6, ← h4]))) h2
end WTO
theorem aTO_G {a b : Nat → Nat} {G : Nat → Prop} (hG : ∀ k, k < 2 → G (a k)) (hG2 : ∀ k, k < 11 → G (b k)) : ∀ q, aTO a b q → G q := fun q h => h.elim (fun ⟨k, h1, h2⟩ => h2 ▸ hG k h1) (aO_G hG2 q)
theorem aT_G {a : Nat → Nat} {G : Nat → Prop} (hG : ∀ k, k < 2 → G (a k)) : ∀ q, aT a q → G q := fun q ⟨k, h1, h2⟩ => h2 ▸ hG k h1
section TXM
variable {tb : Nat → Nat} {tl : Nat}
theorem srtB_le (b : Nat) : srtB b ≤ 4 := by
  unfold srtB
  repeat' split
  all_goals omega
theorem tokf {p : Nat} (h : p ≤ tl) : srt tb tl p ≤ 4 ∧ stt tb tl p ≤ tl ∧ stt tb tl p ≤ nxt tb tl p ∧ nxt tb tl p ≤ tl ∧ vlu tb tl p ≤ 1000 := ⟨srt_le p, stt_le h, nxt_ge p, nxt_le h, vlu_le p⟩
theorem ext_s {P : Nat → Bool} {cur R : Nat} (h : P cur = true) (hc : cur < 121) (he : ext P (121 - cur) cur = R) : ext P (121 - (cur + 1)) (cur + 1) = R := by
  rw [← he, ext_t (f := 121 - cur) h (by omega), show 121 - (cur + 1) = 121 - cur - 1 by omega]
theorem ext_e {P : Nat → Bool} {cur R f : Nat} (h : P cur = false) (he : ext P f cur = R) : cur = R := by
  rw [← he, ext_f h]
def I91 (tb : Nat → Nat) (tl p cur : Nat) : Prop := (srt tb tl p = 1 → ext (ltr tb tl) (121 - cur) cur = nxt tb tl p) ∧ (srt tb tl p ≠ 1 → cur = aft tb tl p)
def I137 (tb : Nat → Nat) (tl p cur v : Nat) : Prop := (srt tb tl p = 2 → ext (dgt tb tl) (121 - cur) cur = nxt tb tl p ∧ vl tb tl (121 - cur) cur v = vlu tb tl p) ∧ (srt tb tl p ≠ 2 → cur = nxt tb tl p ∧ v = vlu tb tl p)
theorem I91_a {p : Nat} (h : srt tb tl p = 3 ∨ srt tb tl p = 4) : I91 tb tl p (stt tb tl p + 1) := by
  refine ⟨fun e => by omega, fun _ => ?_⟩
  rw [aft, if_neg (by omega), nxt, if_neg (by omega), if_neg (by omega), if_neg (by omega)]
theorem I91_b {p : Nat} (h : srt tb tl p ≠ 3) (h2 : srt tb tl p ≠ 4) : I91 tb tl p (stt tb tl p) := by
  have h3 := srt_le (tb := tb) (tl := tl) p
  refine ⟨fun e => by rw [nxt, if_pos e], fun e => ?_⟩
  rw [aft]
  split
  · rfl
  · rw [nxt, if_neg e, if_neg (by assumption), if_pos (by omega)]
theorem I91_s {p cur : Nat} (h : I91 tb tl p cur) (h1 : srt tb tl p = 1) (hc : cur < 121) (h2 : bLt (bE tb tl cur) = true) : I91 tb tl p (cur + 1) := ⟨fun e => ext_s h2 hc (h.1 e), fun e => absurd h1 e⟩
theorem I91_e {p cur : Nat} (h : I91 tb tl p cur) (h2 : tl ≤ cur ∨ srt tb tl p ≠ 1 ∨ bLt (bE tb tl cur) = false) : cur = aft tb tl p := by
  by_cases e : srt tb tl p = 1
  · have h3 : bLt (bE tb tl cur) = false := by
      rcases h2 with h2 | h2 | h2
      · rw [bE_out h2]; rfl
      · exact absurd e h2
      · exact h2
    rw [aft, if_neg (by omega)]
    exact ext_e (P := ltr tb tl) h3 (h.1 e)
  · exact h.2 e
theorem aft_le {p : Nat} (h : p ≤ tl) : aft tb tl p ≤ tl := by
  unfold aft
  split
  · exact stt_le h
  · exact nxt_le h
theorem I137_0 {p : Nat} : I137 tb tl p (aft tb tl p) 0 := by
  refine ⟨fun e => ?_, fun e => ?_⟩
  · rw [aft, if_pos e]
    constructor
    · rw [nxt, if_neg (by omega), if_pos e]
    · rw [vlu, if_pos e]
  · rw [aft, if_neg e, vlu, if_neg e]
    exact ⟨rfl, rfl⟩
theorem I137_s {p cur v : Nat} (h : I137 tb tl p cur v) (h1 : srt tb tl p = 2) (hc : cur < 121) (h2 : bDg (bE tb tl cur) = true) : I137 tb tl p (cur + 1) (min 1000 (v * 10 + (bE tb tl cur - 49))) := by
  refine ⟨fun e => ⟨ext_s h2 hc (h.1 e).1, ?_⟩, fun e => absurd h1 e⟩
  rw [← (h.1 e).2, vl_t (f := 121 - cur) h2 (by omega), show 121 - (cur + 1) = 121 - cur - 1 by omega]
theorem I137_e {p cur v : Nat} (h : I137 tb tl p cur v) (h2 : tl ≤ cur ∨ srt tb tl p ≠ 2 ∨ bDg (bE tb tl cur) = false) : cur = nxt tb tl p ∧ v = vlu tb tl p := by
  by_cases e : srt tb tl p = 2
  · have h3 : bDg (bE tb tl cur) = false := by
      rcases h2 with h2 | h2 | h2
      · rw [bE_out h2]; rfl
      · exact absurd e h2
      · exact h2
    obtain ⟨a, b⟩ := h.1 e
    exact ⟨ext_e (P := dgt tb tl) h3 a, by rw [← b, vl_f h3]⟩
  · exact h.2 e
theorem bDg_ge {b : Nat} (h : bDg b = true) : 49 ≤ b ∧ b ≤ 58 := by
  unfold bDg at h
  simp only [Bool.and_eq_true, decide_eq_true_eq] at h
  exact h
theorem blk_n {cur : Nat} (h : tl ≤ cur ∨ bE tb tl cur ≠ 33) : blk tb tl cur = false := by
  rw [blk, bBl]
  rcases h with h | h
  · rw [bE_out h]; rfl
  · simpa using h
theorem blk_y {cur : Nat} (h : bE tb tl cur = 33) : blk tb tl cur = true := by rw [blk, bBl, h]; rfl
theorem isW_t {p i : Nat} (h1 : srt tb tl p = 1) (h2 : nxt tb tl p - stt tb tl p = (wd i).length) (h3 : ∀ j, j < (wd i).length → (fun k => bE tb tl (stt tb tl p + k) != (wd i).getD k 0 + 1) j = false) : isW tb tl p i = true := by
  rw [isW, any_no h3, h1, h2]
  simp
theorem isW_f {p i : Nat} (h : srt tb tl p ≠ 1 ∨ nxt tb tl p - stt tb tl p ≠ (wd i).length ∨ ∃ k, k < (wd i).length ∧ bE tb tl (stt tb tl p + k) ≠ (wd i).getD k 0 + 1) : isW tb tl p i = false := by
  rw [isW]
  rcases h with h | h | ⟨k, h1, h2⟩
  · rw [show (srt tb tl p == 1) = false by simpa using h]; rfl
  · rw [show (nxt tb tl p - stt tb tl p == (wd i).length) = false by simpa using h]; simp
  · rw [(anyTo_iff _ _).mpr ⟨k, h1, by simpa using h2⟩]; simp
theorem kT_at {p i : Nat} (hi : i < 7) (h : isW tb tl p i = true) (h2 : ∀ j, j < i → (fun k => isW tb tl p k) j = false) : kT tb tl p = i + 1 := by
  obtain ⟨a, b⟩ := frst_eq (P := fun k => isW tb tl p k) hi h h2
  rw [kT, if_pos a, b]
theorem kT_no {p : Nat} (h : ∀ j, j < 7 → (fun k => isW tb tl p k) j = false) : kT tb tl p = 0 := by
  rw [kT, if_neg (by rw [any_no h]; decide)]
theorem iR_b {p : Nat} {S : OS} (h : isW tb tl p 7 = true) : iR tb tl p S = bR tb tl p S := by rw [iR, if_pos h]
theorem iR_0 {p : Nat} {S : OS} (h : isW tb tl p 7 = false) (h2 : kT tb tl p = 0 ∨ 8 ≤ S 7 0) : iR tb tl p S = (false, p, S) := by rw [iR, if_neg (by rw [h]; decide), if_pos h2]
theorem iR_k {p k : Nat} {S : OS} (h : isW tb tl p 7 = false) (h2 : kT tb tl p = k + 1) (h3 : S 7 0 < 8) : iR tb tl p S = kR tb tl (S 7 0) (nxt tb tl p) (engS S k 0) := by
  rw [iR, if_neg (by rw [h]; decide), if_neg (by omega), h2, Nat.add_sub_cancel]
theorem kR_1 {u p : Nat} {S : OS} {r1 : RS} (h1 : pR tb tl 8 2 15 u p S = r1) (f1 : r1.1 = false) : kR tb tl u p S = r1 := by
  simp [kR, thn, h1, f1]
theorem kR_2 {u p : Nat} {S : OS} {r1 r2 : RS} (h1 : pR tb tl 8 2 15 u p S = r1) (t1 : r1.1 = true) (h2 : pR tb tl 9 3 5 u r1.2.1 r1.2.2 = r2) (f2 : r2.1 = false) : kR tb tl u p S = r2 := by
  simp [kR, thn, h1, t1, h2, f2]
theorem kR_3 {u p : Nat} {S : OS} {r1 r2 r3 : RS} (h1 : pR tb tl 8 2 15 u p S = r1) (t1 : r1.1 = true) (h2 : pR tb tl 9 3 5 u r1.2.1 r1.2.2 = r2) (t2 : r2.1 = true) (h3 : pR tb tl 10 4 9 u r2.2.1 r2.2.2 = r3) (f3 : r3.1 = false) : kR tb tl u p S = r3 := by
  simp [kR, thn, h1, t1, h2, t2, h3, f3]
theorem kR_4 {u p : Nat} {S : OS} {r1 r2 r3 r4 : RS} (h1 : pR tb tl 8 2 15 u p S = r1) (t1 : r1.1 = true) (h2 : pR tb tl 9 3 5 u r1.2.1 r1.2.2 = r2) (t2 : r2.1 = true) (h3 : pR tb tl 10 4 9 u r2.2.1 r2.2.2 = r3) (t3 : r3.1 = true) (h4 : pR tb tl 11 5 99 u r3.2.1 r3.2.2 = r4) : kR tb tl u p S = r4 := by
  simp [kR, thn, h1, t1, h2, t2, h3, t3, h4]
theorem tR_a {i p : Nat} {S : OS} {r : RS} (hi : i ≤ 120) (h : iR tb tl p S = r) (f : r.1 = false) : tR tb tl (121 - i) i p S = (false, stt tb tl r.2.1, r.2.2) := by
  rw [show 121 - i = (120 - i) + 1 by omega, tR, h, f]; rfl
theorem tR_b {i p : Nat} {S : OS} {r : RS} (hi : i ≤ 120) (h : iR tb tl p S = r) (t : r.1 = true) (h2 : srt tb tl r.2.1 = 0) : tR tb tl (121 - i) i p S = (true, i, r.2.2) := by
  rw [show 121 - i = (120 - i) + 1 by omega, tR, h, if_pos t, if_pos h2]
theorem tR_c {i p : Nat} {S : OS} {r : RS} (hi : i ≤ 120) (h : iR tb tl p S = r) (t : r.1 = true) (h2 : srt tb tl r.2.1 ≠ 0) (h3 : srt tb tl r.2.1 ≠ 3) : tR tb tl (121 - i) i p S = (false, stt tb tl r.2.1, r.2.2) := by
  rw [show 121 - i = (120 - i) + 1 by omega, tR, h, if_pos t, if_neg h2, if_neg h3]
theorem tR_d {i p : Nat} {S : OS} {r : RS} (hi : i ≤ 120) (h : iR tb tl p S = r) (t : r.1 = true) (h3 : srt tb tl r.2.1 = 3) : tR tb tl (121 - i) i p S = tR tb tl (121 - (i + 1)) (i + 1) (nxt tb tl r.2.1) r.2.2 := by
  rw [show 121 - i = (120 - i) + 1 by omega, tR, h, if_pos t, if_neg (by omega), if_pos h3, show 120 - i = 121 - (i + 1) by omega]
theorem tR_z {i p : Nat} {S : OS} (hi : 120 < i) : tR tb tl (121 - i) i p S = (false, stt tb tl p, S) := by
  rw [show 121 - i = 0 by omega, tR]
end TXM
theorem tI_t {r : RS} {n : Nat} {S : OS} (h : r = (true, n, S)) : nI n = tI r := by rw [h]; rfl
theorem tI_f {r : RS} {n : Nat} {S : OS} (h : r = (false, n, S)) : -1 - nI n = tI r := by rw [h]; rfl
