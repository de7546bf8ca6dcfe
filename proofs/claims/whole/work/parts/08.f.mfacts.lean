/-! facts for the model's evenings -/
theorem arg_max (f : Nat → Nat) (k : Nat) : max (argTo f k).2 (f k + 1) = (argTo f (k + 1)).2 := by
  rw [argTo]
  by_cases h : (argTo f k).2 < f k + 1
  · rw [if_pos h]; exact Nat.max_eq_right (Nat.le_of_lt h)
  · rw [if_neg h]; exact Nat.max_eq_left (Nat.not_lt.mp h)
def bT (S : OS) (f u : Nat) : Nat → OS
  | 0 => S
  | k + 1 => st S f u k
theorem bT_st (S : OS) (f u v : Nat) : ∀ i, st (bT S f u i) f u v = st S f u v
  | 0 => rfl
  | i + 1 => by rw [bT, st_st8]
theorem lb_next {y3 : Nat → Int32} {S : OS} {i : Nat} {a b : Int32} (h : ∀ q, q < i → y3 (2 * q) = nI (S 5 q) ∧ y3 (2 * q + 1) = nI (S 4 q)) (ha : a = nI (S 5 i)) (hb : b = nI (S 4 i)) : ∀ q, q < i + 1 → upd (upd y3 (2 * i) a) (2 * i + 1) b (2 * q) = nI (S 5 q) ∧ upd (upd y3 (2 * i) a) (2 * i + 1) b (2 * q + 1) = nI (S 4 q) := by
  intro q hq
  simp only [upd]
  by_cases e : q = i
  · subst e
    rw [if_neg (by omega), if_pos rfl, if_pos rfl]
    exact ⟨ha, hb⟩
  · rw [if_neg (by omega), if_neg (by omega), if_neg (by omega), if_neg (by omega)]
    exact h q (by omega)
def dfr (S : OS) (q : Nat) : Bool := !(S 5 q == evM S 5 q && S 4 q == evM S 4 q)
theorem evM_5b (S : OS) (q : Nat) : evM S 5 q = barTo S 12 5 q := rfl
theorem evM_4 (S : OS) {q : Nat} (h : q < S 7 0) : evM S 4 q = if barTo S 12 5 q = 0 then S 4 q - 1 else S 4 q := by
  show (if 4 = 4 ∧ q < S 7 0 then nld (barTo S 12) q else barTo S 12 4 q) = _
  rw [if_pos ⟨rfl, h⟩, nld, show barTo S 12 4 q = S 4 q from barTo_ne q (by decide) 12]
theorem dfr_eq (S : OS) {q : Nat} (h : q < S 7 0) : dfr S q = ((barTo S 12 5 q == 0 && decide (0 < S 4 q)) || barTo S 12 5 q != S 5 q) := by
  rw [dfr, evM_5b, evM_4 S h, Bool.eq_iff_iff]
  simp only [Bool.not_eq_true', Bool.and_eq_false_iff, beq_eq_false_iff_ne, Bool.or_eq_true, Bool.and_eq_true, beq_iff_eq, decide_eq_true_eq, bne_iff_ne, ne_eq]
  split <;> omega
theorem dfr_chg (S : OS) : anyTo (dfr S) (S 7 0) = chg S := any_cong _ (fun j hj => dfr_eq S hj)
theorem stl_M (S : OS) (k : Nat) : stl S k = !chg (evMn S k) := by rw [stl, chg_M]
theorem kOK_bk {X : AS} {c : Bool} {k : Nat} {r : Int32 × AS} {kr : Nat → Int32} (h : kOK X kr) (h2 : kOK r.2 kr) : kOK (bk X c k r).2 kr := by
  unfold bk
  split
  · exact h2
  · exact h
theorem brk_M (S : OS) (q k : Nat) : brk S q k = (evMn S k 5 q == 0) := by rw [brk, evMn_5]
