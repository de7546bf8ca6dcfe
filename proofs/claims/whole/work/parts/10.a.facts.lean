/-! facts for the model's public methods -/
theorem toS_self (X : AS) : toS X X.1 = X := rfl
theorem swS_self {S : OS} {q o : Nat} (h : S 2 q = S 2 o) : swS S q o = S := by
  funext a b
  simp only [swS, st]
  split
  · rename_i h1
    rw [h1.1, h1.2, h]
  · split
    · rename_i h1
      rw [h1.1, h1.2, h]
    · rfl
theorem toS_swS {X : AS} {q o : Nat} (h : X.1 2 q = X.1 2 o) : toS X (swS X.1 q o) = X := by rw [swS_self h]; rfl
theorem lim_le : ∀ k, lim k ≤ 100
  | 0 => by decide
  | 1 => by decide
  | 2 => by decide
  | 3 => by decide
  | _ + 4 => Nat.le_refl 100
theorem acc_t {A k : Nat} {P : Nat → Bool} (h : P k = true) : A + cntTo P k + 1 = A + cntTo P (k + 1) := by rw [← cntTo_t h, Nat.add_assoc]
theorem acc_f {A k : Nat} {P : Nat → Bool} (h : P k = false) : A + cntTo P k + 0 = A + cntTo P (k + 1) := by rw [← cntTo_f h, Nat.add_zero]
theorem cnt_f0 {k : Nat} {P : Nat → Bool} (h : P k = false) : cntTo P k + 0 = cntTo P (k + 1) := cntTo_f h
theorem cnt_sum (Q : Nat → Bool) : ∀ n, cntTo Q n = sumTo (fun b => if Q b then 1 else 0) n
  | 0 => rfl
  | n + 1 => by rw [cntTo_s, sumTo, cnt_sum Q n]
/-- pairs, counted by rows or by columns -/
theorem sum_cols (P : Nat → Nat → Bool) (n : Nat) : ∀ m, sumTo (fun a => cntTo (fun b => P a b) n) m = sumTo (fun b => cntTo (fun a => P a b) m) n
  | 0 => (sumTo_0 n (fun _ _ => rfl)).symm
  | m + 1 => by
    rw [sumTo, sum_cols P n m]
    rw [show (fun b => cntTo (fun a => P a b) (m + 1)) = fun b => cntTo (fun a => P a b) m + (if P m b then 1 else 0) from funext (fun b => cntTo_s (fun a => P a b) m), sumTo_add]
    rw [cnt_sum (fun b => P m b) n]
def lkP (S : OS) (q o : Nat) : Bool := q != o && bHear S q o != 0
theorem lkP_eq (S : OS) (q o : Nat) : lkP S q o = (decide (bPlay S o ≠ 0) && canHear S q o) := by
  rw [lkP, bHear]
  by_cases e : q = o
  · subst e; simp [canHear_self]
  · have : (q != o) = true := by simpa using e
    rw [this]
    cases canHear S q o <;> by_cases h : bPlay S o = 0 <;> simp [h]
theorem links_M (S : OS) : sumTo (fun q => cntTo (fun o => lkP S q o) (S 7 0)) (S 7 0) = links S := by
  rw [links, sum_cols]
  congr 1
  funext o
  rw [linkTo]
  congr 1
  funext q
  exact lkP_eq S q o
theorem wth_m1 (v : Int32) : wth v (-1) (nI 6) = (v == -1 || inN v 7) := by
  unfold wth inN
  have b : (nI 6).toInt = 6 := by decide
  have c : (-1 : Int32).toInt = -1 := by decide
  rw [Bool.eq_iff_iff]
  simp only [decide_eq_true_eq, Bool.or_eq_true, beq_iff_eq]
  rw [Int32.le_iff_toInt_le, Int32.le_iff_toInt_le, b, c, ← Int32.toInt_inj, c]
  omega
theorem sumTo_s (f : Nat → Nat) (k : Nat) : sumTo f (k + 1) = sumTo f k + f k := rfl
theorem ha_next {y2 : Nat → Int32} {S : OS} {i j : Nat} {v : Int32} (hj : j < 16) (h : ∀ b s, s < 16 → 16 * b + s < 16 * i + j → y2 (16 * b + s) = nI (great S s (playIn S b))) (hv : v = nI (great S j (playIn S i))) : ∀ b s, s < 16 → 16 * b + s < 16 * i + (j + 1) → upd y2 ((16 * i) + j) v (16 * b + s) = nI (great S s (playIn S b)) := by
  intro b s hs hb
  simp only [upd]
  by_cases e : 16 * b + s = 16 * i + j
  · have e1 : b = i := by omega
    have e2 : s = j := by omega
    subst e1 e2
    rw [if_pos e]; exact hv
  · rw [if_neg e]; exact h b s hs (by omega)
def arg1 (f : Nat → Nat) (k : Nat) : Nat := if k = 0 then 0 else (argTo f k).1 + 1
theorem arg1_t {f : Nat → Nat} {k : Nat} (h : (argTo f k).2 < f k + 1) : arg1 f (k + 1) = k + 1 := by rw [arg1, if_neg (by omega), arg_t h]
theorem arg1_f {f : Nat → Nat} {k : Nat} (h : f k + 1 ≤ (argTo f k).2) : arg1 f (k + 1) = arg1 f k := by
  rw [arg1, arg1, if_neg (by omega), arg_f h]
  by_cases e : k = 0
  · subst e
    have : (argTo f 0).2 = 0 := rfl
    omega
  · rw [if_neg e]
theorem dear_eq (X : AS) : p_dearest X = bk X (decide (0 < arg1 (fun q => cLn X.1 12 (1 * 2 ^ q)) (X.1 7 0))) 3 (nI (arg1 (fun q => cLn X.1 12 (1 * 2 ^ q)) (X.1 7 0) - 1), X) := by
  rw [p_dearest, arg1]
  by_cases e : X.1 7 0 = 0
  · rw [if_pos e, e]
    rfl
  · rw [if_neg e, decide_eq_true (by omega), decide_eq_true (by omega)]
    rfl
theorem arg1_le {f : Nat → Nat} : ∀ k, arg1 f k ≤ k := fun k => by
  rw [arg1]
  split
  · omega
  · exact arg_lt f (by omega)
