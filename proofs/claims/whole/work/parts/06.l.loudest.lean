/-! at how many seats and bars just a set is loudest -/
def cLn (S : OS) (n L : Nat) : Nat := sumTo (fun bb => cntTo (fun se => loudst S se (playIn S bb) == L) 16) n
theorem cLn_le (S : OS) (L : Nat) : cLn S 12 L ≤ 192 := sumTo_le (b := 16) 12 (fun j _ => cntTo_le _ 16)
theorem loudst_lt {S : OS} (h : WF S) (se set : Nat) : loudst S se set < 256 := setTo_le (n := 8) h.n
theorem two_lt {k : Nat} (h : k < 8) : 1 * 2 ^ k < 256 := by
  rw [Nat.one_mul, show (256 : Nat) = 2 ^ 8 by decide]
  exact Nat.pow_lt_pow_right (by decide) h
theorem two_le {k : Nat} (h : k ≤ 8) : 1 * 2 ^ k ≤ 256 := by
  rw [Nat.one_mul, show (256 : Nat) = 2 ^ 8 by decide]
  exact Nat.pow_le_pow_right (by decide) h
theorem cl_next {S : OS} {i j : Nat} {la : Nat → Int32} (h : ∀ q, q < 256 → la q = nI (cLn S i q + cntTo (fun se => loudst S se (playIn S i) == q) j)) : ∀ q, q < 256 → upd la (loudst S j (playIn S i)) (nI ((cLn S i (loudst S j (playIn S i)) + cntTo (fun se => loudst S se (playIn S i) == loudst S j (playIn S i)) j) + 1)) q = nI (cLn S i q + cntTo (fun se => loudst S se (playIn S i) == q) (j + 1)) := by
  intro q hq
  simp only [upd]
  by_cases e : q = loudst S j (playIn S i)
  · rw [if_pos e, ← e, ← cntTo_t (P := fun se => loudst S se (playIn S i) == q) (k := j) (by simp [e]), Nat.add_assoc]
  · rw [if_neg e, h q hq, ← cntTo_f (P := fun se => loudst S se (playIn S i) == q) (k := j) (by simpa using fun z => e z.symm)]
def p_spare (X : AS) : Int32 × AS := (nI (setTo (fun q => cLn X.1 12 (1 * 2 ^ q) == 0) (X.1 7 0)), X)
def p_dearest (X : AS) : Int32 × AS := bk X (decide (0 < X.1 7 0)) 3 (nI (argTo (fun q => cLn X.1 12 (1 * 2 ^ q)) (X.1 7 0)).1, X)
theorem arg_1 (f : Nat → Nat) : argTo f 1 = (0, f 0 + 1) := by rw [argTo, if_pos (show (argTo f 0).2 < f 0 + 1 from Nat.succ_pos _)]
theorem arg_lt (f : Nat → Nat) : ∀ {i}, 1 ≤ i → (argTo f i).1 < i
  | 0, h => absurd h (by decide)
  | 1, _ => by rw [arg_1]; exact Nat.succ_pos 0
  | i + 2, _ => by
    have h1 := arg_lt f (i := i + 1) (by omega)
    rw [argTo]
    split
    · exact Nat.lt_succ_self _
    · omega
theorem arg_val (f : Nat → Nat) : ∀ {i}, 1 ≤ i → (argTo f i).2 = f (argTo f i).1 + 1
  | 0, h => absurd h (by decide)
  | 1, _ => by rw [arg_1]
  | i + 2, _ => by
    have h1 := arg_val f (i := i + 1) (by omega)
    rw [argTo]
    split
    · rfl
    · exact h1
def lstF (S : OS) (pl L : Nat) : Nat := if L = 0 then 0 else if L &&& (4095 ^^^ pl) = 0 then cLn S 12 L else 0
def lstN (S : OS) (pl : Nat) : Nat := sumTo (lstF S pl) 256
def p_lost (X : AS) (x : Int32) : Int32 × AS := bk X (inN x (1 * 2 ^ X.1 7 0)) 0 (nI (lstN X.1 (tn x)), X)
theorem lst_a {S : OS} {pl i : Nat} (h : 1 ≤ i) (h2 : i &&& (4095 ^^^ pl) = 0) : sumTo (lstF S pl) i + cLn S 12 i = sumTo (lstF S pl) (i + 1) := by rw [sumTo, lstF, if_neg (by omega), if_pos h2]
theorem lst_b {S : OS} {pl i : Nat} (h2 : i &&& (4095 ^^^ pl) ≠ 0) : sumTo (lstF S pl) i = sumTo (lstF S pl) (i + 1) := by
  rw [sumTo, lstF, if_neg h2]
  split <;> rfl
theorem and_lt9 (i pl : Nat) : i &&& (4095 ^^^ pl) ≤ i := Nat.and_le_left
/-- the set of fewest, of several the least -/
def ltb (P : Nat → Bool) : Nat → Nat × Nat
  | 0 => (0, 13)
  | k + 1 => if pop k < (ltb P k).2 ∧ P k = true then (k, pop k) else ltb P k
theorem ltb_le (P : Nat → Bool) : ∀ k, (ltb P k).2 ≤ 13
  | 0 => Nat.le_refl _
  | k + 1 => by
    have h1 := ltb_le P k
    have h2 := pop_le k
    rw [ltb]
    split
    · show pop k ≤ 13
      omega
    · exact h1
theorem ltb_a {P : Nat → Bool} {k : Nat} (h : pop k < (ltb P k).2) (h2 : P k = true) : ltb P (k + 1) = (k, pop k) := by rw [ltb, if_pos ⟨h, h2⟩]
theorem ltb_b {P : Nat → Bool} {k : Nat} (h : (ltb P k).2 ≤ pop k) : ltb P (k + 1) = ltb P k := by rw [ltb, if_neg (fun z => absurd z.1 (by omega))]
theorem ltb_c {P : Nat → Bool} {k : Nat} (h2 : P k = false) : ltb P (k + 1) = ltb P k := by rw [ltb, if_neg (fun z => by rw [h2] at z; cases z.2)]
def p_fewest (X : AS) : Int32 × AS := (nI (ltb (fun t => !anyTo (fun L => decide (0 < L) && decide (0 < cLn X.1 12 L) && (t &&& L) == 0) 256) (1 * 2 ^ X.1 7 0)).1, X)
theorem any_cong {P Q : Nat → Bool} : ∀ k, (∀ j, j < k → P j = Q j) → anyTo P k = anyTo Q k
  | 0, _ => rfl
  | k + 1, h => by rw [anyTo, anyTo, any_cong k (fun j hj => h j (by omega)), h k (by omega)]
theorem fw_a {S : OS} {tl : Nat → Nat} {i k : Nat} (h : ∀ t, anyTo (fun i => (t &&& tl i) == 0) k = anyTo (fun L => decide (0 < L) && decide (0 < cLn S 12 L) && (t &&& L) == 0) i) (hc : 0 < cLn S 12 i) (hi : 1 ≤ i) (t : Nat) : anyTo (fun j => (t &&& updF tl k i j) == 0) (k + 1) = anyTo (fun L => decide (0 < L) && decide (0 < cLn S 12 L) && (t &&& L) == 0) (i + 1) := by
  rw [anyTo, anyTo, ← h t, updF_s, any_cong (P := fun j => (t &&& updF tl k i j) == 0) (Q := fun j => (t &&& tl j) == 0) k (fun j hj => by simp only [updF_n (show j ≠ k by omega)])]
  simp [hc, show 0 < i by omega]
theorem fw_b {S : OS} {tl : Nat → Nat} {i k : Nat} (h : ∀ t, anyTo (fun i => (t &&& tl i) == 0) k = anyTo (fun L => decide (0 < L) && decide (0 < cLn S 12 L) && (t &&& L) == 0) i) (hc : cLn S 12 i = 0) (t : Nat) : anyTo (fun j => (t &&& tl j) == 0) k = anyTo (fun L => decide (0 < L) && decide (0 < cLn S 12 L) && (t &&& L) == 0) (i + 1) := by
  rw [anyTo, ← h t]
  simp [hc]
