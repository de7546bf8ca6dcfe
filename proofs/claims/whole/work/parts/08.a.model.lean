/-! the model's world -/
def enT : State → Heap → Prop := fun _ _ => True
theorem hE_T : EW enT := ⟨fun _ _ _ _ _ => trivial, fun _ _ _ _ _ _ => trivial⟩
def pk (S : OS) : Nat → Int32 := fun k => if k = 0 then nI (S 8 0) else if k = 1 then nI (S 7 0) else if k = 2 then nI (S 9 0) else if k < 15 then nI (S 0 (k - 3)) else if k < 25 then nI (S 6 (k - 15)) - nI 1 else nI (S ((k - 25) % 5 + 1) ((k - 25) / 5))
theorem pk_ev (S : OS) : pk S 0 = nI (S 8 0) := rfl
theorem pk_n (S : OS) : pk S 1 = nI (S 7 0) := rfl
theorem pk_z (S : OS) : pk S 2 = nI (S 9 0) := rfl
theorem pk_bar (S : OS) {b : Nat} (h : b < 12) : pk S (3 + b) = nI (S 0 b) := by
  unfold pk
  rw [if_neg (by omega), if_neg (by omega), if_neg (by omega), if_pos (by omega), show 3 + b - 3 = b by omega]
theorem pk_sp (S : OS) {b : Nat} (h : b < 10) : pk S (15 + b) = nI (S 6 b) - nI 1 := by
  unfold pk
  rw [if_neg (by omega), if_neg (by omega), if_neg (by omega), if_neg (by omega), if_pos (by omega), show 15 + b - 15 = b by omega]
theorem pk_f (S : OS) (q : Nat) {f : Nat} (h : f < 5) : pk S (25 + 5 * q + f) = nI (S (f + 1) q) := by
  unfold pk
  rw [if_neg (by omega), if_neg (by omega), if_neg (by omega), if_neg (by omega), if_neg (by omega), show (25 + 5 * q + f - 25) % 5 = f by omega, show (25 + 5 * q + f - 25) / 5 = q by omega]
theorem pk_up {S S' : OS} {k : Nat} {x : Int32} (h : ∀ j, pk S' j = if j = k then x else pk S j) : upd (pk S) k x = pk S' := by
  funext j
  rw [h j]
  rfl
theorem pku_bar (S : OS) {b v : Nat} (h : b < 12) : upd (pk S) (3 + b) (nI v) = pk (st S 0 b v) := by
  apply pk_up
  intro j
  unfold pk
  by_cases e : j = 3 + b
  · subst e
    rw [if_pos rfl, if_neg (by omega), if_neg (by omega), if_neg (by omega), if_pos (by omega), show 3 + b - 3 = b by omega]
    simp [st]
  · rw [if_neg e]
    by_cases h1 : j = 0
    · simp [h1, st]
    · by_cases h2 : j = 1
      · simp [h2, st]
      · by_cases h3 : j = 2
        · simp [h3, st]
        · by_cases h4 : j < 15
          · simp [h1, h2, h3, h4, st, show ¬ j - 3 = b by omega]
          · simp [h1, h2, h3, h4, st]
theorem pku_sp (S : OS) {b v : Nat} (h : b < 10) : upd (pk S) (15 + b) (nI v - nI 1) = pk (st S 6 b v) := by
  apply pk_up
  intro j
  unfold pk
  by_cases e : j = 15 + b
  · subst e
    rw [if_pos rfl, if_neg (by omega), if_neg (by omega), if_neg (by omega), if_neg (by omega), if_pos (by omega), show 15 + b - 15 = b by omega]
    simp [st]
  · rw [if_neg e]
    by_cases h1 : j = 0
    · simp [h1, st]
    · by_cases h2 : j = 1
      · simp [h2, st]
      · by_cases h3 : j = 2
        · simp [h3, st]
        · by_cases h4 : j < 15
          · simp [h1, h2, h3, h4, st]
          · by_cases h5 : j < 25
            · simp [h1, h2, h3, h4, h5, st, show ¬ j - 15 = b by omega]
            · rw [if_neg h1, if_neg h2, if_neg h3, if_neg h4, if_neg h5, if_neg h1, if_neg h2, if_neg h3, if_neg h4, if_neg h5]
              simp only [st]
              rw [if_neg (by omega)]
theorem pku_f (S : OS) (q : Nat) {f v : Nat} (h : f < 5) : upd (pk S) (25 + 5 * q + f) (nI v) = pk (st S (f + 1) q v) := by
  apply pk_up
  intro j
  unfold pk
  by_cases e : j = 25 + 5 * q + f
  · subst e
    rw [if_pos rfl, if_neg (by omega), if_neg (by omega), if_neg (by omega), if_neg (by omega), if_neg (by omega), show (25 + 5 * q + f - 25) % 5 = f by omega, show (25 + 5 * q + f - 25) / 5 = q by omega]
    simp [st]
  · rw [if_neg e]
    by_cases h1 : j = 0
    · simp [h1, st, show ¬ 8 = f + 1 by omega]
    · by_cases h2 : j = 1
      · simp [h2, st, show ¬ 7 = f + 1 by omega]
      · by_cases h3 : j = 2
        · simp [h3, st, show ¬ 9 = f + 1 by omega]
        · by_cases h4 : j < 15
          · simp [h1, h2, h3, h4, st]
          · by_cases h5 : j < 25
            · simp [h1, h2, h3, h4, h5, st, show ¬ 6 = f + 1 by omega]
            · rw [if_neg h1, if_neg h2, if_neg h3, if_neg h4, if_neg h5, if_neg h1, if_neg h2, if_neg h3, if_neg h4, if_neg h5]
              simp only [st]
              rw [if_neg (by omega)]
theorem pku_ev (S : OS) {v : Nat} : upd (pk S) 0 (nI v) = pk (st S 8 0 v) := by
  apply pk_up
  intro j
  unfold pk
  by_cases e : j = 0
  · simp [e, st]
  · simp only [if_neg e, st]
    repeat' split
    all_goals first | rfl | (exfalso; omega)
theorem pku_n (S : OS) {v : Nat} : upd (pk S) 1 (nI v) = pk (st S 7 0 v) := by
  apply pk_up
  intro j
  unfold pk
  by_cases e : j = 1
  · simp [e, st]
  · simp only [if_neg e, st]
    repeat' split
    all_goals first | rfl | (exfalso; omega)
theorem pku_z (S : OS) {v : Nat} : upd (pk S) 2 (nI v) = pk (st S 9 0 v) := by
  apply pk_up
  intro j
  unfold pk
  by_cases e : j = 2
  · simp [e, st]
  · simp only [if_neg e, st]
    repeat' split
    all_goals first | rfl | (exfalso; omega)
/-- how often each finding was told, as the model counts -/
def fdm (fd : Nat → Nat) : Nat → Nat := fun k => if k = 0 then sumTo fd 7 else fd (k - 1)
def wM (ci : Nat → ClassId) (am : Nat → Nat) (X : AS) (kr : Nat → Int32) (q : Nat → Int32) (iw : Bool) (kn : Nat → Option Nat) (y : Nat → Nat → Int32) : va_W := [(am 0, .inr (4, [.ref (am 1), .ref (am 2), .ref (am 3), .int (bI X.2.2.1), .ref (am 4), .ref (am 5), .ref (am 6), .ref (am 7), .ref (am 8), .ref (am 9), .int (nI X.2.2.2.2.1), .int (q 0), .int (q 1), .int (q 2), .int (q 3), .int (bI iw), .ref (am 10), .ref (am 11), .int (q 4), .int (q 5), .ref (am 12), .ref (am 13), .ref (am 14), .ref (am 15)])), (am 1, .inl (ci 0, 65, .inl (pk X.1))), (am 2, .inl (ci 0, 65, .inl kr)), (am 3, .inl (ci 0, 65, .inl (y 0))), (am 4, .inl (ci 0, 8, .inl (fun j => nI (fdm X.2.2.2.1 j)))), (am 5, .inl (ci 0, 8, .inl (y 1))), (am 6, .inl (ci 0, 192, .inl (y 2))), (am 7, .inl (ci 0, 16, .inl (y 3))), (am 8, .inl (ci 0, 8, .inl (y 4))), (am 9, .inl (ci 0, 120, .inl (fun j => nI (X.2.2.2.2.2.1 j)))), (am 10, .inl (ci 2, 7, .inr (.inr (.inr (.inr kn))))), (am 11, .inl (ci 0, 600, .inl (y 5))), (am 12, .inl (ci 0, 4, .inl (fun j => nI (X.2.2.2.2.2.2.1 j)))), (am 13, .inl (ci 0, 4, .inl (fun j => nI (X.2.2.2.2.2.2.2.1 j)))), (am 14, .inl (ci 0, 160, .inl (fun j => X.2.2.2.2.2.2.2.2 (j / 40) (j % 40)))), (am 15, .inl (ci 0, 40, .inl (y 6)))]
/-- who plays when, as the model has it -/
theorem and_bit {x m k : Nat} : (x &&& m).testBit k = (x.testBit k && m.testBit k) := Nat.testBit_and x m k
def mOwn (S : OS) (q bb : Nat) : Bool := (S 0 bb).testBit (S 3 q)
def mTwo (S : OS) (q bb : Nat) : Bool := mOwn S q bb || (S 0 bb).testBit ((S 3 q + 1) % 6)
theorem bW_bit (S : OS) (pt bb : Nat) (h : bb < 12) : (barsWith S pt).testBit bb = (S 0 bb).testBit pt := by
  rw [barsWith, setTo_bit]
  simp [h]
theorem bit_4088 : ∀ b, b < 12 → Nat.testBit 4088 b = decide (2 < b) := by decide
theorem bit_2730 : ∀ b, b < 12 → Nat.testBit 2730 b = (b % 2 == 1) := by decide
theorem mp_0 {S : OS} {q bb : Nat} (hb : bb < 12) (h : S 1 q = 0) : plays S q bb = mOwn S q bb := by
  simp [plays, bPlay, bold, bWrit, h, isK, und, abv, bW_bit _ _ _ hb, mOwn]
theorem mp_5 {S : OS} {q bb : Nat} (hb : bb < 12) (h : S 1 q = 5) : plays S q bb = mOwn S q bb := by
  simp [plays, bPlay, bold, bWrit, h, isK, und, abv, bW_bit _ _ _ hb, mOwn]
theorem mp_1 {S : OS} {q bb : Nat} (hb : bb < 12) (h : S 1 q = 1) : plays S q bb = (mOwn S q bb && decide (2 < bb)) := by
  simp [plays, bPlay, bold, bWrit, h, isK, und, abv, bW_bit _ _ _ hb, mOwn, bit_4088 _ hb]
theorem mp_6 {S : OS} {q bb : Nat} (hb : bb < 12) (h : S 1 q = 6) : plays S q bb = (mOwn S q bb && decide (2 < bb) && (bb % 2 == 1)) := by
  simp [plays, bPlay, bold, bWrit, h, isK, und, abv, bW_bit _ _ _ hb, mOwn, bit_4088 _ hb, bit_2730 _ hb]
theorem mp_2 {S : OS} {q bb : Nat} (hb : bb < 12) (h : S 1 q = 2) : plays S q bb = mTwo S q bb := by
  simp [plays, bPlay, bold, bWrit, h, isK, und, abv, bW_bit _ _ _ hb, mOwn, mTwo]
theorem mp_3 {S : OS} {q bb : Nat} (hb : bb < 12) (h : S 1 q = 3) : plays S q bb = (mTwo S q bb && othr S q) := by
  cases ho : othr S q <;> simp [plays, bPlay, bold, bWrit, h, ho, isK, und, abv, bW_bit _ _ _ hb, mOwn, mTwo]
theorem mp_4 {S : OS} {q bb : Nat} (hb : bb < 12) (h : S 1 q = 4) : plays S q bb = (mTwo S q bb && othr S q || decide (80 ≤ S 5 q)) := by
  cases ho : othr S q <;> by_cases hn : 80 ≤ S 5 q <;> simp [plays, bPlay, bold, bWrit, h, ho, hn, isK, und, abv, bW_bit _ _ _ hb, mOwn, mTwo, bit4095 hb]
def wth (v lo hi : Int32) : Bool := decide (lo ≤ v ∧ v ≤ hi)
theorem wth_t {v lo hi : Int32} (h : ¬ v < lo) (h2 : ¬ hi < v) : wth v lo hi = true := by
  unfold wth
  rw [decide_eq_true_eq]
  exact ⟨Int32.not_lt.mp h, Int32.not_lt.mp h2⟩
theorem wth_f0 {v lo hi : Int32} (h : v < lo) : wth v lo hi = false := by
  unfold wth
  rw [decide_eq_false_iff_not]
  exact fun q => absurd h (Int32.not_lt.mpr q.1)
theorem wth_f1 {v lo hi : Int32} (h : hi < v) : wth v lo hi = false := by
  unfold wth
  rw [decide_eq_false_iff_not]
  exact fun q => absurd h (Int32.not_lt.mpr q.2)
theorem wth_in (v : Int32) (n : Nat) (hn : n < 2147483647) : wth v (nI 0) (nI n) = inN v (n + 1) := by
  unfold wth inN
  have a : (nI 0).toInt = 0 := rfl
  have b : (nI n).toInt = (n : Int) := nI_toInt (by omega)
  apply decide_eq_decide.mpr
  rw [Int32.le_iff_toInt_le, Int32.le_iff_toInt_le, a, b]
  omega
theorem wth_inR (v : Int32) (lo hi : Nat) (hl : lo < 2147483648) (hh : hi < 2147483648) : wth v (nI lo) (nI hi) = inR v lo hi := by
  unfold wth inR
  apply decide_eq_decide.mpr
  rw [Int32.le_iff_toInt_le, Int32.le_iff_toInt_le, nI_toInt hl, nI_toInt hh]
/-- 'below n', where n may be 0 -/
theorem wth_n (v : Int32) {n : Nat} (hn : n ≤ 4096) : wth v (nI 0) (nI n - nI 1) = inN v n := by
  rcases n with _ | n
  · rw [show nI 0 - nI 1 = (-1 : Int32) by decide]
    unfold wth inN
    apply decide_eq_decide.mpr
    rw [Int32.le_iff_toInt_le, Int32.le_iff_toInt_le, show (nI 0).toInt = 0 from rfl, show (-1 : Int32).toInt = -1 by decide]
    omega
  · rw [show nI (n + 1) - nI 1 = nI n from nI_pred n]
    exact wth_in v n (by omega)
