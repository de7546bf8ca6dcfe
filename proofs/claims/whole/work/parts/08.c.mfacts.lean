/-! facts for the model's walks -/
theorem nv_minD {m x y : Nat} (hm : m < 1073741824) (hx : x < 1073741824) (h : x < m + y ∧ y < 1073741824) : (if nI x - nI y < nI m then nI x - nI y else nI m) = nI x - nI y := by
  rcases Nat.lt_or_ge x y with g | g
  · by_cases h0 : nI x - nI y < nI m
    · rw [if_pos h0]
    · exfalso
      apply h0
      refine Int32.lt_of_lt_of_le (pk_sneg h.2 g) ?_
      exact nI_pos' (by omega)
  · rw [pk_sub g, if_pos ((nI_ltI (by omega) (by omega)).mpr (by omega))]
theorem nv_maxD {m x : Nat} (hm : m < 1073741824) (hx : x < 1073741824) : (if nI m - nI 1 < nI x then nI x else nI m - nI 1) = nI (max m (x + 1)) - nI 1 := by
  rcases m with _ | m
  · rw [show nI 0 - nI 1 = (-1 : Int32) by decide, if_pos (Int32.lt_of_lt_of_le (by decide) (nI_pos' (by omega))), show max 0 (x + 1) = x + 1 by omega]
    exact (nI_pred x).symm
  · rw [show nI (m + 1) - nI 1 = nI m from nI_pred m]
    rcases Nat.lt_or_ge m x with g | g
    · rw [if_pos ((nI_ltI (by omega) (by omega)).mpr g), show max (m + 1) (x + 1) = x + 1 by omega]
      exact (nI_pred x).symm
    · rw [if_neg (fun q => absurd ((nI_ltI (by omega) (by omega)).mp q) (Nat.not_lt.mpr g)), show max (m + 1) (x + 1) = m + 1 by omega]
      exact (nI_pred m).symm
theorem setTo_f0 {P : Nat → Bool} {k : Nat} (h : P k = false) : setTo P k ||| 0 = setTo P (k + 1) := by rw [Nat.or_zero]; exact setTo_f h
theorem bPlay_set (S : OS) (q : Nat) : setTo (fun b => plays S q b) 12 = bPlay S q := by
  apply Nat.eq_of_testBit_eq
  intro i
  rw [setTo_bit]
  by_cases h : i < 12
  · simp [h, plays]
  · rw [decide_eq_false h, Bool.false_and]
    exact (Nat.testBit_lt_two_pow (Nat.lt_of_lt_of_le (bPlay_lt S q) (show 2 ^ 12 ≤ 2 ^ i from Nat.pow_le_pow_right (by decide) (by omega)))).symm
def sndO (S : OS) (q se bb : Nat) : Nat := if plays S q bb then loudn S q se else 0
theorem playIn_bit {S : OS} {i : Nat} (bb : Nat) (hi : i < S 7 0) : (playIn S bb).testBit i = plays S i bb := by
  rw [playIn, setTo_bit]; simp [hi]
theorem hrd_t {S : OS} {i se bb set : Nat} (hi : i < S 7 0) (h : set.testBit i = true) : max (maxTo (fun q => if (set &&& playIn S bb).testBit q then loudn S q se else 0) i) (sndO S i se bb) = maxTo (fun q => if (set &&& playIn S bb).testBit q then loudn S q se else 0) (i + 1) := by
  rw [maxTo, Nat.testBit_and, h, playIn_bit bb hi, Bool.true_and, sndO]
theorem hrd_f {S : OS} {i se bb set : Nat} (h : set.testBit i = false) : maxTo (fun q => if (set &&& playIn S bb).testBit q then loudn S q se else 0) i = maxTo (fun q => if (set &&& playIn S bb).testBit q then loudn S q se else 0) (i + 1) := by
  rw [maxTo, Nat.testBit_and, h, Bool.false_and, if_neg (by decide), Nat.max_eq_left (Nat.zero_le _)]
theorem evb_bit (n i : Nat) : (1 * 2 ^ n - 1).testBit i = decide (i < n) := by
  rw [Nat.one_mul, Nat.testBit_two_pow_sub_one]
theorem evb_lt {n : Nat} (h : n ≤ 8) : 1 * 2 ^ n - 1 < 256 := by
  have := two_le h
  omega
theorem evb_and (S : OS) (bb : Nat) : (1 * 2 ^ S 7 0 - 1) &&& playIn S bb = playIn S bb := by
  apply Nat.eq_of_testBit_eq
  intro i
  rw [Nat.testBit_and, evb_bit, playIn, setTo_bit, ← Bool.and_assoc, Bool.and_self]
theorem dh_eq {S : OS} {q o bb : Nat} (hne : q ≠ o) : (canHear S q o && plays S o bb) = (!(S 1 q == 5 && decide (S 2 o < S 2 q)) && decide (0 < sndO S o (S 2 q) bb)) := by
  have e1 : (q == o) = false := by simpa using hne
  rw [canHear, e1, Bool.false_or, sndO]
  cases hp : plays S o bb
  · simp
  · rw [Bool.and_true, if_pos rfl, loudn]
    congr 1
    apply decide_eq_decide.mpr
    omega
theorem hear_set (S : OS) (q bb : Nat) : setTo (fun o => canHear S q o && plays S o bb) (S 7 0) = reachS S q &&& playIn S bb := by
  apply Nat.eq_of_testBit_eq
  intro i
  rw [Nat.testBit_and, setTo_bit, reachS, playIn, setTo_bit, setTo_bit]
  cases decide (i < S 7 0) <;> simp
theorem canHear_self (S : OS) (q : Nat) : canHear S q q = false := by simp [canHear]
theorem bHear_set (S : OS) (q o : Nat) : setTo (fun bb => canHear S q o && plays S o bb) 12 = bHear S q o := by
  rw [bHear]
  cases h : canHear S q o
  · simp only [Bool.false_and]
    rw [if_neg (by decide)]
    apply Nat.eq_of_testBit_eq
    intro i
    rw [setTo_bit]; simp
  · simp only [Bool.true_and, if_true]
    exact bPlay_set S o
theorem aloneTo_bit (S : OS) (q : Nat) {i : Nat} (hi : i < 12) : ∀ k, (aloneTo S q k).testBit i = (plays S q i && !anyTo (fun o => canHear S q o && plays S o i) k)
  | 0 => by simp [aloneTo, anyTo, plays]
  | k + 1 => by
    rw [aloneTo, Nat.testBit_and, aloneTo_bit S q hi k, Nat.testBit_xor, bit4095 hi, anyTo, bHear]
    cases canHear S q k <;> simp [plays, Bool.and_assoc]
theorem any_setTo (P : Nat → Bool) : ∀ k, (setTo P k == 0) = !anyTo P k
  | 0 => rfl
  | k + 1 => by
    rw [anyTo, setTo]
    cases h : P k
    · rw [if_neg (by decide), any_setTo P k, Bool.or_false]
    · rw [if_pos rfl, Bool.or_true, Bool.not_true]
      apply beq_false_of_ne
      intro e
      have h2 : (setTo P k ||| 2 ^ k).testBit k = true := by rw [Nat.testBit_or, Nat.testBit_two_pow_self, Bool.or_true]
      rw [e, Nat.zero_testBit] at h2
      cases h2
theorem alone_set (S : OS) (q : Nat) : setTo (fun bb => plays S q bb && (reachS S q &&& playIn S bb) == 0) 12 = bAlone S q := by
  apply Nat.eq_of_testBit_eq
  intro i
  rw [setTo_bit]
  by_cases h : i < 12
  · rw [decide_eq_true h, Bool.true_and, bAlone, aloneTo_bit S q h, ← hear_set, any_setTo]
  · rw [decide_eq_false h, Bool.false_and]
    exact (Nat.testBit_lt_two_pow (Nat.lt_of_lt_of_le (aloneTo_lt S q (S 7 0)) (show 2 ^ 12 ≤ 2 ^ i from Nat.pow_le_pow_right (by decide) (by omega)))).symm
def comeS (S : OS) (kd se pt lo ne : Nat) : OS := st (st (st (st (st (st S 1 (S 7 0) kd) 2 (S 7 0) se) 3 (S 7 0) pt) 4 (S 7 0) lo) 5 (S 7 0) ne) 7 0 (S 7 0 + 1)
def evM (S : OS) : OS := st (evB S) 8 0 (S 8 0 + 1)
def evMn (S : OS) : Nat → OS
  | 0 => S
  | k + 1 => evM (evMn S k)
theorem WF_evM {S : OS} (h : WF S) (h8 : S 8 0 < 199999) : WF (evM S) := WF_st8 (WF_evB h) (by omega)
theorem evM_8 (S : OS) : evM S 8 0 = S 8 0 + 1 := by simp [evM, st]
theorem evMn_8 (S : OS) : ∀ k, evMn S k 8 0 = S 8 0 + k
  | 0 => rfl
  | k + 1 => by rw [evMn, evM_8, evMn_8 S k]; rfl
theorem WF_evMn {S : OS} (h : WF S) : ∀ k, S 8 0 + k < 200000 → WF (evMn S k)
  | 0, _ => h
  | k + 1, hk => WF_evM (WF_evMn h k (by omega)) (by rw [evMn_8]; omega)
theorem eveC_lt {S : OS} (h : S 8 0 < 99999) : eveC S = evM S := by rw [eveC, evM, show min 99999 (S 8 0 + 1) = S 8 0 + 1 by omega]
theorem evC_lt {S : OS} : ∀ k, S 8 0 + k ≤ 99999 → evCn S k = evMn S k
  | 0, _ => rfl
  | k + 1, h => by rw [evCn, evMn, evC_lt k (by omega), eveC_lt (by rw [evMn_8]; omega)]
theorem nnv_8 (S : OS) (v bb q : Nat) : nnv (st S 8 0 v) bb q = nnv S bb q := rfl
theorem barS_8 (S : OS) (v bb : Nat) : barS (st S 8 0 v) bb = st (barS S bb) 8 0 v := by
  funext a b
  simp only [barS, upF, st]
  by_cases h : a = 8 ∧ b = 0
  · rw [if_pos h, if_neg (by omega)]; simp [h]
  · simp only [if_neg h]
    rfl
theorem barTo_8 (S : OS) (v : Nat) : ∀ k, barTo (st S 8 0 v) k = st (barTo S k) 8 0 v
  | 0 => rfl
  | k + 1 => by rw [barTo, barTo, barTo_8 S v k, barS_8]
theorem evB_8 (S : OS) (v : Nat) : evB (st S 8 0 v) = st (evB S) 8 0 v := by
  funext a b
  rw [evB, barTo_8, evB]
  simp only [upF, st]
  by_cases h : a = 8 ∧ b = 0
  · rw [if_pos h, if_neg (by omega)]; simp [h]
  · simp only [if_neg h]
    rfl
theorem st_st8 (S : OS) (a b v w : Nat) : st (st S a b v) a b w = st S a b w := by
  funext i j
  simp only [st]
  split <;> rfl
theorem st_self (S : OS) (a b : Nat) : st S a b (S a b) = S := by
  funext i j
  simp only [st]
  split
  · rename_i h; rw [h.1, h.2]
  · rfl
theorem evM_C (S : OS) (v : Nat) : evM (st S 8 0 v) = st (eveC S) 8 0 (v + 1) := by
  rw [evM, evB_8, st_st8, eveC, st_st8]
  rfl
theorem evMn_C (S : OS) : ∀ k, evMn S k = st (evCn S k) 8 0 (S 8 0 + k)
  | 0 => (st_self S 8 0).symm
  | k + 1 => by rw [evMn, evMn_C S k, evM_C]; rfl
theorem evMn_5 (S : OS) (k q : Nat) : evMn S k 5 q = evCn S k 5 q := by rw [evMn_C]; rfl
theorem chg_8 (S : OS) (v : Nat) : chg (st S 8 0 v) = chg S := by
  rw [chg, chg, barTo_8]
  rfl
theorem chg_M (S : OS) (k : Nat) : chg (evMn S k) = chg (evCn S k) := by rw [evMn_C, chg_8]
