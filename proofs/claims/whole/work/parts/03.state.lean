/-! own rows: what a state is, in naturals; plain facts -/
abbrev OS : Type := Nat → Nat → Nat
def KAf : Nat → Int32 := fun k => match k with
  | 0 => -1
  | 3 => 2
  | 4 => 3
  | 6 => 1
  | _ => 0
def tyL (ci : Nat → ClassId) : List (ClassId × FieldType) := [(ci 0, .int), (ci 1, .object "OneShort$Sheet"), (ci 2, .object "java/lang/String")]
def nestKA : Cond := .fieldLinkNest RX0 58 "OneShort" "KIND_ABOVE" "[I" "OneShort"
/-- the class's own static row, and that it lies apart from what changes -/
def en (D : va_G) (cI : ClassId) (G : Nat → Prop) (ka : Nat) (U : State) (H : Heap) : Prop := va_Nw (.fieldLinkNest RX0 58 "OneShort" "KIND_ABOVE" "[I" "OneShort") U ∧ va_Z "OneShort" "KIND_ABOVE" "[I" (.ref ka) G U H ∧ va_T .int ka 7 (fun j => .int (KAf j)) G U H ∧ ¬ G ka
theorem hE_en (D : va_G) (cI : ClassId) (G : Nat → Prop) (ka : Nat) : EW (en D cI G ka) := by
  refine ⟨fun s U H hW h => ⟨va_Nw.warmF hW h.1, va_Z.moved hW.alike h.2.1, h.2.2.1.moved hW.alike, h.2.2.2⟩, fun U g mk a H h => ⟨va_Nw.same (u := U) (U := U.calling g mk a) rfl rfl h.1, va_Z.moved (u := U) (U := U.calling g mk a) (Vm.Alike.refl U.vm) h.2.1, va_T.moved (u := U) (U := U.calling g mk a) (Vm.Alike.refl U.vm) h.2.2.1, h.2.2.2⟩⟩
/-- an orchestra: eleven cells -/
def wO (cI : ClassId) (a : Nat → Nat) (S : OS) (w r nb : Nat → Int32) : va_W := [(a 0, .inr (0, [.ref (a 1), .ref (a 2), .ref (a 3), .ref (a 4), .ref (a 5), .ref (a 6), .ref (a 7), .int (nI (S 7 0)), .int (nI (S 8 0)), .int (nI (S 9 0)), .ref (a 8), .ref (a 9), .ref (a 10)])), (a 1, .inl (cI, 12, .inl (fun j => nI (S 0 j)))), (a 2, .inl (cI, 8, .inl (fun j => nI (S 1 j)))), (a 3, .inl (cI, 8, .inl (fun j => nI (S 2 j)))), (a 4, .inl (cI, 8, .inl (fun j => nI (S 3 j)))), (a 5, .inl (cI, 8, .inl (fun j => nI (S 4 j)))), (a 6, .inl (cI, 8, .inl (fun j => nI (S 5 j)))), (a 7, .inl (cI, 10, .inl (fun j => nI (S 6 j) - nI 1))), (a 8, .inl (cI, 8, .inl w)), (a 9, .inl (cI, 8, .inl r)), (a 10, .inl (cI, 8, .inl nb))]
/-- what holds of every state -/
def WF (S : OS) : Prop := S 7 0 ≤ 8 ∧ (∀ j, S 0 j < 64) ∧ (∀ j, S 1 j < 7) ∧ (∀ j, S 2 j < 16) ∧ (∀ j, S 3 j < 6) ∧ (∀ j, S 4 j < 10) ∧ (∀ j, S 5 j < 100) ∧ (∀ j, S 6 j ≤ S 7 0) ∧ S 8 0 < 200000
def dist (x y : Nat) : Nat := (x - y) + (y - x)
def setTo (P : Nat → Bool) : Nat → Nat
  | 0 => 0
  | k + 1 => if P k then setTo P k ||| 2 ^ k else setTo P k
def sumTo (f : Nat → Nat) : Nat → Nat
  | 0 => 0
  | k + 1 => sumTo f k + f k
def cntTo (P : Nat → Bool) : Nat → Nat
  | 0 => 0
  | k + 1 => if P k then cntTo P k + 1 else cntTo P k
def maxTo (f : Nat → Nat) : Nat → Nat
  | 0 => 0
  | k + 1 => max (maxTo f k) (f k)
def anyTo (P : Nat → Bool) : Nat → Bool
  | 0 => false
  | k + 1 => anyTo P k || P k
theorem setTo_t {P : Nat → Bool} {k : Nat} (h : P k = true) : setTo P k ||| (1 * 2 ^ k) = setTo P (k + 1) := by rw [Nat.one_mul, setTo, if_pos h]
theorem setTo_f {P : Nat → Bool} {k : Nat} (h : P k = false) : setTo P k = setTo P (k + 1) := by rw [setTo, if_neg (by rw [h]; decide)]
theorem cntTo_t {P : Nat → Bool} {k : Nat} (h : P k = true) : cntTo P k + 1 = cntTo P (k + 1) := by rw [cntTo, if_pos h]
theorem cntTo_f {P : Nat → Bool} {k : Nat} (h : P k = false) : cntTo P k = cntTo P (k + 1) := by rw [cntTo, if_neg (by rw [h]; decide)]
theorem setTo_lt (P : Nat → Bool) : ∀ k, setTo P k < 2 ^ k
  | 0 => Nat.one_pos
  | k + 1 => by
    have h := setTo_lt P k
    rw [setTo]
    split
    · exact Nat.or_lt_two_pow (Nat.lt_of_lt_of_le h (Nat.pow_le_pow_right (by decide) (Nat.le_succ k))) (Nat.pow_lt_pow_right (by decide) (Nat.lt_succ_self k))
    · exact Nat.lt_of_lt_of_le h (Nat.pow_le_pow_right (by decide) (Nat.le_succ k))
theorem setTo_le {P : Nat → Bool} {k n : Nat} (h : k ≤ n) : setTo P k < 2 ^ n := Nat.lt_of_lt_of_le (setTo_lt P k) (Nat.pow_le_pow_right (by decide) h)
theorem setTo_bit (P : Nat → Bool) (j : Nat) : ∀ k, (setTo P k).testBit j = (decide (j < k) && P j)
  | 0 => by simp [setTo]
  | k + 1 => by
    rw [setTo]
    split
    · rename_i h
      rw [Nat.testBit_or, setTo_bit P j k, Nat.testBit_two_pow]
      by_cases e : k = j
      · subst e; simp [h]
      · rcases Nat.lt_or_gt_of_ne e with q | q
        · simp [e, show ¬ j < k by omega, show ¬ j < k + 1 by omega]
        · simp [e, q, show j < k + 1 by omega]
    · rename_i h
      rw [setTo_bit P j k]
      by_cases e : k = j
      · subst e; simp [h]
      · rcases Nat.lt_or_gt_of_ne e with q | q
        · simp [show ¬ j < k by omega, show ¬ j < k + 1 by omega]
        · simp [q, show j < k + 1 by omega]
theorem setTo_cong {P P' : Nat → Bool} : ∀ k, (∀ j, j < k → P j = P' j) → setTo P k = setTo P' k
  | 0, _ => rfl
  | k + 1, h => by rw [setTo, setTo, setTo_cong k (fun j q => h j (by omega)), h k (by omega)]
theorem anyTo_iff (P : Nat → Bool) : ∀ k, anyTo P k = true ↔ ∃ j, j < k ∧ P j = true
  | 0 => by simp [anyTo]
  | k + 1 => by
    rw [anyTo, Bool.or_eq_true, anyTo_iff P k]
    constructor
    · rintro (⟨j, h1, h2⟩ | h)
      · exact ⟨j, by omega, h2⟩
      · exact ⟨k, by omega, h⟩
    · rintro ⟨j, h1, h2⟩
      rcases Nat.lt_or_ge j k with q | q
      · exact Or.inl ⟨j, q, h2⟩
      · exact Or.inr (by rw [show k = j by omega]; exact h2)
/-- a bit, as the class asks for it -/
theorem bit_one (x k : Nat) : (x / 2 ^ k &&& 1) = if x.testBit k then 1 else 0 := by
  rw [Nat.testBit_eq_decide_div_mod_eq, Nat.and_one_is_mod]
  have h := Nat.mod_lt (x / 2 ^ k) (show 0 < 2 by decide)
  by_cases e : x / 2 ^ k % 2 = 1
  · simp [e]
  · have : x / 2 ^ k % 2 = 0 := by omega
    simp [this]
theorem bit_t {x k : Nat} (h : (x / 2 ^ k &&& 1) ≠ 0) : x.testBit k = true := by
  rw [bit_one] at h
  cases q : x.testBit k with
  | true => rfl
  | false => rw [q] at h; simp at h
theorem bit_f {x k : Nat} (h : (x / 2 ^ k &&& 1) = 0) : x.testBit k = false := by
  rw [bit_one] at h
  cases q : x.testBit k with
  | false => rfl
  | true => rw [q] at h; simp at h
theorem and1_lt (x : Nat) : (x &&& 1) < 2 := by rw [Nat.and_one_is_mod]; exact Nat.mod_lt _ (by decide)
theorem nv_abs {x y : Nat} (hx : x < 1073741824) (hy : y < 1073741824) : (if 0 ≤ nI x - nI y then nI x - nI y else 0 - (nI x - nI y)) = nI (dist x y) := by
  rcases Nat.lt_or_ge x y with h | h
  · rw [if_neg (Int32.not_le.mpr (pk_sneg hy h))]
    have e : (0 : Int32) - (nI x - nI y) = nI y - nI x := by rw [Int32.zero_sub, Int32.neg_sub]
    rw [e, pk_sub (Nat.le_of_lt h), dist]
    congr 1
    omega
  · rw [pk_sub h, if_pos (nI_pos' (by omega)), dist]
    congr 1
    omega
theorem nv_max0 {x y : Nat} (hx : x < 1073741824) (hy : y < 1073741824) : (if nI 0 < nI x - nI y then nI x - nI y else nI 0) = nI (x - y) := by
  rcases Nat.lt_or_ge x y with h | h
  · rw [if_neg (fun q => ?_), show x - y = 0 by omega]
    exact absurd q (Int32.not_lt.mpr (Int32.le_of_lt (by rw [nI_0]; exact pk_sneg hy h)))
  · rw [pk_sub h]
    rcases Nat.eq_zero_or_pos (x - y) with e | e
    · rw [e]; split <;> rfl
    · rw [if_pos ((nI_ltI (by decide) (by omega)).mpr e)]
theorem nv_max {x y : Nat} (hx : x < 2147483648) (hy : y < 2147483648) : (if nI x < nI y then nI y else nI x) = nI (max x y) := by
  rcases Nat.lt_or_ge x y with h | h
  · rw [if_pos ((nI_ltI hx hy).mpr h), Nat.max_eq_right (Nat.le_of_lt h)]
  · rw [if_neg (fun q => absurd ((nI_ltI hx hy).mp q) (Nat.not_lt.mpr h)), Nat.max_eq_left h]
theorem nv_min {x y : Nat} (hx : x < 2147483648) (hy : y < 2147483648) : (if nI y < nI x then nI y else nI x) = nI (min x y) := by
  rcases Nat.lt_or_ge y x with h | h
  · rw [if_pos ((nI_ltI hy hx).mpr h), Nat.min_eq_right (Nat.le_of_lt h)]
  · rw [if_neg (fun q => absurd ((nI_ltI hy hx).mp q) (Nat.not_lt.mpr h)), Nat.min_eq_left h]
/-! kinds: coded one more, 0 is none -/
def abv : Nat → Nat
  | 0 => 0
  | 1 => 0
  | 4 => 3
  | 5 => 4
  | 7 => 2
  | _ => 1
def und : Nat → Nat → Nat → Bool
  | 0, _, _ => false
  | f + 1, k, o => k != 0 && (k == o + 1 || und f (abv k) o)
def isK (k o : Nat) : Bool := und 7 (k + 1) o
theorem ka_abv : ∀ k, k < 7 → KAf k = nI (abv (k + 1)) - nI 1 := by decide +kernel
theorem abv_le (k : Nat) : abv k ≤ 7 := by
  unfold abv
  split <;> decide
theorem und_step {i k o : Nat} (hi : i < 7) (h : k ≠ o) : und (7 - i) (k + 1) o = und (7 - (i + 1)) (abv (k + 1)) o := by
  rw [show 7 - i = (7 - (i + 1)) + 1 by omega, und]
  simp [h]
theorem und_hit {i k : Nat} (hi : i < 7) : und (7 - i) (k + 1) k = true := by
  rw [show 7 - i = (7 - (i + 1)) + 1 by omega, und]
  simp
theorem und_zero (f o : Nat) : und f 0 o = false := by
  cases f with
  | zero => rfl
  | succ f => rw [und]; simp
theorem und_end {i k o : Nat} (hi : 7 ≤ i) : und (7 - i) k o = false := by rw [show 7 - i = 0 by omega]; rfl
/-! who plays, what is heard, who hears whom -/
def bold (S : OS) (q : Nat) : Bool := decide (80 ≤ S 5 q) && isK (S 1 q) 4
def barsWith (S : OS) (pt : Nat) : Nat := setTo (fun j => (S 0 j).testBit pt) 12
def othr (S : OS) (q : Nat) : Bool := anyTo (fun o => o != q && S 3 o == 0) (S 7 0)
def bWrit (S : OS) (q : Nat) : Nat :=
  if isK (S 1 q) 3 && !othr S q then 0 else
    let s0 := barsWith S (S 3 q)
    let s1 := if isK (S 1 q) 2 then s0 ||| barsWith S ((S 3 q + 1) % 6) else s0
    let s2 := if isK (S 1 q) 1 then s1 &&& 4088 else s1
    if isK (S 1 q) 6 then s2 &&& 2730 else s2
def bPlay (S : OS) (q : Nat) : Nat := if bold S q then 4095 else bWrit S q
def plays (S : OS) (q bb : Nat) : Bool := (bPlay S q).testBit bb
def playIn (S : OS) (bb : Nat) : Nat := setTo (fun q => plays S q bb) (S 7 0)
def loudn (S : OS) (q se : Nat) : Nat := S 4 q - dist (S 2 q) se
def great (S : OS) (se set : Nat) : Nat := maxTo (fun q => if set.testBit q then loudn S q se else 0) (S 7 0)
def canHear (S : OS) (q o : Nat) : Bool := !(q == o || S 1 q == 5 && decide (S 2 o < S 2 q)) && decide (dist (S 2 o) (S 2 q) < S 4 o)
def bHear (S : OS) (q o : Nat) : Nat := if canHear S q o then bPlay S o else 0
def reachS (S : OS) (q : Nat) : Nat := setTo (fun o => canHear S q o) (S 7 0)
theorem WF.n {S : OS} (h : WF S) : S 7 0 ≤ 8 := h.1
theorem WF.f0 {S : OS} (h : WF S) (j : Nat) : S 0 j < 64 := h.2.1 j
theorem WF.f1 {S : OS} (h : WF S) (j : Nat) : S 1 j < 7 := h.2.2.1 j
theorem WF.f2 {S : OS} (h : WF S) (j : Nat) : S 2 j < 16 := h.2.2.2.1 j
theorem WF.f3 {S : OS} (h : WF S) (j : Nat) : S 3 j < 6 := h.2.2.2.2.1 j
theorem WF.f4 {S : OS} (h : WF S) (j : Nat) : S 4 j < 10 := h.2.2.2.2.2.1 j
theorem WF.f5 {S : OS} (h : WF S) (j : Nat) : S 5 j < 100 := h.2.2.2.2.2.2.1 j
theorem WF.f6 {S : OS} (h : WF S) (j : Nat) : S 6 j ≤ S 7 0 := h.2.2.2.2.2.2.2.1 j
theorem WF.ev {S : OS} (h : WF S) : S 8 0 < 200000 := h.2.2.2.2.2.2.2.2
theorem barsWith_lt (S : OS) (pt : Nat) : barsWith S pt < 4096 := setTo_lt _ 12
theorem and_lt' {x y n : Nat} (h : x < n) : x &&& y < n := Nat.lt_of_le_of_lt Nat.and_le_left h
theorem bWrit_lt (S : OS) (q : Nat) : bWrit S q < 4096 := by
  have h1 := barsWith_lt S (S 3 q)
  have h2 := barsWith_lt S ((S 3 q + 1) % 6)
  have h3 : barsWith S (S 3 q) ||| barsWith S ((S 3 q + 1) % 6) < 4096 := Nat.or_lt_two_pow (n := 12) h1 h2
  unfold bWrit
  dsimp only
  repeat' split
  all_goals first | decide | assumption | (apply and_lt'; first | assumption | (apply and_lt'; assumption))
theorem bPlay_lt (S : OS) (q : Nat) : bPlay S q < 4096 := by
  unfold bPlay
  split
  · decide
  · exact bWrit_lt S q
def loudst (S : OS) (se set : Nat) : Nat := setTo (fun q => decide (0 < great S se set) && set.testBit q && loudn S q se == great S se set) (S 7 0)
def reachd (S : OS) (bb : Nat) : Nat := cntTo (fun se => decide (0 < great S se (playIn S bb))) 16
def unner (S : OS) : Nat := setTo (fun q => S 5 q == 0) (S 7 0)
def spotsT (S : OS) : Nat := cntTo (fun k => decide (0 < S 6 k)) 10
def aloneTo (S : OS) (q : Nat) : Nat → Nat
  | 0 => bPlay S q
  | k + 1 => aloneTo S q k &&& (4095 ^^^ bHear S q k)
def bAlone (S : OS) (q : Nat) : Nat := aloneTo S q (S 7 0)
def linkTo (S : OS) (o : Nat) : Nat → Nat := cntTo (fun q => decide (bPlay S o ≠ 0) && canHear S q o)
def links (S : OS) : Nat := sumTo (fun o => linkTo S o (S 7 0)) (S 7 0)
def heardAll (S : OS) : Nat := sumTo (fun bb => sumTo (fun se => great S se (playIn S bb)) 16) 12
theorem playIn_lt {S : OS} (h : WF S) (bb : Nat) : playIn S bb < 256 := setTo_le (n := 8) h.n
theorem reachS_lt {S : OS} (h : WF S) (q : Nat) : reachS S q < 256 := setTo_le (n := 8) h.n
theorem loudn_lt {S : OS} (h : WF S) (q se : Nat) : loudn S q se < 10 := Nat.lt_of_le_of_lt (Nat.sub_le _ _) (h.f4 q)
theorem bHear_lt (S : OS) (q o : Nat) : bHear S q o < 4096 := by
  unfold bHear
  split
  · exact bPlay_lt S o
  · decide
theorem great_lt {S : OS} (h : WF S) (se set : Nat) : ∀ k, maxTo (fun q => if set.testBit q then loudn S q se else 0) k < 10
  | 0 => Nat.succ_pos 9
  | k + 1 => by
    rw [maxTo]
    refine Nat.max_lt.mpr ⟨great_lt h se set k, ?_⟩
    split
    · exact loudn_lt h k se
    · decide
theorem great_lt' {S : OS} (h : WF S) (se set : Nat) : great S se set < 10 := great_lt h se set (S 7 0)
theorem dist_le (x y : Nat) : dist x y ≤ x + y := by unfold dist; omega
theorem great_t {S : OS} {se set k : Nat} (h : set.testBit k = true) : max (maxTo (fun q => if set.testBit q then loudn S q se else 0) k) (loudn S k se) = maxTo (fun q => if set.testBit q then loudn S q se else 0) (k + 1) := by
  rw [maxTo]
  rw [if_pos h]
theorem great_f {S : OS} {se set k : Nat} (h : set.testBit k = false) : maxTo (fun q => if set.testBit q then loudn S q se else 0) k = maxTo (fun q => if set.testBit q then loudn S q se else 0) (k + 1) := by
  rw [maxTo]
  rw [if_neg (by rw [h]; decide), Nat.max_zero]
theorem lst_t {g x t i : Nat} (h0 : 0 < g) (h1 : (t / 2 ^ i &&& 1) ≠ 0) (h2 : x = g) : (decide (0 < g) && t.testBit i && x == g) = true := by
  rw [bit_t h1, h2]
  simp [h0]
theorem lst_f0 {g x t i : Nat} (h0 : g = 0) : (decide (0 < g) && t.testBit i && x == g) = false := by rw [h0]; simp
theorem lst_f1 {g x t i : Nat} (h1 : (t / 2 ^ i &&& 1) = 0) : (decide (0 < g) && t.testBit i && x == g) = false := by rw [bit_f h1]; simp
theorem lst_f2 {g x t i : Nat} (h2 : x ≠ g) : (decide (0 < g) && t.testBit i && x == g) = false := by simp [h2]
theorem spot_t {x : Nat} (h : ¬ nI x - nI 1 < 0) : 0 < x := by
  rcases x with _ | x
  · exact absurd (by decide) h
  · omega
theorem spot_f {x : Nat} (hx : x < 1000) (h : nI x - nI 1 < 0) : ¬ 0 < x := by
  rcases x with _ | x
  · omega
  · rw [show nI (x + 1) - nI 1 = nI x from nI_pred x] at h
    exact absurd h (nI_pos (by omega))
theorem nI_andn {x y : Nat} (hx : x < 4096) (hy : y < 4096) : nI x &&& (nI y ^^^ -1) = nI (x &&& (4095 ^^^ y)) := by
  apply Int32.toBitVec_inj.mp
  show BitVec.ofNat 32 x &&& (BitVec.ofNat 32 y ^^^ BitVec.allOnes 32) = BitVec.ofNat 32 (x &&& (4095 ^^^ y))
  apply BitVec.eq_of_getLsbD_eq
  intro i hi
  rw [BitVec.getLsbD_and, BitVec.getLsbD_xor, BitVec.getLsbD_ofNat, BitVec.getLsbD_ofNat, BitVec.getLsbD_ofNat, Nat.testBit_and, Nat.testBit_xor, BitVec.getLsbD_allOnes]
  by_cases h : i < 12
  · have h2 : Nat.testBit 4095 i = true := by
      rw [show (4095 : Nat) = 2 ^ 12 - 1 by decide, Nat.testBit_two_pow_sub_one]
      simp [h]
    simp [h2, hi, Bool.xor_comm]
  · have h2 : x.testBit i = false := Nat.testBit_lt_two_pow (Nat.lt_of_lt_of_le hx (Nat.pow_le_pow_right (n := 2) (by decide) (show 12 ≤ i by omega)))
    simp [h2]
theorem aloneTo_lt (S : OS) (q : Nat) : ∀ k, aloneTo S q k < 4096
  | 0 => bPlay_lt S q
  | k + 1 => and_lt' (aloneTo_lt S q k)
theorem alone_s (S : OS) (q i : Nat) : nI (aloneTo S q i) &&& (nI (bHear S q i) ^^^ -1) = nI (aloneTo S q (i + 1)) := nI_andn (aloneTo_lt S q i) (bHear_lt S q i)
theorem link_t {S : OS} {A i j : Nat} (h : bPlay S i ≠ 0) (h2 : canHear S j i = true) : A + linkTo S i j + 1 = A + linkTo S i (j + 1) := by
  rw [linkTo, ← cntTo_t (P := fun q => decide (bPlay S i ≠ 0) && canHear S q i) (by simp [h, h2]), Nat.add_assoc]
theorem link_f {S : OS} {A i j : Nat} (h2 : canHear S j i = false) : A + linkTo S i j = A + linkTo S i (j + 1) := by
  rw [linkTo, ← cntTo_f (P := fun q => decide (bPlay S i ≠ 0) && canHear S q i) (by simp [h2])]
theorem link_0 {S : OS} {A i j : Nat} (h : bPlay S i = 0) : A + linkTo S i j = A + linkTo S i (j + 1) := by
  rw [linkTo, ← cntTo_f (P := fun q => decide (bPlay S i ≠ 0) && canHear S q i) (by simp [h])]
