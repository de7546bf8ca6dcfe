/-! sheets -/
section SH
variable (ci : Nat → ClassId) (a : Nat → Nat) (b n : Nat) (f : Nat → Int32) (j v : Nat) (x : Int32)
theorem wSh_b : (wSh ci a b n f).set 0 (a 0, .inr (1, ([.ref (a 1), .int (nI b), .int (nI n)] : List Value).set 1 (.int (nI v)))) = wSh ci a v n f := rfl
theorem wSh_n : (wSh ci a b n f).set 0 (a 0, .inr (1, ([.ref (a 1), .int (nI b), .int (nI n)] : List Value).set 2 (.int (nI v)))) = wSh ci a b v f := rfl
theorem wSh_f : (wSh ci a b n f).set 1 (a 1, .inl (ci 0, 40, .inl (upd f j x))) = wSh ci a b n (upd f j x) := rfl
end SH
theorem wSh_D {ci : Nat → ClassId} {a : Nat → Nat} (hI : injA a 2) {b n : Nat} {f : Nat → Int32} : va_D (aT a) (wSh ci a b n f) := by
  have key : ∀ (k : Nat) (q : Nat × va_E), (wSh ci a b n f)[k]? = some q → k < 2 ∧ q.1 = a k := fun k q h => by
    match k, h with
    | 0, h => cases h; exact ⟨by decide, rfl⟩
    | 1, h => cases h; exact ⟨by decide, rfl⟩
    | k + 2, h => simp [wSh] at h
  refine ⟨fun i j p q hp hq h => ?_, fun k q hk => ?_⟩
  · obtain ⟨h1, h2⟩ := key i p hp
    obtain ⟨h3, h4⟩ := key j q hq
    exact hI i j h1 h3 (by rw [← h2, ← h4]; exact h)
  · obtain ⟨h1, h2⟩ := key k q hk
    exact ⟨k, h1, h2⟩
theorem va_P.shf {D : va_G} {ci : Nat → ClassId} {a : Nat → Nat} {b n : Nat} {f g : Nat → Int32} {H : Heap} (hP : va_P D vwCl (wSh ci a b n f) H) (h : ∀ j, j < 40 → f j = g j) : va_P D vwCl (wSh ci a b n g) H := by
  intro k q hk
  match k, hk with
  | 0, hk => exact hP 0 q hk
  | 1, hk =>
    cases hk
    show H[a 1]? = some (vp_cell (ci 0) (40, .inl g))
    rw [← cell_cong h]
    exact hP 1 _ rfl
  | k + 2, hk => simp [wSh] at hk
def cutN (b : Nat) (v : Int32) : Int32 := if b = 8 then v.toInt8.toInt32 else if b = 16 then v.toInt16.toInt32 else v
theorem cut8 {b : Nat} {v : Int32} (h : b = 8) : v.toInt8.toInt32 = cutN b v := by simp [cutN, h]
theorem cut16 {b : Nat} {v : Int32} (h : b ≠ 8) (h2 : b = 16) : v.toInt16.toInt32 = cutN b v := by simp [cutN, h2]
theorem cut32 {b : Nat} {v : Int32} (h : b ≠ 8) (h2 : b ≠ 16) : v = cutN b v := by simp [cutN, h, h2]
/-- there are y numbers from x on -/
def hasR (n : Nat) (x y : Int32) : Bool := decide (0 ≤ x.toInt ∧ 0 ≤ y.toInt ∧ x.toInt + y.toInt ≤ (n : Int))
theorem hasR_f0 {n : Nat} {x y : Int32} (h : x < 0) : decide (0 ≤ x.toInt ∧ 0 ≤ y.toInt ∧ x.toInt + y.toInt ≤ (n : Int)) = false := by
  rw [decide_eq_false_iff_not]
  have a : (0 : Int32).toInt = 0 := rfl
  rw [Int32.lt_iff_toInt_lt, a] at h
  omega
theorem hasR_f1 {n : Nat} {x y : Int32} (h : y < 0) : decide (0 ≤ x.toInt ∧ 0 ≤ y.toInt ∧ x.toInt + y.toInt ≤ (n : Int)) = false := by
  rw [decide_eq_false_iff_not]
  have a : (0 : Int32).toInt = 0 := rfl
  rw [Int32.lt_iff_toInt_lt, a] at h
  omega
theorem hasR_f2 {n : Nat} {x y : Int32} (hn : n < 1000) (hy : ¬ y < 0) (h : nI n < x) : decide (0 ≤ x.toInt ∧ 0 ≤ y.toInt ∧ x.toInt + y.toInt ≤ (n : Int)) = false := by
  rw [decide_eq_false_iff_not]
  have a : (0 : Int32).toInt = 0 := rfl
  have b : (nI n).toInt = (n : Int) := nI_toInt (by omega)
  rw [Int32.lt_iff_toInt_lt, a] at hy
  rw [Int32.lt_iff_toInt_lt, b] at h
  omega
theorem hasR_f3 {n k : Nat} {y : Int32} (hn : n < 1000) (hk : k ≤ n) (h : nI (n - k) < y) : decide (0 ≤ (nI k).toInt ∧ 0 ≤ y.toInt ∧ (nI k).toInt + y.toInt ≤ (n : Int)) = false := by
  rw [decide_eq_false_iff_not]
  have b : (nI k).toInt = (k : Int) := nI_toInt (by omega)
  have b' : (nI (n - k)).toInt = ((n - k : Nat) : Int) := nI_toInt (by omega)
  rw [Int32.lt_iff_toInt_lt, b'] at h
  rw [b]
  omega
theorem hasR_t {n k i : Nat} (hn : n < 1000) (hk : k ≤ n) (hi : i ≤ n - k) : decide (0 ≤ (nI k).toInt ∧ 0 ≤ (nI i).toInt ∧ (nI k).toInt + (nI i).toInt ≤ (n : Int)) = true := by
  rw [decide_eq_true_eq, nI_toInt (by omega), nI_toInt (by omega)]
  omega
