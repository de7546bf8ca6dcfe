/-! copy -/
theorem hasR_ex {n : Nat} {x y : Int32} (h : hasR n x y = true) (hn : n < 1000) : ∃ a b : Nat, a + b ≤ n ∧ x = nI a ∧ y = nI b := by
  unfold hasR at h
  rw [decide_eq_true_eq] at h
  obtain ⟨a, ha, rfl⟩ := vp_in_of (x := x) (n := n + 1) (vp_in_iff.mpr ⟨by omega, by omega⟩) (by omega)
  obtain ⟨b, hb, rfl⟩ := vp_in_of (x := y) (n := n + 1) (vp_in_iff.mpr ⟨by omega, by omega⟩) (by omega)
  rw [nI_toInt (by omega), nI_toInt (by omega)] at h
  exact ⟨a, b, by omega, rfl, rfl⟩
theorem hasR_ex2 {n b : Nat} {x : Int32} (h : hasR n x (nI b) = true) (hn : n < 1000) (hb : b < 1000) : ∃ a : Nat, a + b ≤ n ∧ x = nI a := by
  obtain ⟨a, c, h1, h2, h3⟩ := hasR_ex h hn
  have : b = c := (nI_eq (by omega) (by omega)).mp h3
  exact ⟨a, by omega, h2⟩
def p_copy (X : AS) (x f y g n : Int32) : Int32 × AS := bk X (inN x 4 && inN y 4) 0 (bk X (decide (X.2.2.2.2.2.2.1 (tn x) ≠ 0) && decide (X.2.2.2.2.2.2.1 (tn y) ≠ 0)) 5 (bk X (decide (X.2.2.2.2.2.2.1 (tn x) = X.2.2.2.2.2.2.1 (tn y))) 2 (bk X (hasR (X.2.2.2.2.2.2.2.1 (tn x)) f n && hasR (X.2.2.2.2.2.2.2.1 (tn y)) g n) 0 (n, toH X X.2.2.2.2.2.2.1 X.2.2.2.2.2.2.2.1 (updF X.2.2.2.2.2.2.2.2 (tn y) (va_cpy (X.2.2.2.2.2.2.2.2 (tn x)) (X.2.2.2.2.2.2.2.2 (tn y)) (tn f) (tn g) (tn n)))))))
