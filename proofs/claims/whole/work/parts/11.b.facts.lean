/-! facts for bestSwap -/
theorem ite01 (c : Prop) [h : Decidable c] : (if c then 0 else 1) ≤ 1 := by split <;> omega
theorem bsJ_max (S : OS) (i : Nat) (r : Nat × Nat) (k : Nat) : max (bsJ S i r k).2 (links (swS S i (i + 1 + k)) + 1) = (bsJ S i r (k + 1)).2 := by
  rw [bsJ]
  by_cases h : (bsJ S i r k).2 < links (swS S i (i + 1 + k)) + 1
  · rw [if_pos h]; exact Nat.max_eq_right (Nat.le_of_lt h)
  · rw [if_neg h]; exact Nat.max_eq_left (Nat.not_lt.mp h)
