/-! odds -/
def hvn (s : Nat) : Nat → Nat × Nat
  | 0 => (16 - s, 16)
  | k + 1 => if (hvn s k).1 % 2 = 0 ∧ (hvn s k).2 % 2 = 0 then ((hvn s k).1 / 2, (hvn s k).2 / 2) else hvn s k
theorem hv_le (s : Nat) : ∀ k, (hvn s k).1 ≤ 16 ∧ (hvn s k).2 ≤ 16
  | 0 => ⟨Nat.sub_le 16 s, Nat.le_refl 16⟩
  | k + 1 => by
    have h := hv_le s k
    rw [hvn]
    split
    · constructor
      · show (hvn s k).1 / 2 ≤ 16; omega
      · show (hvn s k).2 / 2 ≤ 16; omega
    · exact h
theorem hv_t {s k : Nat} (h : (hvn s k).1 % 2 = 0) (h2 : (hvn s k).2 % 2 = 0) : hvn s (k + 1) = ((hvn s k).1 / 2, (hvn s k).2 / 2) := by rw [hvn, if_pos ⟨h, h2⟩]
theorem hv_f1 {s k : Nat} (h : ¬ (hvn s k).1 % 2 = 0) : hvn s (k + 1) = hvn s k := by rw [hvn, if_neg (fun z => h z.1)]
theorem hv_f2 {s k : Nat} (h : ¬ (hvn s k).2 % 2 = 0) : hvn s (k + 1) = hvn s k := by rw [hvn, if_neg (fun z => h z.2)]
theorem hv_end : ∀ s, s < 9 → ∀ k, k < 5 → ((hvn s k).1 % 2 = 0 ∧ (hvn s k).2 % 2 = 0 ∧ k < 4) ∨ (¬ ((hvn s k).1 % 2 = 0 ∧ (hvn s k).2 % 2 = 0) ∧ hvn s k = hvn s 4) := by decide
theorem hv_more {s k : Nat} (hs : s < 9) (hk : k < 5) (h : (hvn s k).1 % 2 = 0) (h2 : (hvn s k).2 % 2 = 0) : k < 4 := by
  rcases hv_end s hs k hk with ⟨_, _, e⟩ | ⟨e, _⟩
  · exact e
  · exact absurd ⟨h, h2⟩ e
theorem hv_1 {s k : Nat} (hs : s < 9) (hk : k < 5) (h : (hvn s k).1 % 2 ≠ 0 ∨ (hvn s k).2 % 2 ≠ 0) : hvn s k = hvn s 4 := by
  rcases hv_end s hs k hk with ⟨e1, e2, _⟩ | ⟨_, e⟩
  · rcases h with h | h
    · exact absurd e1 h
    · exact absurd e2 h
  · exact e
theorem and1m {x : Nat} (h : (x &&& 1) = 0) : x % 2 = 0 := by rw [← Nat.and_one_is_mod]; exact h
theorem and1n {x : Nat} (h : (x &&& 1) ≠ 0) : ¬ x % 2 = 0 := by rw [← Nat.and_one_is_mod]; exact h
def pwL (f : Nat) : Nat → Int64
  | 0 => 1
  | k + 1 => pwL f k * (nI f).toInt64
def p_odds (X : AS) (n w : Int32) : Int64 × AS := if (inN n 15 && inN w 2) = true then (pwL (if tn w = 0 then (hvn (X.1 7 0) 4).1 else (hvn (X.1 7 0) 4).2) (tn n), X) else ((fnd 0).toInt64, toF X (inc X.2.2.2.1 0))
