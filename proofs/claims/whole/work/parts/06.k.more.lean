theorem okJ_0 {X : AS} {f : Nat → Int32} {i : Nat} (h : inN (f i) (X.1 7 0) = true) (h2 : i = 0) : (fun i => !okJ X f i) i = false := by
  show (!okJ X f i) = false
  rw [okJ, h, h2]
  rfl
theorem okJ_1 {X : AS} {f : Nat → Int32} {i : Nat} (h : inN (f i) (X.1 7 0) = true) (h2 : pairB X (f i) (f (i - 1)) = true) (h3 : bHear X.1 (tn (f i)) (tn (f (i - 1))) ≠ 0) : (fun i => !okJ X f i) i = false := by
  show (!okJ X f i) = false
  rw [okJ, h, h2]
  simp [h3]
theorem okJ_a {X : AS} {f : Nat → Int32} {i : Nat} (h : inN (f i) (X.1 7 0) = false) : (fun i => !okJ X f i) i = true := by
  show (!okJ X f i) = true
  rw [okJ, h]
  rfl
theorem okJ_b {X : AS} {f : Nat → Int32} {i : Nat} (h : 0 < i) (h2 : pairB X (f i) (f (i - 1)) = false) : (fun i => !okJ X f i) i = true := by
  show (!okJ X f i) = true
  rw [okJ, h2]
  simp [show i ≠ 0 by omega]
theorem okJ_c {X : AS} {f : Nat → Int32} {i : Nat} (h : 0 < i) (h3 : bHear X.1 (tn (f i)) (tn (f (i - 1))) = 0) : (fun i => !okJ X f i) i = true := by
  show (!okJ X f i) = true
  rw [okJ, h3]
  simp [show i ≠ 0 by omega]
theorem drw_lt (S : OS) : drw S < 16 := Nat.mod_lt _ (by decide)
theorem WFX_toS {X : AS} {S : OS} (h : WFX X) (hS : WF S) (he : S 8 0 ≤ 99999) : WFX (toS X S) := ⟨hS, h.2.1, he, h.2.2.2⟩
theorem strO_ev (S : OS) : strO S 8 0 ≤ 99999 := by
  unfold strO eveC
  simp only [st]
  simp
  omega
theorem strN_ev {S : OS} (h : S 8 0 ≤ 99999) : ∀ k, (strN S k).1 8 0 ≤ 99999
  | 0 => h
  | k + 1 => strO_ev (strN S k).1
theorem bsJ1_le (S : OS) {i : Nat} {r : Nat × Nat} (hi : i < 8) (hr : r.1 ≤ 73) : ∀ k, i + 1 + k ≤ 8 → (bsJ S i r k).1 ≤ 73
  | 0, _ => hr
  | k + 1, hk => by
    have h1 := bsJ1_le S hi hr k (by omega)
    rw [bsJ]
    split
    · show 8 * i + (i + 1 + k) + 1 ≤ 73
      omega
    · exact h1
theorem bsI1_le {S : OS} (h : S 7 0 ≤ 8) : ∀ i, i ≤ S 7 0 → (bsI S i).1 ≤ 73
  | 0, _ => Nat.zero_le _
  | i + 1, hi => bsJ1_le S (by omega) (bsI1_le h i (by omega)) _ (by omega)
