/-! facts for the model's sheets and strings -/
def lkm (k : Nat) : Int32 := if k = 7 then 0 else fnd k
theorem fnd_0 : fnd 0 = -1000001 := by decide
theorem fnd_5 : fnd 5 = -1000006 := by decide
theorem lackN_cases (X : AS) (x : Int32) : lackN X x = 0 ∨ lackN X x = 5 ∨ lackN X x = 7 := by
  unfold lackN
  repeat' split
  all_goals omega
theorem lkm_eq {X : AS} {x : Int32} (h : lkm (lackN X x) = 0) : lackN X x = 7 := by
  rcases lackN_cases X x with e | e | e
  · rw [e] at h; exact absurd h (by decide)
  · rw [e] at h; exact absurd h (by decide)
  · exact e
theorem lkm_ne {X : AS} {x : Int32} (h : lkm (lackN X x) ≠ 0) : lackN X x ≠ 7 := fun e => h (by rw [e]; rfl)
theorem lkm_f {k : Nat} (h : k ≠ 7) : lkm k = fnd k := by rw [lkm, if_neg h]
theorem lkm_7 {k : Nat} (h : k = 7) : lkm k = nI 0 := by rw [h]; rfl
theorem bad_step {T : OS} {f : Nat → Int32} {q i : Nat} (h : (!anyTo (badA T f q) i) = true) (h2 : badA T f q i = false) : (!anyTo (badA T f q) (i + 1)) = true := by
  rw [anyTo, h2, Bool.or_false]; exact h
theorem bad_stop {T : OS} {f : Nat → Int32} {q i : Nat} (h2 : badA T f q i = true) : (!anyTo (badA T f q) (i + 1)) = false := by
  rw [anyTo, h2, Bool.or_true]; rfl
theorem goA_end {T : OS} {f : Nat → Int32} {q i n : Nat} (hi : i ≤ n) (h : i = n ∨ (!anyTo (badA T f q) i) = false) : (!anyTo (badA T f q) i) = goA T n f q := by
  rcases h with e | e
  · rw [e]; rfl
  · rw [e, goA]
    have h3 : anyTo (badA T f q) i = true := by
      cases g : anyTo (badA T f q) i
      · rw [g] at e; cases e
      · rfl
    obtain ⟨j, h1, h2⟩ := (anyTo_iff _ _).mp h3
    rw [(anyTo_iff _ n).mpr ⟨j, by omega, h2⟩]
    rfl
theorem strO_8 {S : OS} (h : S 8 0 < 99999) : strO S = evM (if drw S < S 7 0 then st (st S 9 0 (dz (S 9 0))) 5 (drw S) 0 else st S 9 0 (dz (S 9 0))) := by
  rw [strO]
  split <;> exact eveC_lt h
theorem strO_ev8 {S : OS} (h : S 8 0 < 99999) : strO S 8 0 = S 8 0 + 1 := by
  rw [strO_8 h, evM_8]
  split <;> rfl
theorem strN_8 {S : OS} : ∀ k, S 8 0 + k ≤ 99999 → (strN S k).1 8 0 = S 8 0 + k
  | 0, _ => rfl
  | k + 1, h => by
    have h1 := strN_8 (S := S) k (by omega)
    show strO (strN S k).1 8 0 = _
    rw [strO_ev8 (by omega), h1]
    rfl
theorem strN_s1 {S : OS} {i : Nat} (h : (strN S i).1 8 0 < 99999) (h2 : drw (strN S i).1 < (strN S i).1 7 0) : evM (st (st (strN S i).1 9 0 (dz ((strN S i).1 9 0))) 5 (drw (strN S i).1) 0) = (strN S (i + 1)).1 := by
  show _ = strO (strN S i).1
  rw [strO_8 h, if_pos h2]
theorem strN_s2 {S : OS} {i : Nat} (h : (strN S i).1 8 0 < 99999) (h2 : ¬ drw (strN S i).1 < (strN S i).1 7 0) : evM (st (strN S i).1 9 0 (dz ((strN S i).1 9 0))) = (strN S (i + 1)).1 := by
  show _ = strO (strN S i).1
  rw [strO_8 h, if_neg h2]
theorem strN_h1 {S : OS} {i : Nat} (h2 : drw (strN S i).1 < (strN S i).1 7 0) : (strN S i).2 + 1 = (strN S (i + 1)).2 := by
  show _ = if drw (strN S i).1 < (strN S i).1 7 0 then (strN S i).2 + 1 else (strN S i).2
  rw [if_pos h2]
theorem strN_h2 {S : OS} {i : Nat} (h2 : ¬ drw (strN S i).1 < (strN S i).1 7 0) : (strN S i).2 = (strN S (i + 1)).2 := by
  show _ = if drw (strN S i).1 < (strN S i).1 7 0 then (strN S i).2 + 1 else (strN S i).2
  rw [if_neg h2]
theorem okM_t {A : Bool} {P : Nat → Bool} {k : Nat} (h : (!anyTo P k) = true) (h2 : P k = false) : (!anyTo P (k + 1)) = true := by rw [anyTo, h2, Bool.or_false]; exact h
