/-! the model's world: its places, one cell changed -/
def aM (am : Nat → Nat) : Nat → Prop := fun q => ∃ k, k < 16 ∧ q = am k
theorem aM_m {am : Nat → Nat} {k : Nat} (h : k < 16) : ∀ q, q = am k → aM am q := fun q e => ⟨k, h, e⟩
def wN (ci : Nat → ClassId) (am : Nat → Nat) (X : AS) (kr : Nat → Int32) (q0 q1 q2 q3 q4 q5 : Int32) (iw : Bool) (kn : Nat → Option Nat) (y0 y1 y2 y3 y4 y5 y6 : Nat → Int32) : va_W := [(am 0, .inr (4, [.ref (am 1), .ref (am 2), .ref (am 3), .int (bI X.2.2.1), .ref (am 4), .ref (am 5), .ref (am 6), .ref (am 7), .ref (am 8), .ref (am 9), .int (nI X.2.2.2.2.1), .int q0, .int q1, .int q2, .int q3, .int (bI iw), .ref (am 10), .ref (am 11), .int q4, .int q5, .ref (am 12), .ref (am 13), .ref (am 14), .ref (am 15)])), (am 1, .inl (ci 0, 65, .inl (pk X.1))), (am 2, .inl (ci 0, 65, .inl kr)), (am 3, .inl (ci 0, 65, .inl y0)), (am 4, .inl (ci 0, 8, .inl (fun j => nI (fdm X.2.2.2.1 j)))), (am 5, .inl (ci 0, 8, .inl y1)), (am 6, .inl (ci 0, 192, .inl y2)), (am 7, .inl (ci 0, 16, .inl y3)), (am 8, .inl (ci 0, 8, .inl y4)), (am 9, .inl (ci 0, 120, .inl (fun j => nI (X.2.2.2.2.2.1 j)))), (am 10, .inl (ci 2, 7, .inr (.inr (.inr (.inr kn))))), (am 11, .inl (ci 0, 600, .inl y5)), (am 12, .inl (ci 0, 4, .inl (fun j => nI (X.2.2.2.2.2.2.1 j)))), (am 13, .inl (ci 0, 4, .inl (fun j => nI (X.2.2.2.2.2.2.2.1 j)))), (am 14, .inl (ci 0, 160, .inl (fun j => X.2.2.2.2.2.2.2.2 (j / 40) (j % 40)))), (am 15, .inl (ci 0, 40, .inl y6))]
def wNg (ci : Nat → ClassId) (am : Nat → Nat) (X : AS) (kr : Nat → Int32) (q0 q1 q2 q3 q4 q5 : Int32) (iw : Bool) (kn : Nat → Option Nat) (y0 y1 y2 y3 y4 y5 y6 : Nat → Int32) (fm : Nat → Nat) : va_W := [(am 0, .inr (4, [.ref (am 1), .ref (am 2), .ref (am 3), .int (bI X.2.2.1), .ref (am 4), .ref (am 5), .ref (am 6), .ref (am 7), .ref (am 8), .ref (am 9), .int (nI X.2.2.2.2.1), .int q0, .int q1, .int q2, .int q3, .int (bI iw), .ref (am 10), .ref (am 11), .int q4, .int q5, .ref (am 12), .ref (am 13), .ref (am 14), .ref (am 15)])), (am 1, .inl (ci 0, 65, .inl (pk X.1))), (am 2, .inl (ci 0, 65, .inl kr)), (am 3, .inl (ci 0, 65, .inl y0)), (am 4, .inl (ci 0, 8, .inl (fun j => nI (fm j)))), (am 5, .inl (ci 0, 8, .inl y1)), (am 6, .inl (ci 0, 192, .inl y2)), (am 7, .inl (ci 0, 16, .inl y3)), (am 8, .inl (ci 0, 8, .inl y4)), (am 9, .inl (ci 0, 120, .inl (fun j => nI (X.2.2.2.2.2.1 j)))), (am 10, .inl (ci 2, 7, .inr (.inr (.inr (.inr kn))))), (am 11, .inl (ci 0, 600, .inl y5)), (am 12, .inl (ci 0, 4, .inl (fun j => nI (X.2.2.2.2.2.2.1 j)))), (am 13, .inl (ci 0, 4, .inl (fun j => nI (X.2.2.2.2.2.2.2.1 j)))), (am 14, .inl (ci 0, 160, .inl (fun j => X.2.2.2.2.2.2.2.2 (j / 40) (j % 40)))), (am 15, .inl (ci 0, 40, .inl y6))]
theorem wN_adr (ci : Nat → ClassId) (am : Nat → Nat) (X : AS) (kr : Nat → Int32) (q0 q1 q2 q3 q4 q5 : Int32) (iw : Bool) (kn : Nat → Option Nat) (y0 y1 y2 y3 y4 y5 y6 : Nat → Int32) : ∀ (k : Nat) (p : Nat × va_E), (wN ci am X kr q0 q1 q2 q3 q4 q5 iw kn y0 y1 y2 y3 y4 y5 y6)[k]? = some p → k < 16 ∧ p.1 = am k := by
  intro k p h
  match k, h with
  | 0, h => cases h; exact ⟨by decide, rfl⟩
  | 1, h => cases h; exact ⟨by decide, rfl⟩
  | 2, h => cases h; exact ⟨by decide, rfl⟩
  | 3, h => cases h; exact ⟨by decide, rfl⟩
  | 4, h => cases h; exact ⟨by decide, rfl⟩
  | 5, h => cases h; exact ⟨by decide, rfl⟩
  | 6, h => cases h; exact ⟨by decide, rfl⟩
  | 7, h => cases h; exact ⟨by decide, rfl⟩
  | 8, h => cases h; exact ⟨by decide, rfl⟩
  | 9, h => cases h; exact ⟨by decide, rfl⟩
  | 10, h => cases h; exact ⟨by decide, rfl⟩
  | 11, h => cases h; exact ⟨by decide, rfl⟩
  | 12, h => cases h; exact ⟨by decide, rfl⟩
  | 13, h => cases h; exact ⟨by decide, rfl⟩
  | 14, h => cases h; exact ⟨by decide, rfl⟩
  | 15, h => cases h; exact ⟨by decide, rfl⟩
  | k + 16, h => simp [wN] at h
theorem wNg_adr (ci : Nat → ClassId) (am : Nat → Nat) (X : AS) (kr : Nat → Int32) (q0 q1 q2 q3 q4 q5 : Int32) (iw : Bool) (kn : Nat → Option Nat) (y0 y1 y2 y3 y4 y5 y6 : Nat → Int32) (fm : Nat → Nat) : ∀ (k : Nat) (p : Nat × va_E), (wNg ci am X kr q0 q1 q2 q3 q4 q5 iw kn y0 y1 y2 y3 y4 y5 y6 fm)[k]? = some p → k < 16 ∧ p.1 = am k := by
  intro k p h
  match k, h with
  | 0, h => cases h; exact ⟨by decide, rfl⟩
  | 1, h => cases h; exact ⟨by decide, rfl⟩
  | 2, h => cases h; exact ⟨by decide, rfl⟩
  | 3, h => cases h; exact ⟨by decide, rfl⟩
  | 4, h => cases h; exact ⟨by decide, rfl⟩
  | 5, h => cases h; exact ⟨by decide, rfl⟩
  | 6, h => cases h; exact ⟨by decide, rfl⟩
  | 7, h => cases h; exact ⟨by decide, rfl⟩
  | 8, h => cases h; exact ⟨by decide, rfl⟩
  | 9, h => cases h; exact ⟨by decide, rfl⟩
  | 10, h => cases h; exact ⟨by decide, rfl⟩
  | 11, h => cases h; exact ⟨by decide, rfl⟩
  | 12, h => cases h; exact ⟨by decide, rfl⟩
  | 13, h => cases h; exact ⟨by decide, rfl⟩
  | 14, h => cases h; exact ⟨by decide, rfl⟩
  | 15, h => cases h; exact ⟨by decide, rfl⟩
  | k + 16, h => simp [wNg] at h
theorem D_of {am : Nat → Nat} (hI : injA am 16) {ws : va_W} (ha : ∀ (k : Nat) (p : Nat × va_E), ws[k]? = some p → k < 16 ∧ p.1 = am k) : va_D (aM am) ws := by
  refine ⟨fun i j p q hp hq h => ?_, fun k q hk => ?_⟩
  · obtain ⟨h1, h2⟩ := ha i p hp
    obtain ⟨h3, h4⟩ := ha j q hq
    exact hI i j h1 h3 (by rw [← h2, ← h4]; exact h)
  · obtain ⟨h1, h2⟩ := ha k q hk
    exact ⟨k, h1, h2⟩
theorem wN_D {ci : Nat → ClassId} {am : Nat → Nat} {X : AS} {kr : Nat → Int32} {q0 q1 q2 q3 q4 q5 : Int32} {iw : Bool} {kn : Nat → Option Nat} {y0 y1 y2 y3 y4 y5 y6 : Nat → Int32} (hI : injA am 16) : va_D (aM am) (wN ci am X kr q0 q1 q2 q3 q4 q5 iw kn y0 y1 y2 y3 y4 y5 y6) := D_of hI (wN_adr _ _ _ _ _ _ _ _ _ _ _ _ _ _ _ _ _ _ _)
theorem wNg_D {ci : Nat → ClassId} {am : Nat → Nat} {X : AS} {kr : Nat → Int32} {q0 q1 q2 q3 q4 q5 : Int32} {iw : Bool} {kn : Nat → Option Nat} {y0 y1 y2 y3 y4 y5 y6 : Nat → Int32} {fm : Nat → Nat} (hI : injA am 16) : va_D (aM am) (wNg ci am X kr q0 q1 q2 q3 q4 q5 iw kn y0 y1 y2 y3 y4 y5 y6 fm) := D_of hI (wNg_adr _ _ _ _ _ _ _ _ _ _ _ _ _ _ _ _ _ _ _ _)
theorem enT_S {A : Nat → Prop} {s : State} {H0 H : Heap} {locs : List Loc} (_h : enT s H0) (_hS : va_S A H0 H locs) : enT s H := trivial
theorem nI_m3 (x : Nat) : nI x + (-3) = nI x - nI 3 := by
  rw [show (-3 : Int32) = - nI 3 by decide, ← Int32.sub_eq_add_neg]
theorem nI_m1b (x : Nat) : nI x + (-1) = nI x - nI 1 := by
  rw [show (-1 : Int32) = - nI 1 by decide, ← Int32.sub_eq_add_neg]
section WM
variable (ci : Nat → ClassId) (am : Nat → Nat) (X : AS) (kr : Nat → Int32) (q0 q1 q2 q3 q4 q5 : Int32) (iw : Bool) (kn : Nat → Option Nat) (y0 y1 y2 y3 y4 y5 y6 : Nat → Int32) (j v : Nat) (x : Int32)
theorem wN_now {S' : OS} (h : upd (pk X.1) j x = pk S') : (wN ci am X kr q0 q1 q2 q3 q4 q5 iw kn y0 y1 y2 y3 y4 y5 y6).set 1 (am 1, .inl (ci 0, 65, .inl (upd (pk X.1) j x))) = wN ci am (toS X S') kr q0 q1 q2 q3 q4 q5 iw kn y0 y1 y2 y3 y4 y5 y6 := by
  rw [h]; rfl
theorem wNg_fd (fm : Nat → Nat) : (wNg ci am X kr q0 q1 q2 q3 q4 q5 iw kn y0 y1 y2 y3 y4 y5 y6 fm).set 4 (am 4, .inl (ci 0, 8, .inl (upd (fun j => nI (fm j)) j (nI v)))) = wNg ci am X kr q0 q1 q2 q3 q4 q5 iw kn y0 y1 y2 y3 y4 y5 y6 (updF fm j v) := by
  rw [upd_nI fm j v (updF fm j v) (fun k => rfl)]; rfl
theorem wN_y0 : (wN ci am X kr q0 q1 q2 q3 q4 q5 iw kn y0 y1 y2 y3 y4 y5 y6).set 3 (am 3, .inl (ci 0, 65, .inl (upd y0 j x))) = wN ci am X kr q0 q1 q2 q3 q4 q5 iw kn (upd y0 j x) y1 y2 y3 y4 y5 y6 := rfl
theorem wN_y1 : (wN ci am X kr q0 q1 q2 q3 q4 q5 iw kn y0 y1 y2 y3 y4 y5 y6).set 5 (am 5, .inl (ci 0, 8, .inl (upd y1 j x))) = wN ci am X kr q0 q1 q2 q3 q4 q5 iw kn y0 (upd y1 j x) y2 y3 y4 y5 y6 := rfl
theorem wN_y2 : (wN ci am X kr q0 q1 q2 q3 q4 q5 iw kn y0 y1 y2 y3 y4 y5 y6).set 6 (am 6, .inl (ci 0, 192, .inl (upd y2 j x))) = wN ci am X kr q0 q1 q2 q3 q4 q5 iw kn y0 y1 (upd y2 j x) y3 y4 y5 y6 := rfl
theorem wN_y3 : (wN ci am X kr q0 q1 q2 q3 q4 q5 iw kn y0 y1 y2 y3 y4 y5 y6).set 7 (am 7, .inl (ci 0, 16, .inl (upd y3 j x))) = wN ci am X kr q0 q1 q2 q3 q4 q5 iw kn y0 y1 y2 (upd y3 j x) y4 y5 y6 := rfl
theorem wN_y4 : (wN ci am X kr q0 q1 q2 q3 q4 q5 iw kn y0 y1 y2 y3 y4 y5 y6).set 8 (am 8, .inl (ci 0, 8, .inl (upd y4 j x))) = wN ci am X kr q0 q1 q2 q3 q4 q5 iw kn y0 y1 y2 y3 (upd y4 j x) y5 y6 := rfl
theorem wN_y5 : (wN ci am X kr q0 q1 q2 q3 q4 q5 iw kn y0 y1 y2 y3 y4 y5 y6).set 11 (am 11, .inl (ci 0, 600, .inl (upd y5 j x))) = wN ci am X kr q0 q1 q2 q3 q4 q5 iw kn y0 y1 y2 y3 y4 (upd y5 j x) y6 := rfl
theorem wN_y6 : (wN ci am X kr q0 q1 q2 q3 q4 q5 iw kn y0 y1 y2 y3 y4 y5 y6).set 15 (am 15, .inl (ci 0, 40, .inl (upd y6 j x))) = wN ci am X kr q0 q1 q2 q3 q4 q5 iw kn y0 y1 y2 y3 y4 y5 (upd y6 j x) := rfl
theorem wN_kp (b : Bool) : (wN ci am X kr q0 q1 q2 q3 q4 q5 iw kn y0 y1 y2 y3 y4 y5 y6).set 0 (am 0, .inr (4, ([.ref (am 1), .ref (am 2), .ref (am 3), .int (bI X.2.2.1), .ref (am 4), .ref (am 5), .ref (am 6), .ref (am 7), .ref (am 8), .ref (am 9), .int (nI X.2.2.2.2.1), .int q0, .int q1, .int q2, .int q3, .int (bI iw), .ref (am 10), .ref (am 11), .int q4, .int q5, .ref (am 12), .ref (am 13), .ref (am 14), .ref (am 15)] : List Value).set 3 (.int (bI b)))) = wN ci am (toK X X.2.1 b) kr q0 q1 q2 q3 q4 q5 iw kn y0 y1 y2 y3 y4 y5 y6 := rfl
theorem wN_tl : (wN ci am X kr q0 q1 q2 q3 q4 q5 iw kn y0 y1 y2 y3 y4 y5 y6).set 0 (am 0, .inr (4, ([.ref (am 1), .ref (am 2), .ref (am 3), .int (bI X.2.2.1), .ref (am 4), .ref (am 5), .ref (am 6), .ref (am 7), .ref (am 8), .ref (am 9), .int (nI X.2.2.2.2.1), .int q0, .int q1, .int q2, .int q3, .int (bI iw), .ref (am 10), .ref (am 11), .int q4, .int q5, .ref (am 12), .ref (am 13), .ref (am 14), .ref (am 15)] : List Value).set 10 (.int (nI v)))) = wN ci am (toL X v) kr q0 q1 q2 q3 q4 q5 iw kn y0 y1 y2 y3 y4 y5 y6 := rfl
theorem wN_q0 : (wN ci am X kr q0 q1 q2 q3 q4 q5 iw kn y0 y1 y2 y3 y4 y5 y6).set 0 (am 0, .inr (4, ([.ref (am 1), .ref (am 2), .ref (am 3), .int (bI X.2.2.1), .ref (am 4), .ref (am 5), .ref (am 6), .ref (am 7), .ref (am 8), .ref (am 9), .int (nI X.2.2.2.2.1), .int q0, .int q1, .int q2, .int q3, .int (bI iw), .ref (am 10), .ref (am 11), .int q4, .int q5, .ref (am 12), .ref (am 13), .ref (am 14), .ref (am 15)] : List Value).set 11 (.int (x)))) = wN ci am X kr x q1 q2 q3 q4 q5 iw kn y0 y1 y2 y3 y4 y5 y6 := rfl
theorem wN_q1 : (wN ci am X kr q0 q1 q2 q3 q4 q5 iw kn y0 y1 y2 y3 y4 y5 y6).set 0 (am 0, .inr (4, ([.ref (am 1), .ref (am 2), .ref (am 3), .int (bI X.2.2.1), .ref (am 4), .ref (am 5), .ref (am 6), .ref (am 7), .ref (am 8), .ref (am 9), .int (nI X.2.2.2.2.1), .int q0, .int q1, .int q2, .int q3, .int (bI iw), .ref (am 10), .ref (am 11), .int q4, .int q5, .ref (am 12), .ref (am 13), .ref (am 14), .ref (am 15)] : List Value).set 12 (.int (x)))) = wN ci am X kr q0 x q2 q3 q4 q5 iw kn y0 y1 y2 y3 y4 y5 y6 := rfl
theorem wN_q2 : (wN ci am X kr q0 q1 q2 q3 q4 q5 iw kn y0 y1 y2 y3 y4 y5 y6).set 0 (am 0, .inr (4, ([.ref (am 1), .ref (am 2), .ref (am 3), .int (bI X.2.2.1), .ref (am 4), .ref (am 5), .ref (am 6), .ref (am 7), .ref (am 8), .ref (am 9), .int (nI X.2.2.2.2.1), .int q0, .int q1, .int q2, .int q3, .int (bI iw), .ref (am 10), .ref (am 11), .int q4, .int q5, .ref (am 12), .ref (am 13), .ref (am 14), .ref (am 15)] : List Value).set 13 (.int (x)))) = wN ci am X kr q0 q1 x q3 q4 q5 iw kn y0 y1 y2 y3 y4 y5 y6 := rfl
theorem wN_q3 : (wN ci am X kr q0 q1 q2 q3 q4 q5 iw kn y0 y1 y2 y3 y4 y5 y6).set 0 (am 0, .inr (4, ([.ref (am 1), .ref (am 2), .ref (am 3), .int (bI X.2.2.1), .ref (am 4), .ref (am 5), .ref (am 6), .ref (am 7), .ref (am 8), .ref (am 9), .int (nI X.2.2.2.2.1), .int q0, .int q1, .int q2, .int q3, .int (bI iw), .ref (am 10), .ref (am 11), .int q4, .int q5, .ref (am 12), .ref (am 13), .ref (am 14), .ref (am 15)] : List Value).set 14 (.int (x)))) = wN ci am X kr q0 q1 q2 x q4 q5 iw kn y0 y1 y2 y3 y4 y5 y6 := rfl
theorem wN_q4 : (wN ci am X kr q0 q1 q2 q3 q4 q5 iw kn y0 y1 y2 y3 y4 y5 y6).set 0 (am 0, .inr (4, ([.ref (am 1), .ref (am 2), .ref (am 3), .int (bI X.2.2.1), .ref (am 4), .ref (am 5), .ref (am 6), .ref (am 7), .ref (am 8), .ref (am 9), .int (nI X.2.2.2.2.1), .int q0, .int q1, .int q2, .int q3, .int (bI iw), .ref (am 10), .ref (am 11), .int q4, .int q5, .ref (am 12), .ref (am 13), .ref (am 14), .ref (am 15)] : List Value).set 18 (.int (x)))) = wN ci am X kr q0 q1 q2 q3 x q5 iw kn y0 y1 y2 y3 y4 y5 y6 := rfl
theorem wN_q5 : (wN ci am X kr q0 q1 q2 q3 q4 q5 iw kn y0 y1 y2 y3 y4 y5 y6).set 0 (am 0, .inr (4, ([.ref (am 1), .ref (am 2), .ref (am 3), .int (bI X.2.2.1), .ref (am 4), .ref (am 5), .ref (am 6), .ref (am 7), .ref (am 8), .ref (am 9), .int (nI X.2.2.2.2.1), .int q0, .int q1, .int q2, .int q3, .int (bI iw), .ref (am 10), .ref (am 11), .int q4, .int q5, .ref (am 12), .ref (am 13), .ref (am 14), .ref (am 15)] : List Value).set 19 (.int (x)))) = wN ci am X kr q0 q1 q2 q3 q4 x iw kn y0 y1 y2 y3 y4 y5 y6 := rfl
theorem wN_iw (b : Bool) : (wN ci am X kr q0 q1 q2 q3 q4 q5 iw kn y0 y1 y2 y3 y4 y5 y6).set 0 (am 0, .inr (4, ([.ref (am 1), .ref (am 2), .ref (am 3), .int (bI X.2.2.1), .ref (am 4), .ref (am 5), .ref (am 6), .ref (am 7), .ref (am 8), .ref (am 9), .int (nI X.2.2.2.2.1), .int q0, .int q1, .int q2, .int q3, .int (bI iw), .ref (am 10), .ref (am 11), .int q4, .int q5, .ref (am 12), .ref (am 13), .ref (am 14), .ref (am 15)] : List Value).set 15 (.int (bI b)))) = wN ci am X kr q0 q1 q2 q3 q4 q5 b kn y0 y1 y2 y3 y4 y5 y6 := rfl
theorem wN_tb : (wN ci am X kr q0 q1 q2 q3 q4 q5 iw kn y0 y1 y2 y3 y4 y5 y6).set 9 (am 9, .inl (ci 0, 120, .inl (upd (fun j => nI (X.2.2.2.2.2.1 j)) j (nI v)))) = wN ci am (toB X X.2.2.2.2.1 (updF X.2.2.2.2.2.1 j v)) kr q0 q1 q2 q3 q4 q5 iw kn y0 y1 y2 y3 y4 y5 y6 := by
  rw [upd_nI X.2.2.2.2.2.1 j v (updF X.2.2.2.2.2.1 j v) (fun k => rfl)]; rfl
theorem wN_sb : (wN ci am X kr q0 q1 q2 q3 q4 q5 iw kn y0 y1 y2 y3 y4 y5 y6).set 12 (am 12, .inl (ci 0, 4, .inl (upd (fun j => nI (X.2.2.2.2.2.2.1 j)) j (nI v)))) = wN ci am (toH X (updF X.2.2.2.2.2.2.1 j v) X.2.2.2.2.2.2.2.1 X.2.2.2.2.2.2.2.2) kr q0 q1 q2 q3 q4 q5 iw kn y0 y1 y2 y3 y4 y5 y6 := by
  rw [upd_nI X.2.2.2.2.2.2.1 j v (updF X.2.2.2.2.2.2.1 j v) (fun k => rfl)]; rfl
theorem wN_sl : (wN ci am X kr q0 q1 q2 q3 q4 q5 iw kn y0 y1 y2 y3 y4 y5 y6).set 13 (am 13, .inl (ci 0, 4, .inl (upd (fun j => nI (X.2.2.2.2.2.2.2.1 j)) j (nI v)))) = wN ci am (toH X X.2.2.2.2.2.2.1 (updF X.2.2.2.2.2.2.2.1 j v) X.2.2.2.2.2.2.2.2) kr q0 q1 q2 q3 q4 q5 iw kn y0 y1 y2 y3 y4 y5 y6 := by
  rw [upd_nI X.2.2.2.2.2.2.2.1 j v (updF X.2.2.2.2.2.2.2.1 j v) (fun k => rfl)]; rfl
theorem sn_upd (f : Nat → Nat → Int32) (s i : Nat) (hi : i < 40) (x : Int32) : upd (fun j => f (j / 40) (j % 40)) (40 * s + i) x = fun j => updF f s (upd (f s) i x) (j / 40) (j % 40) := by
  funext j
  simp only [upd, updF]
  by_cases h : j = 40 * s + i
  · subst h
    rw [if_pos rfl, if_pos (by omega)]
    simp only [upd]
    rw [if_pos (by omega)]
  · rw [if_neg h]
    by_cases h2 : j / 40 = s
    · rw [if_pos h2]
      simp only [upd]
      rw [if_neg (by omega), h2]
    · rw [if_neg h2]
theorem sn_at (f : Nat → Nat → Int32) (s : Nat) {i : Nat} (hi : i < 40) : f ((40 * s + i) / 40) ((40 * s + i) % 40) = f s i := by
  rw [show (40 * s + i) / 40 = s by omega, show (40 * s + i) % 40 = i by omega]
theorem wN_sn (s i : Nat) (hi : i < 40) : (wN ci am X kr q0 q1 q2 q3 q4 q5 iw kn y0 y1 y2 y3 y4 y5 y6).set 14 (am 14, .inl (ci 0, 160, .inl (upd (fun j => X.2.2.2.2.2.2.2.2 (j / 40) (j % 40)) (40 * s + i) x))) = wN ci am (toH X X.2.2.2.2.2.2.1 X.2.2.2.2.2.2.2.1 (updF X.2.2.2.2.2.2.2.2 s (upd (X.2.2.2.2.2.2.2.2 s) i x))) kr q0 q1 q2 q3 q4 q5 iw kn y0 y1 y2 y3 y4 y5 y6 := by
  rw [sn_upd _ _ _ hi]; rfl
end WM
theorem fdm_s (fd : Nat → Nat) (k : Nat) : fdm fd (k + 1) = fd k := rfl
theorem sumTo_inc (fd : Nat → Nat) (k : Nat) : ∀ n, sumTo (inc fd k) n = sumTo fd n + (if k < n then 1 else 0)
  | 0 => rfl
  | n + 1 => by
    rw [sumTo, sumTo, sumTo_inc fd k n]
    simp only [inc]
    by_cases h : n = k
    · rw [if_pos h, if_neg (by omega), if_pos (by omega)]; omega
    · rw [if_neg h]
      by_cases h2 : k < n
      · rw [if_pos h2, if_pos (by omega)]; omega
      · rw [if_neg h2, if_neg (by omega)]; omega
theorem fdm_inc (fd : Nat → Nat) {k : Nat} (hk : k < 7) : updF (updF (fdm fd) (k + 1) (fdm fd (k + 1) + 1)) 0 (fdm fd 0 + 1) = fdm (inc fd k) := by
  funext j
  simp only [updF]
  by_cases h : j = 0
  · subst h
    rw [if_pos rfl]
    show sumTo fd 7 + 1 = sumTo (inc fd k) 7
    rw [sumTo_inc, if_pos hk]
  · obtain ⟨i, rfl⟩ : ∃ i, j = i + 1 := ⟨j - 1, by omega⟩
    rw [if_neg h]
    show (if i + 1 = k + 1 then fd k + 1 else fd i) = inc fd k i
    simp only [inc]
    by_cases h2 : i = k
    · subst h2; rw [if_pos rfl, if_pos rfl]
    · rw [if_neg (by omega), if_neg h2]
theorem fd_idx {w : Int32} {k : Nat} (h : w = fnd k) : (-1000001 - w) + nI 1 = nI (k + 1) := by
  have e : ∀ a b : Int32, a - (a - b) = b := fun a b => by grind
  rw [h, ← nI_add k 1, fnd, e]
theorem va_P1c {D : va_G} {H : Heap} {cA : ClassId} {n a : Nat} {f g : Nat → Int32} (hg : ∀ j, j < n → f j = g j) (h : va_at D vwCl (a, .inl (cA, n, .inl f)) H) : va_at D vwCl (a, .inl (cA, n, .inl g)) H := by
  have h0 : H[a]? = some (vp_cell cA (n, .inl f)) := h
  show H[a]? = some (vp_cell cA (n, .inl g))
  rw [← cell_cong hg]; exact h0
theorem va_P2 {D : va_G} {ws : va_W} {H : Heap} {k k2 : Nat} {p p2 : Nat × va_E} (h : va_P D vwCl ws H) (hk : ws[k]? = some p) (hk2 : ws[k2]? = some p2) : va_P D vwCl [p, p2] H := fun i q hq => by
  match i, hq with
  | 0, hq => cases hq; exact h k p hk
  | 1, hq => cases hq; exact h k2 p2 hk2
/-- one cell of a world changed elsewhere, another one looked at -/
theorem va_Pset {D : va_G} {ws : va_W} {H H1 : Heap} {k k0 a a0 : Nat} {e e' e0 : va_E} (h : va_P D vwCl ws H) (hk : ws[k]? = some (a, e)) (hk0 : ws[k0]? = some (a0, e0)) (hd : ∀ (i j : Nat) (p q : Nat × va_E), ws[i]? = some p → ws[j]? = some q → p.1 = q.1 → i = j) (hf : ∀ q : Nat, q < H.size → ¬ (q = a0 ∨ q = a) → H1[q]? = H[q]?) (h0 : va_at D vwCl (a0, e0) H1) (h2 : va_at D vwCl (a, e') H1) : va_P D vwCl (ws.set k (a, e')) H1 := by
  intro i p hp
  by_cases hi : i = k
  · subst hi
    have hl : i < ws.length := (List.getElem?_eq_some_iff.mp hk).1
    rw [List.getElem?_set_self hl] at hp
    cases hp
    exact h2
  · rw [List.getElem?_set_ne (Ne.symm hi)] at hp
    by_cases hi0 : i = k0
    · subst hi0
      rw [hp] at hk0
      cases hk0
      exact h0
    · exact (h i p hp).kept (hf p.1 (h i p hp).lt (fun z => z.elim (fun e => hi0 (hd i k0 p _ hp hk0 e)) (fun e => hi (hd i k p _ hp hk e))))
section CP
variable {D : va_G} {ci : Nat → ClassId} {am : Nat → Nat} {X : AS} {kr : Nat → Int32} {q0 q1 q2 q3 q4 q5 : Int32} {iw : Bool} {kn : Nat → Option Nat} {y0 y1 y2 y3 y4 y5 y6 : Nat → Int32} {H H1 : Heap}

theorem wN_c13 (hI : injA am 16) (h : va_P D vwCl (wN ci am X kr q0 q1 q2 q3 q4 q5 iw kn y0 y1 y2 y3 y4 y5 y6) H) (hf : ∀ q : Nat, q < H.size → ¬ (q = am 1 ∨ q = am 3) → H1[q]? = H[q]?) (h2 : va_P D vwCl [(am 1, .inl (ci 0, 65, .inl (pk X.1))), (am 3, .inl (ci 0, 65, .inl (pk X.1)))] H1) : va_P D vwCl (wN ci am X kr q0 q1 q2 q3 q4 q5 iw kn (pk X.1) y1 y2 y3 y4 y5 y6) H1 := by
  have h3 := va_Pset (k := 3) (k0 := 1) (e' := .inl (ci 0, 65, .inl (pk X.1))) h rfl rfl (wN_D hI).1 hf (h2 0 _ rfl) (h2 1 _ rfl)
  exact h3
theorem wN_c12 (hI : injA am 16) (h : va_P D vwCl (wN ci am X kr q0 q1 q2 q3 q4 q5 iw kn y0 y1 y2 y3 y4 y5 y6) H) (hf : ∀ q : Nat, q < H.size → ¬ (q = am 1 ∨ q = am 2) → H1[q]? = H[q]?) (h2 : va_P D vwCl [(am 1, .inl (ci 0, 65, .inl (pk X.1))), (am 2, .inl (ci 0, 65, .inl (pk X.1)))] H1) : va_P D vwCl (wN ci am X (pk X.1) q0 q1 q2 q3 q4 q5 iw kn y0 y1 y2 y3 y4 y5 y6) H1 := by
  have h3 := va_Pset (k := 2) (k0 := 1) (e' := .inl (ci 0, 65, .inl (pk X.1))) h rfl rfl (wN_D hI).1 hf (h2 0 _ rfl) (h2 1 _ rfl)
  exact h3
theorem wN_c31 {S0 : OS} (hr : ∀ j, j < 65 → y0 j = pk S0 j) (hI : injA am 16) (h : va_P D vwCl (wN ci am X kr q0 q1 q2 q3 q4 q5 iw kn y0 y1 y2 y3 y4 y5 y6) H) (hf : ∀ q : Nat, q < H.size → ¬ (q = am 3 ∨ q = am 1) → H1[q]? = H[q]?) (h2 : va_P D vwCl [(am 3, .inl (ci 0, 65, .inl y0)), (am 1, .inl (ci 0, 65, .inl y0))] H1) : va_P D vwCl (wN ci am (toS X S0) kr q0 q1 q2 q3 q4 q5 iw kn y0 y1 y2 y3 y4 y5 y6) H1 := by
  have h3 := va_Pset (k := 1) (k0 := 3) (e' := .inl (ci 0, 65, .inl (pk S0))) h rfl rfl (wN_D hI).1 hf (h2 0 _ rfl) (va_P1c hr (h2 1 _ rfl))
  exact h3
theorem wN_c21 {S0 : OS} (hr : ∀ j, j < 65 → kr j = pk S0 j) (hI : injA am 16) (h : va_P D vwCl (wN ci am X kr q0 q1 q2 q3 q4 q5 iw kn y0 y1 y2 y3 y4 y5 y6) H) (hf : ∀ q : Nat, q < H.size → ¬ (q = am 2 ∨ q = am 1) → H1[q]? = H[q]?) (h2 : va_P D vwCl [(am 2, .inl (ci 0, 65, .inl kr)), (am 1, .inl (ci 0, 65, .inl kr))] H1) : va_P D vwCl (wN ci am (toS X S0) kr q0 q1 q2 q3 q4 q5 iw kn y0 y1 y2 y3 y4 y5 y6) H1 := by
  have h3 := va_Pset (k := 1) (k0 := 2) (e' := .inl (ci 0, 65, .inl (pk S0))) h rfl rfl (wN_D hI).1 hf (h2 0 _ rfl) (va_P1c hr (h2 1 _ rfl))
  exact h3
end CP
def kOK (X : AS) (kr : Nat → Int32) : Prop := X.2.2.1 = true → ∀ j, j < 65 → kr j = pk X.2.1 j

