/-! more plain facts -/
theorem inR_t {x : Int32} {lo hi : Nat} (hl : lo < 2147483648) (hh : hi < 2147483648) (h : ¬ x < nI lo) (h2 : x ≤ nI hi) : inR x lo hi = true := by
  unfold inR
  rw [decide_eq_true_eq]
  have a : (nI lo).toInt = (lo : Int) := nI_toInt hl
  have b : (nI hi).toInt = (hi : Int) := nI_toInt hh
  rw [Int32.lt_iff_toInt_lt, a] at h
  rw [Int32.le_iff_toInt_le, b] at h2
  omega
theorem inR_f0 {x : Int32} {lo hi : Nat} (hl : lo < 2147483648) (h : x < nI lo) : inR x lo hi = false := by
  unfold inR
  rw [decide_eq_false_iff_not]
  have a : (nI lo).toInt = (lo : Int) := nI_toInt hl
  rw [Int32.lt_iff_toInt_lt, a] at h
  omega
theorem inR_f1 {x : Int32} {lo hi : Nat} (hh : hi < 2147483648) (h : ¬ x ≤ nI hi) : inR x lo hi = false := by
  unfold inR
  rw [decide_eq_false_iff_not]
  have b : (nI hi).toInt = (hi : Int) := nI_toInt hh
  rw [Int32.le_iff_toInt_le, b] at h
  omega
theorem inR_ex {x : Int32} {lo hi : Nat} (h : inR x lo hi = true) (hh : hi < 2147483647) : ∃ k, lo ≤ k ∧ k ≤ hi ∧ x = nI k := by
  unfold inR at h
  rw [decide_eq_true_eq] at h
  obtain ⟨k, hk, e⟩ := vp_in_of (x := x) (n := hi + 1) (vp_in_iff.mpr ⟨by omega, by omega⟩) (by omega)
  have b : (nI k).toInt = (k : Int) := nI_toInt (by omega)
  rw [e, b] at h
  exact ⟨k, by omega, by omega, e⟩
theorem in_lt {k n : Nat} (hk : k < 2147483648) (h : inN (nI k) n = true) : k < n := by
  rw [in_nI hk] at h
  simpa using h
theorem all_f {P : Nat → Bool} {i : Nat} (h : ∀ j, j < i → P j = false) (hi : P i = false) : ∀ j, j < i + 1 → P j = false := by
  intro j hj
  rcases Nat.lt_or_ge j i with q | q
  · exact h j q
  · rw [show j = i by omega]; exact hi
theorem arg_t {f : Nat → Nat} {k : Nat} (h : (argTo f k).2 < f k + 1) : argTo f (k + 1) = (k, f k + 1) := by rw [argTo, if_pos h]
theorem arg_f {f : Nat → Nat} {k : Nat} (h : f k + 1 ≤ (argTo f k).2) : argTo f (k + 1) = argTo f k := by rw [argTo, if_neg (by omega)]
theorem arg_le {f : Nat → Nat} {b : Nat} : ∀ k, (∀ v, v < k → f v < b) → (argTo f k).2 ≤ b
  | 0, _ => Nat.zero_le _
  | k + 1, h => by
    have h1 := arg_le k (fun v hv => h v (by omega))
    have h2 := h k (by omega)
    rw [argTo]
    split
    · exact h2
    · exact h1
theorem WF_st1 {S : OS} (h : WF S) (q : Nat) {v : Nat} (hv : v < 7) : WF (st S 1 q v) := by
  refine ⟨h.1, h.2.1, fun j => ?_, h.2.2.2.1, h.2.2.2.2.1, h.2.2.2.2.2.1, h.2.2.2.2.2.2.1, h.2.2.2.2.2.2.2.1, h.2.2.2.2.2.2.2.2⟩
  have := h.f1 j
  simp only [st]
  split <;> omega
theorem WF_st2 {S : OS} (h : WF S) (q : Nat) {v : Nat} (hv : v < 16) : WF (st S 2 q v) := by
  refine ⟨h.1, h.2.1, h.2.2.1, fun j => ?_, h.2.2.2.2.1, h.2.2.2.2.2.1, h.2.2.2.2.2.2.1, h.2.2.2.2.2.2.2.1, h.2.2.2.2.2.2.2.2⟩
  have := h.f2 j
  simp only [st]
  split <;> omega
theorem WF_st3 {S : OS} (h : WF S) (q : Nat) {v : Nat} (hv : v < 6) : WF (st S 3 q v) := by
  refine ⟨h.1, h.2.1, h.2.2.1, h.2.2.2.1, fun j => ?_, h.2.2.2.2.2.1, h.2.2.2.2.2.2.1, h.2.2.2.2.2.2.2.1, h.2.2.2.2.2.2.2.2⟩
  have := h.f3 j
  simp only [st]
  split <;> omega
theorem WF_st4 {S : OS} (h : WF S) (q : Nat) {v : Nat} (hv : v < 10) : WF (st S 4 q v) := by
  refine ⟨h.1, h.2.1, h.2.2.1, h.2.2.2.1, h.2.2.2.2.1, fun j => ?_, h.2.2.2.2.2.2.1, h.2.2.2.2.2.2.2.1, h.2.2.2.2.2.2.2.2⟩
  have := h.f4 j
  simp only [st]
  split <;> omega
theorem WF_st5 {S : OS} (h : WF S) (q : Nat) {v : Nat} (hv : v < 100) : WF (st S 5 q v) := by
  refine ⟨h.1, h.2.1, h.2.2.1, h.2.2.2.1, h.2.2.2.2.1, h.2.2.2.2.2.1, fun j => ?_, h.2.2.2.2.2.2.2.1, h.2.2.2.2.2.2.2.2⟩
  have := h.f5 j
  simp only [st]
  split <;> omega
theorem WF_st0 {S : OS} (h : WF S) (q : Nat) {v : Nat} (hv : v < 64) : WF (st S 0 q v) := by
  refine ⟨h.1, fun j => ?_, h.2.2.1, h.2.2.2.1, h.2.2.2.2.1, h.2.2.2.2.2.1, h.2.2.2.2.2.2.1, h.2.2.2.2.2.2.2.1, h.2.2.2.2.2.2.2.2⟩
  have := h.f0 j
  simp only [st]
  split <;> omega
theorem WF_st9 {S : OS} (h : WF S) (q v : Nat) : WF (st S 9 q v) := ⟨h.1, h.2.1, h.2.2.1, h.2.2.2.1, h.2.2.2.2.1, h.2.2.2.2.2.1, h.2.2.2.2.2.2.1, h.2.2.2.2.2.2.2.1, h.2.2.2.2.2.2.2.2⟩
theorem brave_lt {S : OS} (h : WF S) {f q n e : Nat} (hf : ∀ v, v < e → WF (st S f q v)) : ∀ v, v < e → brave S f q n v < 100 := fun v hv => (WF_evCn (hf v hv) n).f5 q
section MU3
variable {p : Program} {l : Launch} {e : Env} {R : Room} {s : State} {m : MethodId} {args : Array Value} {below : List Frame} {meth : Method} {c : Code} {H : Heap} {locs : List Loc} {cells slots : Nat} {Q : State → Prop} {cc : ByteArray} {rest : List Value} {pc : Nat} {ls : Array Slot}
/-- a natural against one less than another -/
theorem nv_icmp_le_D (hx : p.tables.exec = Jvm.exec) (hb : c.code = cc) {i j : Nat} {off : Int} {tgt : Nat} (hi : i < 2147483647) (hj : j < 2147483648) (hdg : decode cc pc = .ok (.if_icmp .le off, 3)) (ht : (pc : Int) + off = (tgt : Int)) (kt : i + 1 ≤ j → W p l e R s m args below meth c H locs cells slots Q (F0 m tgt ls rest)) (kf : j < i + 1 → W p l e R s m args below meth c H locs cells slots Q (F0 m (pc + 3) ls rest)) : W p l e R s m args below meth c H locs cells slots Q (F0 m pc ls (.int (nI j - nI 1) :: .int (nI i) :: rest)) := by
  rcases j with _ | j
  · refine lv_icmp_le hx hb hdg ht (fun h => absurd h ?_) (fun _ => kf (by omega))
    rw [show nI 0 - nI 1 = (-1 : Int32) by decide, Int32.le_iff_toInt_le, nI_toInt (by omega)]
    rw [show (-1 : Int32).toInt = -1 by decide]
    omega
  · rw [show nI (j + 1) - nI 1 = nI j from nI_pred j]
    exact nv_icmp_le hx hb (by omega) (by omega) hdg ht (fun h => kt (by omega)) (fun h => kf (by omega))
end MU3
