/-! load, judge, hold, as, strings, bestSwap, status -/
theorem evC_pred {T : OS} {i : Nat} (h : 0 < i) : eveC (evCn T (i - 1)) = evCn T i := by
  rcases i with _ | i
  · omega
  · rfl
theorem in_tn {x : Int32} {n : Nat} (h : inN x n = true) (hn : n < 2147483648) : x = nI (tn x) ∧ tn x < n := by
  obtain ⟨k, hk, rfl⟩ := in_ex h hn
  rw [tn_nI (by omega)]
  exact ⟨rfl, hk⟩
theorem pair_tn {X : AS} {x y : Int32} (h : pairB X x y = true) (hn : X.1 7 0 ≤ 8) : x = nI (tn x) ∧ y = nI (tn y) ∧ tn x < X.1 7 0 ∧ tn y < X.1 7 0 := by
  obtain ⟨a, b, h1, h2, -, rfl, rfl⟩ := pair_ex h hn
  rw [tn_nI (by omega), tn_nI (by omega)]
  exact ⟨rfl, rfl, h1, h2⟩
/-- how far it goes well -/
def runN (P : Nat → Bool) (n : Nat) : Nat := if anyTo (fun i => !P i) n then frst (fun i => !P i) n else n
theorem runN_all {P : Nat → Bool} {n : Nat} (h : ∀ j, j < n → P j = true) : runN P n = n := by
  rw [runN, any_no (fun j hj => by rw [h j hj]; rfl)]
  rfl
theorem runN_at {P : Nat → Bool} {n i : Nat} (hi : i < n) (h : ∀ j, j < i → P j = true) (hb : P i = false) : runN P n = i := by
  obtain ⟨h1, h2⟩ := frst_eq (P := fun i => !P i) hi (by rw [hb]; rfl) (fun j hj => by rw [h j hj]; rfl)
  rw [runN, h1]
  exact h2
theorem all_t {P : Nat → Bool} {i : Nat} (h : ∀ j, j < i → P j = true) (hi : P i = true) : ∀ j, j < i + 1 → P j = true := by
  intro j hj
  rcases Nat.lt_or_ge j i with q | q
  · exact h j q
  · rw [show j = i by omega]; exact hi
def p_load (X : AS) (x : Int32) : Int32 × AS := if lackN X x = 7 then (nI (runN (fun i => inN (X.2.2.2.2.2.2.2.2 (tn x) i) 64) (min (X.2.2.2.2.2.2.2.1 (tn x)) 12)), toS X (upF X.1 0 (fun i => tn (X.2.2.2.2.2.2.2.2 (tn x) i)) (runN (fun i => inN (X.2.2.2.2.2.2.2.2 (tn x) i) 64) (min (X.2.2.2.2.2.2.2.1 (tn x)) 12)))) else fl X (lackN X x)
def okJ (X : AS) (f : Nat → Int32) (i : Nat) : Bool := inN (f i) (X.1 7 0) && (i == 0 || (pairB X (f i) (f (i - 1)) && bHear X.1 (tn (f i)) (tn (f (i - 1))) != 0))
def p_judge (X : AS) (x : Int32) : Int32 × AS := if lackN X x = 7 then (if anyTo (fun i => !okJ X (X.2.2.2.2.2.2.2.2 (tn x)) i) (X.2.2.2.2.2.2.2.1 (tn x)) then nI (1 + frst (fun i => !okJ X (X.2.2.2.2.2.2.2.2 (tn x)) i) (X.2.2.2.2.2.2.2.1 (tn x))) else nI 0, X) else fl X (lackN X x)
def drw (S : OS) : Nat := dz (S 9 0) % 4294967296 / 2 ^ 8 % 16
def strO (S : OS) : OS := eveC (if drw S < S 7 0 then st (st S 9 0 (dz (S 9 0))) 5 (drw S) 0 else st S 9 0 (dz (S 9 0)))
def strN (S : OS) : Nat → OS × Nat
  | 0 => (S, 0)
  | k + 1 => (strO (strN S k).1, if drw (strN S k).1 < (strN S k).1 7 0 then (strN S k).2 + 1 else (strN S k).2)
theorem WF_strO {S : OS} (h : WF S) : WF (strO S) := by
  unfold strO
  split
  · exact WF_eveC (WF_st5 (WF_st9 h 0 _) _ (by decide))
  · exact WF_eveC (WF_st9 h 0 _)
theorem WF_strN {S : OS} (h : WF S) : ∀ k, WF (strN S k).1
  | 0 => h
  | k + 1 => WF_strO (WF_strN h k)
def p_strings (X : AS) (n : Int32) : Int32 × AS := bk X (inR n 1 12) 0 (bk X (decide (X.1 8 0 + tn n ≤ 99999)) 4 (nI (strN X.1 (tn n)).2, toS X (strN X.1 (tn n)).1))
theorem spot_in {v n : Nat} (hv : v ≤ n) (hn : n ≤ 8) : inN (nI v - nI 1) n = decide (0 < v) := by
  rcases v with _ | v
  · rw [show nI 0 - nI 1 = (-1 : Int32) by decide, in_f0 (by decide)]
    rfl
  · rw [show nI (v + 1) - nI 1 = nI v from nI_pred v, in_nI (by omega)]
    simp
    omega
theorem m1_of {w : Int32} (h : ¬ w < -1) (h2 : w < 0) : w = -1 := by
  apply Int32.toInt_inj.mp
  rw [Int32.lt_iff_toInt_lt] at h h2
  rw [show (-1 : Int32).toInt = -1 by decide] at h ⊢
  rw [show (0 : Int32).toInt = 0 by decide] at h2
  omega
theorem m1_lt {w : Int32} (h : w < -1) : w ≠ -1 ∧ ∀ n, inN w n = false := by
  have h2 : w < 0 := by
    rw [Int32.lt_iff_toInt_lt] at h ⊢
    rw [show (-1 : Int32).toInt = -1 by decide] at h
    rw [show (0 : Int32).toInt = 0 by decide]
    omega
  exact ⟨fun e => by rw [e] at h; exact absurd h (by decide), fun n => in_f0 h2⟩
theorem ne_m1 {w : Int32} (h : ¬ w < nI 7) : w ≠ -1 := fun e => h (by rw [e]; decide)
/-- the pairs, seats changed -/
def bsJ (S : OS) (i : Nat) (r : Nat × Nat) : Nat → Nat × Nat
  | 0 => r
  | k + 1 => if (bsJ S i r k).2 < links (swS S i (i + 1 + k)) + 1 then (8 * i + (i + 1 + k) + 1, links (swS S i (i + 1 + k)) + 1) else bsJ S i r k
def bsI (S : OS) : Nat → Nat × Nat
  | 0 => (0, 0)
  | i + 1 => bsJ S i (bsI S i) (S 7 0 - (i + 1))
def p_bestSwap (X : AS) : Int32 × AS := bk X (decide (0 < (bsI X.1 (X.1 7 0)).1)) 3 (nI ((bsI X.1 (X.1 7 0)).1 - 1), X)
theorem WF_swS {S : OS} (h : WF S) (i j : Nat) : WF (swS S i j) := WF_st2 (WF_st2 h i (h.f2 j)) j (h.f2 i)
theorem swS_swS {S : OS} {i j : Nat} (h : i ≠ j) : swS (swS S i j) i j = S := by
  funext a b
  simp only [swS, st]
  by_cases ha : a = 2
  · subst ha
    by_cases hj : b = j
    · subst hj; simp [h]
    · by_cases hi : b = i
      · subst hi; simp [h, Ne.symm h]
      · simp [hi, hj]
  · simp [ha]
theorem cntTo_le2 (P : Nat → Bool) : ∀ k, cntTo P k ≤ k := cntTo_le P
theorem sumTo_le {f : Nat → Nat} {b : Nat} : ∀ k, (∀ j, j < k → f j ≤ b) → sumTo f k ≤ k * b
  | 0, _ => by simp [sumTo]
  | k + 1, h => by
    have h1 := sumTo_le k (fun j hj => h j (by omega))
    have h2 := h k (by omega)
    rw [sumTo, Nat.succ_mul]
    omega
theorem links_le {S : OS} (h : WF S) : links S ≤ 64 := by
  have hn := h.n
  have h1 := sumTo_le (f := fun o => linkTo S o (S 7 0)) (b := 8) (S 7 0) (fun j _ => Nat.le_trans (cntTo_le _ _) hn)
  unfold links
  have h2 : S 7 0 * 8 ≤ 8 * 8 := Nat.mul_le_mul_right 8 hn
  omega
theorem bsJ_le {S : OS} (h : WF S) {i : Nat} {r : Nat × Nat} (hr : r.2 ≤ 65) : ∀ k, (bsJ S i r k).2 ≤ 65
  | 0 => hr
  | k + 1 => by
    have h1 := bsJ_le h (i := i) hr k
    have h2 := links_le (WF_swS h i (i + 1 + k))
    rw [bsJ]
    split
    · show links _ + 1 ≤ 65
      omega
    · exact h1
theorem bsI_le {S : OS} (h : WF S) : ∀ i, (bsI S i).2 ≤ 65
  | 0 => Nat.zero_le _
  | i + 1 => bsJ_le h (bsI_le h i) _
section MU4
variable {p : Program} {l : Launch} {e : Env} {R : Room} {s : State} {m : MethodId} {args : Array Value} {below : List Frame} {meth : Method} {c : Code} {H : Heap} {locs : List Loc} {cells slots : Nat} {Q : State → Prop} {cc : ByteArray} {rest : List Value} {pc : Nat} {ls : Array Slot}
theorem nv_ifge_D (hx : p.tables.exec = Jvm.exec) (hb : c.code = cc) {j : Nat} {off : Int} {tgt : Nat} (hj : j < 2147483648) (hdg : decode cc pc = .ok (.ifCond .ge off, 3)) (ht : (pc : Int) + off = (tgt : Int)) (kt : 0 < j → W p l e R s m args below meth c H locs cells slots Q (F0 m tgt ls rest)) (kf : j = 0 → W p l e R s m args below meth c H locs cells slots Q (F0 m (pc + 3) ls rest)) : W p l e R s m args below meth c H locs cells slots Q (F0 m pc ls (.int (nI j - nI 1) :: rest)) := by
  rcases j with _ | j
  · exact lv_if_ge hx hb hdg ht (fun h => absurd h (by decide)) (fun _ => kf rfl)
  · rw [show nI (j + 1) - nI 1 = nI j from nI_pred j]
    exact nv_ifge hx hb (by omega) hdg ht (kt (by omega))
theorem nv_iflt_D (hx : p.tables.exec = Jvm.exec) (hb : c.code = cc) {j : Nat} {off : Int} {tgt : Nat} (hj : j < 2147483648) (hdg : decode cc pc = .ok (.ifCond .lt off, 3)) (ht : (pc : Int) + off = (tgt : Int)) (kt : j = 0 → W p l e R s m args below meth c H locs cells slots Q (F0 m tgt ls rest)) (kf : 0 < j → W p l e R s m args below meth c H locs cells slots Q (F0 m (pc + 3) ls rest)) : W p l e R s m args below meth c H locs cells slots Q (F0 m pc ls (.int (nI j - nI 1) :: rest)) := by
  rcases j with _ | j
  · exact lv_if_lt hx hb hdg ht (fun _ => kt rfl) (fun h => absurd (by decide) h)
  · rw [show nI (j + 1) - nI 1 = nI j from nI_pred j]
    exact nv_iflt hx hb (by omega) hdg ht (kf (by omega))
end MU4
