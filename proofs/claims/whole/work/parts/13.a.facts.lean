/-! facts for the model's sheets, spots, judge, copy -/
def dep : Nat → Nat
  | 0 => 0
  | 1 => 1
  | 2 => 2
  | 3 => 2
  | 4 => 3
  | 5 => 4
  | 6 => 2
  | 7 => 3
  | _ => 4
theorem dep_abv : ∀ k, k < 7 → dep (abv (k + 1)) + 1 ≤ dep (k + 1) := by decide
theorem dep_le : ∀ k, k < 7 → dep (k + 1) ≤ 7 := by decide
theorem abv_dm (k : Nat) (h : k < 7) : abv (k + 1) ≤ 7 := abv_le (k + 1)
theorem und_s {f k o : Nat} (h : k ≠ o) (hf : 0 < f) : und f (k + 1) o = und (f - 1) (abv (k + 1)) o := by
  obtain ⟨f, rfl⟩ : ∃ g, f = g + 1 := ⟨f - 1, by omega⟩
  rw [und, Nat.add_sub_cancel]
  simp [h]
theorem und_h {f o : Nat} (hf : 0 < f) : und f (o + 1) o = true := by
  obtain ⟨f, rfl⟩ : ∃ g, f = g + 1 := ⟨f - 1, by omega⟩
  rw [und]
  simp
theorem updF_self {α : Type} (f : Nat → α) (k : Nat) : updF f k (f k) = f := by
  funext j
  simp only [updF]
  split
  · rename_i h; rw [h]
  · rfl
theorem updF_u {α : Type} (f : Nat → α) (k : Nat) (v w : α) : updF (updF f k v) k w = updF f k w := by
  funext j
  simp only [updF]
  split <;> rfl
def zr (f : Nat → Int32) (i : Nat) : Nat → Int32 := fun j => if j < i then 0 else f j
theorem zr_0 (f : Nat → Int32) : zr f 0 = f := rfl
theorem zr_s (f : Nat → Int32) (i : Nat) : upd (zr f i) i (nI 0) = zr f (i + 1) := by
  funext j
  simp only [upd, zr]
  by_cases e : j = i
  · rw [if_pos e, if_pos (by omega)]; rfl
  · rw [if_neg e]
    by_cases g : j < i
    · rw [if_pos g, if_pos (by omega)]
    · rw [if_neg g, if_neg (by omega)]
theorem sn_zr (f : Nat → Nat → Int32) (k : Nat) {g : Nat → Int32} {b n : Nat → Nat} {ci : Nat → ClassId} {am : Nat → Nat} {X : AS} {kr : Nat → Int32} {q0 q1 q2 q3 q4 q5 : Int32} {iw : Bool} {kn : Nat → Option Nat} {y0 y1 y2 y3 y4 y5 y6 : Nat → Int32} (hg : ∀ j, j < 40 → g j = 0) : wN ci am (toH X b n (updF f k g)) kr q0 q1 q2 q3 q4 q5 iw kn y0 y1 y2 y3 y4 y5 y6 = wN ci am (toH X b n (updF f k (fun _ => 0))) kr q0 q1 q2 q3 q4 q5 iw kn y0 y1 y2 y3 y4 y5 y6 := by
  have e : (fun j => updF f k g (j / 40) (j % 40)) = fun j => updF f k (fun _ => (0 : Int32)) (j / 40) (j % 40) := by
    funext j
    simp only [updF]
    split
    · exact hg (j % 40) (Nat.mod_lt _ (by decide))
    · rfl
  unfold wN
  show _ :: _ = _ :: _
  simp only [toH]
  rw [e]
theorem hasR_a {x : Int32} (h : x < 0) (n : Nat) (y : Int32) : hasR n x y = false := hasR_f0 h
theorem hasR_b {y : Int32} (h : y < 0) (n : Nat) (x : Int32) : hasR n x y = false := hasR_f1 h
theorem lg_gt {x y : Int64} : 0 < lg_cmp x y ↔ y < x := by
  unfold lg_cmp
  by_cases h : y < x
  · simp [h]
  · by_cases h2 : x = y
    · subst h2; simp
    · simp [h, h2]
theorem hasR_l {x y : Int32} {n : Nat} (hx : ¬ x < 0) (hy : ¬ y < 0) (hn : n < 1000) : (x.toInt64 + y.toInt64 ≤ (nI n).toInt64) ↔ hasR n x y = true := by
  have a : (0 : Int32).toInt = 0 := rfl
  rw [Int32.lt_iff_toInt_lt, a] at hx hy
  have h1 := Int32.toInt_lt x
  have h2 := Int32.toInt_lt y
  have b : (nI n).toInt = (n : Int) := nI_toInt (by omega)
  unfold hasR
  rw [decide_eq_true_eq, Int64.le_iff_toInt_le, Int64.toInt_add, Int32.toInt_toInt64, Int32.toInt_toInt64, Int32.toInt_toInt64, b]
  rw [Int.bmod_eq_of_le (by omega) (by omega)]
  omega
theorem lcR_t {x y : Int32} {n : Nat} (hx : ¬ x < 0) (hy : ¬ y < 0) (hn : n < 1000) (h : ¬ 0 < lg_cmp (x.toInt64 + y.toInt64) (nI n).toInt64) : hasR n x y = true := by
  rw [lg_gt] at h
  exact (hasR_l hx hy hn).mp (Int64.not_lt.mp h)
theorem lcR_f {x y : Int32} {n : Nat} (hx : ¬ x < 0) (hy : ¬ y < 0) (hn : n < 1000) (h : 0 < lg_cmp (x.toInt64 + y.toInt64) (nI n).toInt64) : hasR n x y = false := by
  rw [lg_gt] at h
  cases e : hasR n x y
  · rfl
  · exact absurd h (Int64.not_lt.mpr ((hasR_l hx hy hn).mpr e))
theorem cpy_0 (f g : Nat → Int32) (a b : Nat) : va_cpy f g a b 0 = g := by
  funext j
  simp only [va_cpy]
  rw [if_neg (by omega)]
theorem cpy_s (f g : Nat → Int32) (a b i : Nat) : upd (va_cpy f g a b i) (b + i) (f (a + i)) = va_cpy f g a b (i + 1) := by
  funext j
  simp only [upd, va_cpy]
  by_cases e : j = b + i
  · rw [if_pos e, if_pos (by omega)]
    congr 1
    omega
  · rw [if_neg e]
    by_cases g1 : b ≤ j ∧ j < b + i
    · rw [if_pos (by omega), if_pos (by omega)]
    · rw [if_neg (by omega), if_neg (by omega)]
theorem okJ_in {X : AS} {f : Nat → Int32} {i : Nat} (h : (fun i => !okJ X f i) i = false) : inN (f i) (X.1 7 0) = true := by
  have h2 : okJ X f i = true := by
    have h3 : (!okJ X f i) = false := h
    cases e : okJ X f i
    · rw [e] at h3; cases h3
    · rfl
  rw [okJ] at h2
  simp only [Bool.and_eq_true] at h2
  exact h2.1
section MU6
variable {p : Program} {l : Launch} {e : Env} {R : Room} {s : State} {m : MethodId} {args : Array Value} {below : List Frame} {meth : Method} {c : Code} {H : Heap} {locs : List Loc} {cells slots : Nat} {Q : State → Prop} {cc : ByteArray} {rest : List Value} {pc : Nat} {ls : Array Slot} {A : Nat → Prop} {P1 : Heap → Prop}
theorem nv_cvl {x y : Int64} (h : x = y) (k : W p l e R s m args below meth c H locs cells slots Q (F0 m pc ls (.long y :: rest))) : W p l e R s m args below meth c H locs cells slots Q (F0 m pc ls (.long x :: rest)) := by rw [h]; exact k
theorem mu_lret {v : Int64} (hx : p.tables.exec = Jvm.exec) (hb : c.code = cc) (hr : meth.sig.returnType = some .long) (hlocks : meth.locks = false) (hS : va_S A s.heap H locs) (hP1 : P1 H) (hdg : decode cc pc = .ok (.lreturn, 1)) : W p l e R s m args below meth c H locs 0 0 (MQ below (mu_Q A (some (.long v)) P1) args s 0 0 A) (F0 m pc ls [.long v]) := W.lret hx hb hr (fun t ht _ => ⟨rfl, by rw [ht]; exact hS.1, fun q h1 h2 => by rw [ht]; exact hS.2.1 q h1 h2, by rw [ht]; exact hP1⟩) hS.2.2 hdg hlocks
theorem nI_div {i j : Nat} (hi : i < 2147483648) (hj : j < 2147483648) : nI i / nI j = nI (i / j) := by
  apply Int32.toInt_inj.mp
  have h3 : i / j < 2147483648 := Nat.lt_of_le_of_lt (Nat.div_le_self i j) hi
  rw [Int32.toInt_div, nI_toInt hi, nI_toInt hj, nI_toInt h3, ← Int.ofNat_tdiv]
  generalize i / j = q at h3 ⊢
  rw [Int.bmod_eq_of_le (by omega) (by omega)]
theorem nv_idiv (hx : p.tables.exec = Jvm.exec) (hb : c.code = cc) {i j : Nat} (h0 : 0 < j) (hi : i < 2147483648) (hj : j < 2147483648) (hdg : decode cc pc = .ok (.idiv, 1)) (k : W p l e R s m args below meth c H locs cells slots Q (F0 m (pc + 1) ls (.int (nI (i / j)) :: rest))) : W p l e R s m args below meth c H locs cells slots Q (F0 m pc ls (.int (nI j) :: .int (nI i) :: rest)) := lv_idiv hx hb hdg (nI_ne0 h0 hj) (nv_cv (nI_div hi hj) k)
end MU6
