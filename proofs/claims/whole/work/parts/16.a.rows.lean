/-! own rows: what a constructor makes -/
theorem ty_uniq {U : State} {c1 c2 : ClassId} {ty : FieldType} (h1 : va_RA U c1 ty) (h2 : va_RA U c2 ty) : c1 = c2 := by
  cases ty with
  | object C =>
    obtain ⟨_, _, _, _, _, a⟩ := h1
    obtain ⟨_, _, _, _, _, b⟩ := h2
    exact Option.some.inj (a.symm.trans b)
  | _ => exact Option.some.inj ((show U.vm.findClass _ = some c1 from h1).symm.trans h2)
theorem cell_re {cA : ClassId} {n : Nat} {f g : Nat → Int32} (h : ∀ j, j < n → f j = g j) : vp_cell cA (n, .inl f) = vp_cell cA (n, .inl g) := by
  rw [vp_cell_i, vp_cell_i]
  unfold arrV
  congr 2
  funext j
  show Value.int (f j.val) = Value.int (g j.val)
  rw [h j.val j.isLt]
theorem re_at {D : va_G} {ws : va_W} {H : Heap} (k : Nat) {a : Nat} {cA : ClassId} {n : Nat} {f g : Nat → Int32} (hk : ws[k]? = some (a, .inl (cA, n, .inl f))) (h : ∀ j, j < n → f j = g j) (hP : va_P D vwCl ws H) : va_P D vwCl (ws.set k (a, .inl (cA, n, .inl g))) H := by
  intro i q hq
  rw [List.getElem?_set] at hq
  split at hq
  · split at hq
    · cases hq
      have h1 : H[a]? = some (vp_cell cA (n, .inl f)) := hP k _ hk
      exact (show H[a]? = some (vp_cell cA (n, .inl g)) by rw [← cell_re h]; exact h1)
    · cases hq
  · exact hP i q hq
theorem cell_req {cA : ClassId} {n : Nat} {f g : Nat → Option Nat} (h : ∀ j, j < n → f j = g j) : vp_cell cA (n, .inr (.inr (.inr (.inr f)))) = vp_cell cA (n, .inr (.inr (.inr (.inr g)))) := by
  rw [vp_cell_q, vp_cell_q]
  unfold arrV
  congr 2
  funext j
  show va_rf (f j.val) = va_rf (g j.val)
  rw [h j.val j.isLt]
theorem re_atq {D : va_G} {ws : va_W} {H : Heap} (k : Nat) {a : Nat} {cA : ClassId} {n : Nat} {f g : Nat → Option Nat} (hk : ws[k]? = some (a, .inl (cA, n, .inr (.inr (.inr (.inr f)))))) (h : ∀ j, j < n → f j = g j) (hP : va_P D vwCl ws H) : va_P D vwCl (ws.set k (a, .inl (cA, n, .inr (.inr (.inr (.inr g)))))) H := by
  intro i q hq
  rw [List.getElem?_set] at hq
  split at hq
  · split at hq
    · cases hq
      have h1 : H[a]? = some (vp_cell cA (n, .inr (.inr (.inr (.inr f))))) := hP k _ hk
      exact (show H[a]? = some (vp_cell cA (n, .inr (.inr (.inr (.inr g))))) by rw [← cell_req h]; exact h1)
    · cases hq
  · exact hP i q hq
theorem neg_nI {n : Nat} (h : n < 2147483648) : ¬ nI n < 0 := fun z => Int32.lt_irrefl (Int32.lt_of_lt_of_le z (nI_pos' h))
theorem va_S.wk {A G : Nat → Prop} {H0 H : Heap} {locs : List Loc} (hAG : ∀ q, A q → G q) (h : va_S A H0 H locs) : va_S G H0 H locs := ⟨h.1, fun q a b => h.2.1 q a (fun z => b (hAG q z)), fun q hq => hAG _ (h.2.2 q hq)⟩
section CT
variable {p : Program} {l : Launch} {e : Env} {R : Room} {s : State} {m : MethodId} {args : Array Value} {below : List Frame} {meth : Method} {c : Code} {H H0 : Heap} {locs : List Loc} {cells slots : Nat} {Q : State → Prop} {cc : ByteArray} {rest : List Value} {pc : Nat} {ls : Array Slot} {D : va_G} {ci : Nat → ClassId} {ws : va_W} {A : Nat → Prop}
theorem nw_newa (hx : p.tables.exec = Jvm.exec) (hb : c.code = cc) (harr : (Cond.arrayClass .int).before args s = true) (hK : va_K D vwCl (tyL ci) s) (hP : va_P D vwCl ws H) (hD : va_D A ws) (hS : va_S A H0 H locs) (hA : ∀ q, H0.size ≤ q → A q) {n : Nat} (hn : n < 1000) (hcells : cells + 1 ≤ R.cells) (hslots : slots + n ≤ R.slots) (hdg : decode cc pc = .ok (.newarray .int, 2))
    (kk : ∀ (q : Nat) (H1 : Heap), va_P D vwCl (ws ++ [(q, .inl (ci 0, n, .inl (fun _ => nI 0)))]) H1 → va_D A (ws ++ [(q, .inl (ci 0, n, .inl (fun _ => nI 0)))]) → va_S A H0 H1 locs → W p l e R s m args below meth c H1 locs (cells + 1) (slots + n) Q (F0 m (pc + 2) ls (.ref q :: rest))) : W p l e R s m args below meth c H locs cells slots Q (F0 m pc ls (.int (nI n) :: rest)) := by
  refine va_newa (atype := .int) (ty := .int) (a0 := (n, .inl (fun _ => nI 0))) hx hb harr rfl hK hP hD hS hA (fun cA => by rw [vp_cell_i]; show arrV cA n (fun _ => Value.int (nI 0)) = arrV cA n (fun _ => Value.int 0); rw [nI_0]) (neg_nI (by omega)) (nI_clamp (by omega)) (by show n * 4 ≤ _; omega) hcells hslots hdg (fun q cA H1 hK1 hP1 hD1 hS1 => ?_)
  have h9 : cA = ci 0 := ty_uniq (hK1.2 3 _ rfl).2 (hK1.2 0 _ rfl).2
  subst h9
  exact kk q H1 hP1 hD1 hS1
theorem nw_newq (hx : p.tables.exec = Jvm.exec) (hb : c.code = cc) {own C : String} {index : Nat} (hown : s.vm.findClass own = some m.cls) (hclink : (Cond.classLink own index C).before args s = true) (hover : va_AO C s) (hK : va_K D vwCl (tyL ci) s) (hP : va_P D vwCl ws H) (hD : va_D A ws) (hS : va_S A H0 H locs) (hA : ∀ q, H0.size ≤ q → A q) (t0 : Nat) {cA0 : ClassId} (ht : (tyL ci)[t0]? = some (cA0, .object C))
    {n : Nat} (hn : n < 1000) (hcells : cells + 1 ≤ R.cells) (hslots : slots + n ≤ R.slots) (hdg : decode cc pc = .ok (.anewarray index, 3))
    (kk : ∀ (q : Nat) (H1 : Heap), va_P D vwCl (ws ++ [(q, .inl (cA0, n, .inr (.inr (.inr (.inr (fun _ => none))))))]) H1 → va_D A (ws ++ [(q, .inl (cA0, n, .inr (.inr (.inr (.inr (fun _ => none))))))]) → va_S A H0 H1 locs → W p l e R s m args below meth c H1 locs (cells + 1) (slots + n) Q (F0 m (pc + 3) ls (.ref q :: rest))) : W p l e R s m args below meth c H locs cells slots Q (F0 m pc ls (.int (nI n) :: rest)) := by
  refine va_newq hx hb hown hclink hover hK hP hD hS hA (neg_nI (by omega)) (nI_clamp (by omega)) (by omega) hcells hslots hdg (fun q cA H1 hK1 hP1 hD1 hS1 => ?_)
  have h8 : t0 < (tyL ci).length := (List.getElem?_eq_some_iff.mp ht).1
  have h9 : cA = cA0 := ty_uniq (hK1.2 3 _ rfl).2 (hK1.2 t0 _ (by rw [List.getElem?_append_left h8]; exact ht)).2
  subst h9
  exact kk q H1 hP1 hD1 hS1
theorem any_S {N : Nat} {len : List Nat} {byt : List (List Int32)} {adK adV : Nat → Nat} {i : Nat} (hE : vk_S N len byt adK adV A s s.heap) (hi : i < N) (hS : va_S A s.heap H locs) : va_Any "java/lang/String" s H (adK i) := by
  obtain ⟨cell, h1, h2, h3⟩ := vk_recv hE hi hS
  obtain ⟨kC, hkC, -⟩ := Vm.findClass_spec h3
  refine ⟨cell, h1, h2, ⟨kC, hkC⟩, fun comp hc => ?_⟩
  rw [h3] at hc
  cases hc
  show s.vm.assignableAux (255 + 1) cell.cls cell.cls = true
  rw [Vm.assignableAux]
  simp only [beq_self_eq_true, Bool.true_or]
end CT
/-- the start -/
def OS0 : OS := fun x y => if x = 0 then 63 else if x = 9 ∧ y = 0 then 1 else 0
def AS0 : AS := (OS0, OS0, false, fun _ => 0, 0, fun _ => 0, fun _ => 0, fun _ => 0, fun _ _ => nI 0)
theorem WF_OS0 : WF OS0 := by
  refine ⟨by decide, fun j => ?_, fun j => ?_, fun j => ?_, fun j => ?_, fun j => ?_, fun j => ?_, fun j => ?_, by decide⟩ <;> simp [OS0]
theorem WFX_AS0 : WFX AS0 := by
  refine ⟨WF_OS0, WF_OS0, by decide, by decide, by decide, fun k => ?_, fun k => ?_, fun k => ?_, fun k h => ?_⟩ <;> simp [AS0]
/-- the cells of a world, one by one -/
theorem va_Dinj {A : Nat → Prop} {ws : va_W} {a : Nat → Nat} {n : Nat} (hD : va_D A ws) (h : ∀ i, i < n → ∃ e, ws[i]? = some (a i, e)) : injA a n ∧ ∀ i, i < n → A (a i) := by
  refine ⟨fun i j hi hj e => ?_, fun i hi => ?_⟩
  · obtain ⟨x, hx⟩ := h i hi
    obtain ⟨y, hy⟩ := h j hj
    exact hD.1 i j _ _ hx hy e
  · obtain ⟨x, hx⟩ := h i hi
    exact hD.2 i _ hx
theorem wO_get {cI : ClassId} {a : Nat → Nat} {S : OS} {w r nb : Nat → Int32} : ∀ i, i < 11 → ∃ e, (wO cI a S w r nb)[i]? = some (a i, e)
  | 0, _ => ⟨_, rfl⟩
  | 1, _ => ⟨_, rfl⟩
  | 2, _ => ⟨_, rfl⟩
  | 3, _ => ⟨_, rfl⟩
  | 4, _ => ⟨_, rfl⟩
  | 5, _ => ⟨_, rfl⟩
  | 6, _ => ⟨_, rfl⟩
  | 7, _ => ⟨_, rfl⟩
  | 8, _ => ⟨_, rfl⟩
  | 9, _ => ⟨_, rfl⟩
  | 10, _ => ⟨_, rfl⟩
  | k + 11, h => absurd h (by omega)
theorem wN_get {ci : Nat → ClassId} {am : Nat → Nat} {X : AS} {kr : Nat → Int32} {q0 q1 q2 q3 q4 q5 : Int32} {iw : Bool} {kn : Nat → Option Nat} {y0 y1 y2 y3 y4 y5 y6 : Nat → Int32} : ∀ i, i < 16 → ∃ e, (wN ci am X kr q0 q1 q2 q3 q4 q5 iw kn y0 y1 y2 y3 y4 y5 y6)[i]? = some (am i, e)
  | 0, _ => ⟨_, rfl⟩
  | 1, _ => ⟨_, rfl⟩
  | 2, _ => ⟨_, rfl⟩
  | 3, _ => ⟨_, rfl⟩
  | 4, _ => ⟨_, rfl⟩
  | 5, _ => ⟨_, rfl⟩
  | 6, _ => ⟨_, rfl⟩
  | 7, _ => ⟨_, rfl⟩
  | 8, _ => ⟨_, rfl⟩
  | 9, _ => ⟨_, rfl⟩
  | 10, _ => ⟨_, rfl⟩
  | 11, _ => ⟨_, rfl⟩
  | 12, _ => ⟨_, rfl⟩
  | 13, _ => ⟨_, rfl⟩
  | 14, _ => ⟨_, rfl⟩
  | 15, _ => ⟨_, rfl⟩
  | k + 16, h => absurd h (by omega)
theorem wX_get {ci : Nat → ClassId} {ad : Nat → Nat} {X : AS} {T : OS} {tq la tt : Nat → Int32} {z : Nat → Nat → Int32} : ∀ i, i < 48 → ∃ e, (wX ci ad X T tq la tt z)[i]? = some (ad i, e)
  | 0, _ => ⟨_, rfl⟩
  | 1, _ => ⟨_, rfl⟩
  | 2, _ => ⟨_, rfl⟩
  | 3, _ => ⟨_, rfl⟩
  | 4, _ => ⟨_, rfl⟩
  | 5, _ => ⟨_, rfl⟩
  | 6, _ => ⟨_, rfl⟩
  | 7, _ => ⟨_, rfl⟩
  | 8, _ => ⟨_, rfl⟩
  | 9, _ => ⟨_, rfl⟩
  | 10, _ => ⟨_, rfl⟩
  | 11, _ => ⟨_, rfl⟩
  | 12, _ => ⟨_, rfl⟩
  | 13, _ => ⟨_, rfl⟩
  | 14, _ => ⟨_, rfl⟩
  | 15, _ => ⟨_, rfl⟩
  | 16, _ => ⟨_, rfl⟩
  | 17, _ => ⟨_, rfl⟩
  | 18, _ => ⟨_, rfl⟩
  | 19, _ => ⟨_, rfl⟩
  | 20, _ => ⟨_, rfl⟩
  | 21, _ => ⟨_, rfl⟩
  | 22, _ => ⟨_, rfl⟩
  | 23, _ => ⟨_, rfl⟩
  | 24, _ => ⟨_, rfl⟩
  | 25, _ => ⟨_, rfl⟩
  | 26, _ => ⟨_, rfl⟩
  | 27, _ => ⟨_, rfl⟩
  | 28, _ => ⟨_, rfl⟩
  | 29, _ => ⟨_, rfl⟩
  | 30, _ => ⟨_, rfl⟩
  | 31, _ => ⟨_, rfl⟩
  | 32, _ => ⟨_, rfl⟩
  | 33, _ => ⟨_, rfl⟩
  | 34, _ => ⟨_, rfl⟩
  | 35, _ => ⟨_, rfl⟩
  | 36, _ => ⟨_, rfl⟩
  | 37, _ => ⟨_, rfl⟩
  | 38, _ => ⟨_, rfl⟩
  | 39, _ => ⟨_, rfl⟩
  | 40, _ => ⟨_, rfl⟩
  | 41, _ => ⟨_, rfl⟩
  | 42, _ => ⟨_, rfl⟩
  | 43, _ => ⟨_, rfl⟩
  | 44, _ => ⟨_, rfl⟩
  | 45, _ => ⟨_, rfl⟩
  | 46, _ => ⟨_, rfl⟩
  | 47, _ => ⟨_, rfl⟩
  | k + 48, h => absurd h (by omega)
