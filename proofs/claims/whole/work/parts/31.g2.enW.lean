/-! the law's start: classes, array classes, formatter -/
theorem fx_of {args : Array Value} {s : State} {t : Term} (h : (Cond.isRef t).before args s = true) : ∃ a : Nat, t.eval args s none [] s = some (fxV a) := by
  simp only [Cond.before, Cond.holds, Cond.value] at h
  cases hv : t.eval args s none [] s with
  | none => simp [hv] at h
  | some v =>
    cases v with
    | null => exact ⟨0, rfl⟩
    | ref a => exact ⟨a + 1, rfl⟩
    | _ => simp [hv] at h
theorem lw_enW {args : Array Value} {s : State} (hts : ∀ w ∈ lw_tbl, w.before args s = true) (hgv : gvC.before args s = true) : ∃ (adK adV : Nat → Nat) (fx : Nat), enW (lG s) adK adV fx rfW s s.heap ∧ enW (lG s) adK adV fx rfM s s.heap ∧ enW (lG s) adK adV fx rfX s s.heap := by
  have hs := flat_of_before _ hgv
  have hA : ∀ a : Nat, a < s.heap.size → ¬ lG s a := fun a h => Nat.not_le.mpr h
  have ht : ∀ w ∈ tables_1, w.before args s = true := fun w h => hts w (List.mem_append_right _ h)
  obtain ⟨adK, adV, hS, hw⟩ := lw_words hgv (A := lG s) hA
  obtain ⟨fx, hfx⟩ := fx_of (hs _ gw_fx)
  obtain ⟨r1, r2⟩ := rf_all hts hgv hw
  have z1 := va_Zof (ht _ tw_1.1) (ht _ tw_1.2) (va_eqt (hs _ gw_cs)) hA
  have z2 := va_Zof (ht _ tw_2.1) (ht _ tw_2.2) hfx hA
  exact ⟨adK, adV, fx, ⟨hS, z1, z2, r1⟩, ⟨hS, z1, z2, fun x hx => r2 x (List.mem_append_left _ hx)⟩, ⟨hS, z1, z2, fun x hx => r2 x (List.mem_append_right _ hx)⟩⟩
set_option maxRecDepth 100000 in
theorem tw_6 : Cond.instantiable RX0 13 ∈ tables_1 ∧ Cond.instantiable RX1 3 ∈ tables_1 ∧ Cond.instantiable RX2 6 ∈ tables_1 ∧ Cond.instantiable RX3 9 ∈ tables_1 ∧ Cond.instantiable RX4 24 ∈ tables_1 := by decide +kernel
set_option maxRecDepth 100000 in
theorem tw_7 : Cond.arrayClass .int ∈ tables_1 := by decide +kernel
set_option maxRecDepth 100000 in
theorem tw_8 : Cond.classLink RL 7 RX3 ∈ tables_1 ∧ Cond.initialized RX3 ∈ tables_1 ∧ Cond.methodLink RL 9 yX3_init ∈ tables_1 ∧ Cond.instanceMethod yX3_init ∈ tables_1 := by decide +kernel
set_option maxRecDepth 100000 in
theorem tw_9 : Cond.classLink RL 10 RX4 ∈ tables_1 ∧ Cond.initialized RX4 ∈ tables_1 ∧ Cond.methodLink RL 12 yX4_init ∈ tables_1 ∧ Cond.instanceMethod yX4_init ∈ tables_1 := by decide +kernel
theorem lw_known {args : Array Value} {s : State} (hts : ∀ w ∈ lw_tbl, w.before args s = true) (hgv : gvC.before args s = true) : ∃ (D : va_G) (ci : Nat → ClassId), va_K D vwCl (tyL ci) s ∧ va_AO "OneShort$Sheet" s ∧ va_AO "java/lang/String" s := by
  have hs := flat_of_before _ hgv
  have ht : ∀ w ∈ tables_1, w.before args s = true := fun w h => hts w (List.mem_append_right _ h)
  have hw : ∀ w ∈ wsL_law, w.before args s = true := fun w h => hts w (wsL_law_in w h)
  obtain ⟨c0, i0, k0⟩ := u_known (C := RX0) (T := TX0) (N := 13) (n := 13) hw lawIn_48 (ht _ tw_6.1)
  obtain ⟨c1, i1, k1⟩ := u_known (C := RX1) (T := TX1) (N := 3) (n := 3) hw lawIn_50 (ht _ tw_6.2.1)
  obtain ⟨c2, i2, k2⟩ := u_known (C := RX2) (T := TX2) (N := 6) (n := 6) hw lawIn_49 (ht _ tw_6.2.2.1)
  obtain ⟨c3, i3, k3⟩ := u_known (C := RX3) (T := TX3) (N := 9) (n := 9) hw lawIn_46 (ht _ tw_6.2.2.2.1)
  obtain ⟨c4, i4, k4⟩ := u_known (C := RX4) (T := TX4) (N := 24) (n := 24) hw lawIn_47 (ht _ tw_6.2.2.2.2)
  have a1 : va_AO "OneShort$Sheet" s := va_AO.of (gw_ao.elim (fun z => ht _ z) (fun z => hs _ z))
  have a2 : va_AO "java/lang/String" s := va_AO.of (gw_as.elim (fun z => ht _ z) (fun z => hs _ z))
  obtain ⟨t0, p0, r0⟩ := ty_int (ht _ tw_7)
  obtain ⟨t1, p1, r1⟩ := ty_obj a1
  obtain ⟨t2, p2, r2⟩ := ty_obj a2
  refine ⟨(fun k => if k = 0 then c0 else if k = 1 then c1 else if k = 2 then c2 else if k = 3 then c3 else c4, fun k => if k = 0 then i0 else if k = 1 then i1 else if k = 2 then i2 else if k = 3 then i3 else i4), fun k => if k = 0 then t0 else if k = 1 then t1 else t2, ⟨?_, ?_⟩, a1, a2⟩
  · intro k q hq
    match k, hq with
    | 0, hq => cases hq; exact k0
    | 1, hq => cases hq; exact k1
    | 2, hq => cases hq; exact k2
    | 3, hq => cases hq; exact k3
    | 4, hq => cases hq; exact k4
    | k + 5, hq => simp at hq
  · intro k q hq
    match k, hq with
    | 0, hq => cases hq; exact ⟨p0, r0⟩
    | 1, hq => cases hq; exact ⟨p1, r1⟩
    | 2, hq => cases hq; exact ⟨p2, r2⟩
    | k + 3, hq => simp [tyL] at hq
theorem lc_of {p : Program} {s : State} {m : MethodId} {meth : Method} {c : Code} {b L : Nat} {xs : Nat → Int32} (C0 : lw_At p s m meth c b L xs) : ∃ (D : va_G) (ci : Nat → ClassId) (ka : Nat) (adK adV : Nat → Nat) (fx : Nat), LC p s m c b L xs D ci ka adK adV fx ∧ enW (lG s) adK adV fx rfM s s.heap ∧ va_AO "OneShort$Sheet" s ∧ va_AO "java/lang/String" s ∧ va_Nw (.methodLinkNest RX3 28 yX2_init "OneShort") s ∧ va_Nw (.methodLinkNest RX3 49 yX1_init "OneShort") s := by
  obtain ⟨hx, hb, hr, hml, hown, hts, hX, hbl, hlocks, hgv⟩ := C0
  obtain ⟨D, ci, hK, a1, a2⟩ := lw_known hts hgv
  obtain ⟨ka, hen⟩ := lw_en D (ci 0) hts hgv
  obtain ⟨adK, adV, fx, e1, e2, e3⟩ := lw_enW hts hgv
  exact ⟨D, ci, ka, adK, adV, fx, ⟨hx, hb, hml, hown, fun w h => hts w (wsL_law_in w h), hX, hbl, hK, ⟨hen, e1⟩, e3⟩, e2, a1, a2, va_Nw.of rfl (hts _ (List.mem_append_right _ tw_5.2.1)), va_Nw.of rfl (hts _ (List.mem_append_right _ tw_5.2.2))⟩
theorem LA_of {s : State} {ad am : Nat → Nat} {wx wn : va_W} (hx : ∀ i, i < 48 → ∃ e, wx[i]? = some (ad i, e)) (lx : wx.length = 48) (hn : ∀ i, i < 16 → ∃ e, wn[i]? = some (am i, e)) (hD : va_D (lG s) (wx ++ wn)) : LA s ad am := by
  have gx : ∀ i, i < 48 → ∃ e, (wx ++ wn)[i]? = some (ad i, e) := fun i hi => by
    obtain ⟨e, he⟩ := hx i hi
    exact ⟨e, by rw [List.getElem?_append_left (by omega)]; exact he⟩
  have gn : ∀ i, i < 16 → ∃ e, (wx ++ wn)[48 + i]? = some (am i, e) := fun i hi => by
    obtain ⟨e, he⟩ := hn i hi
    exact ⟨e, by rw [List.getElem?_append_right (by omega), lx, Nat.add_sub_cancel_left]; exact he⟩
  obtain ⟨i1, m1⟩ := va_Dinj hD gx
  refine ⟨i1, fun i j hi hj e => ?_, m1, fun i hi => ?_, fun i j hi hj e => ?_⟩
  · obtain ⟨x, hx⟩ := gn i hi
    obtain ⟨y, hy⟩ := gn j hj
    have h9 := hD.1 _ _ _ _ hx hy e
    omega
  · obtain ⟨x, hx⟩ := gn i hi
    exact hD.2 _ _ hx
  · obtain ⟨x, hx⟩ := gx i hi
    obtain ⟨y, hy⟩ := gn j hj
    have h9 := hD.1 _ _ _ _ hx hy e
    omega
theorem lw_Pl {D : va_G} {wx wn : va_W} {H : Heap} (hP : va_P D vwCl (wx ++ wn) H) : va_P D vwCl wx H := fun k q hq => hP k q (by rw [List.getElem?_append_left (List.getElem?_eq_some_iff.mp hq).1]; exact hq)
theorem lw_Pr {D : va_G} {wx wn : va_W} {H : Heap} (hP : va_P D vwCl (wx ++ wn) H) : va_P D vwCl wn H := fun k q hq => hP (wx.length + k) q (by rw [List.getElem?_append_right (by omega), Nat.add_sub_cancel_left]; exact hq)
