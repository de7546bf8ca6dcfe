/-! the law's start: strings and statics -/
set_option maxRecDepth 100000 in
theorem tw_1 : Cond.laysStatic "java/lang/String" "COMPACT_STRINGS" "Z" ∈ tables_1 ∧ Cond.initialized "java/lang/String" ∈ tables_1 := by decide +kernel
set_option maxRecDepth 100000 in
theorem tw_2 : Cond.laysStatic "jdk/internal/util/Preconditions" "SIOOBE_FORMATTER" "Ljava/util/function/BiFunction;" ∈ tables_1 ∧ Cond.initialized "jdk/internal/util/Preconditions" ∈ tables_1 := by decide +kernel
set_option maxRecDepth 100000 in
theorem tw_3 : Cond.laysStatic "OneShort" "KIND_ABOVE" "[I" ∈ tables_1 ∧ Cond.initialized "OneShort" ∈ tables_1 := by decide +kernel
set_option maxRecDepth 100000 in
theorem tw_4 : ∀ x ∈ rfW ++ rfM ++ rfX, Cond.stringRef x.1 x.2.1 x.2.2.1 ∈ tables_1 := by decide +kernel
set_option maxRecDepth 100000 in
theorem tw_5 : Cond.fieldLinkNest RX0 58 "OneShort" "KIND_ABOVE" "[I" "OneShort" ∈ tables_1 ∧ Cond.methodLinkNest RX3 28 yX2_init "OneShort" ∈ tables_1 ∧ Cond.methodLinkNest RX3 49 yX1_init "OneShort" ∈ tables_1 := by decide +kernel
theorem rf_tm : (∀ x ∈ rfW, x.2.2.2 < 12 ∧ x.1 = "OneShort$Tape" ∧ x.2.1 = kW.getD x.2.2.2 0) ∧ ∀ x ∈ rfM ++ rfX, x.2.2.2 < 12 ∧ x.1 = "OneShortModel" ∧ x.2.1 = kN.getD x.2.2.2 0 := by decide +kernel
theorem rf_all {args : Array Value} {s : State} (hts : ∀ w ∈ lw_tbl, w.before args s = true) (hgv : gvC.before args s = true) {adK : Nat → Nat} (hw : ∀ i : Nat, i < 12 → (tmW i).eval args s none [] s = some (.ref (adK i))) : (∀ x ∈ rfW, vk_R x.1 x.2.1 x.2.2.1 (adK x.2.2.2) s) ∧ ∀ x ∈ rfM ++ rfX, vk_R x.1 x.2.1 x.2.2.1 (adK x.2.2.2) s := by
  have hs := flat_of_before _ hgv
  refine ⟨fun x hx => ?_, fun x hx => ?_⟩
  · obtain ⟨h1, h2, h3⟩ := rf_tm.1 x hx
    have hc := hts _ (List.mem_append_right _ (tw_4 x (by rw [List.append_assoc]; exact List.mem_append_left _ hx)))
    refine vk_R.of hc ?_
    rw [h2, h3]
    exact hw _ h1
  · obtain ⟨h1, h2, h3⟩ := rf_tm.2 x hx
    have hc := hts _ (List.mem_append_right _ (tw_4 x (by rw [List.append_assoc]; exact List.mem_append_right _ hx)))
    refine vk_R.of hc ?_
    rw [h2, h3]
    exact va_eqr ((gw_eq _ h1).elim (fun z => Or.inl (hs _ z)) (fun z => Or.inr (hs _ z))) (hw _ h1)
theorem lw_en {args : Array Value} {s : State} (D : va_G) (cI : ClassId) (hts : ∀ w ∈ lw_tbl, w.before args s = true) (hgv : gvC.before args s = true) : ∃ ka : Nat, en D cI (lG s) ka s s.heap := by
  have hs := flat_of_before _ hgv
  have hA : ∀ a : Nat, a < s.heap.size → ¬ lG s a := fun a h => Nat.not_le.mpr h
  have ht : ∀ w ∈ tables_1, w.before args s = true := fun w h => hts w (List.mem_append_right _ h)
  obtain ⟨ka, h1, h2⟩ := va_Tof (N := 7) (f := fun j => .int (KAf j)) (A := lG s) (by decide) (hs _ gw_ka) (va_eqt (hs _ gw_kl)) (fun j hj => va_eqt (hs _ (gw_ke j hj))) hA
  refine ⟨ka, va_Nw.of rfl (ht _ tw_5.1), va_Zof (ht _ tw_3.1) (ht _ tw_3.2) h1 hA, h2, ?_⟩
  obtain ⟨cell, q1, -⟩ := id h2
  exact hA ka (Array.getElem?_eq_some_iff.mp q1).1
