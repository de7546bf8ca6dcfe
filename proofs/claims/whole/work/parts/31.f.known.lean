/-! what the law knows at its start -/
theorem va_eqr {args : Array Value} {s : State} {t u : Term} {a : Nat} (h : (Cond.eq t u).before args s = true ∨ (Cond.eq u t).before args s = true) (ht : t.eval args s none [] s = some (.ref a)) : u.eval args s none [] s = some (.ref a) := by
  rcases h with h | h
  all_goals
    cases hv : u.eval args s none [] s with
    | none => simp [Cond.before, Cond.holds, Cond.value, ht, hv] at h
    | some w =>
      simp only [Cond.before, Cond.holds, Cond.value, ht, hv] at h
      cases w <;> simp_all
theorem ty_int {args : Array Value} {s : State} (h : (Cond.arrayClass .int).before args s = true) : ∃ c : ClassId, ArrOfT s c .int ∧ va_RA s c .int := by
  obtain ⟨c, k, comp, h1, h2, h3⟩ := Cond.arrayClass_spec h
  exact ⟨c, fun n z => ⟨fun k h => (by cases h), k, h2, comp, h3⟩, h1⟩
theorem ty_obj {C : String} {s : State} (h : va_AO C s) : ∃ c : ClassId, ArrOfT s c (.object C) ∧ va_RA s c (.object C) := by
  obtain ⟨comp, c, k, h1, -, h3, h4, h5⟩ := Cond.arrayOver_spec h
  exact ⟨c, fun n z => ⟨fun k h => (by cases h), k, h3, comp, h4⟩, k, comp, h3, h4, h1, h5⟩
set_option maxRecDepth 100000 in
theorem gw_cs : Cond.eq (.static "java/lang/String" "COMPACT_STRINGS" "Z") (.int 1) ∈ flatC gvC := by decide +kernel
set_option maxRecDepth 100000 in
theorem gw_fx : Cond.isRef (.static "jdk/internal/util/Preconditions" "SIOOBE_FORMATTER" "Ljava/util/function/BiFunction;") ∈ flatC gvC := by decide +kernel
set_option maxRecDepth 100000 in
theorem gw_ka : Cond.arrayOf (.static "OneShort" "KIND_ABOVE" "[I") .int ∈ flatC gvC := by decide +kernel
set_option maxRecDepth 100000 in
theorem gw_kl : Cond.eq (.length (.static "OneShort" "KIND_ABOVE" "[I")) (.int 7) ∈ flatC gvC := by decide +kernel
set_option maxRecDepth 100000 in
theorem gw_ke : ∀ j, j < 7 → Cond.eq (.elem (.static "OneShort" "KIND_ABOVE" "[I") (.int (Int32.ofNat j))) (.int (KAf j)) ∈ flatC gvC := by decide +kernel
set_option maxRecDepth 100000 in
theorem gw_ao : Cond.arrayOver (.object "OneShort$Sheet") ∈ tables_1 ∨ Cond.arrayOver (.object "OneShort$Sheet") ∈ flatC gvC := by decide +kernel
set_option maxRecDepth 100000 in
theorem gw_as : Cond.arrayOver (.object "java/lang/String") ∈ tables_1 ∨ Cond.arrayOver (.object "java/lang/String") ∈ flatC gvC := by decide +kernel
