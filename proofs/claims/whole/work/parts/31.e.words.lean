/-! the literals at the law's start -/
def kW : List Nat := [104, 92, 94, 96, 98, 100, 102, 38, 60, 69, 73, 77]
def kN : List Nat := [39, 41, 43, 45, 47, 49, 51, 315, 299, 305, 307, 309]
def tmW (i : Nat) : Term := .string "OneShort$Tape" (kW.getD i 0)
def tmN (i : Nat) : Term := .string "OneShortModel" (kN.getD i 0)
def gvC : Cond := Jvm.Cond.and given_1 narrow_1
set_option maxRecDepth 100000 in
set_option maxHeartbeats 4000000 in
theorem gw_ex : ∀ i, i < 12 → Cond.exactly (tmW i) "java/lang/String" ∈ flatC gvC := by decide +kernel
set_option maxRecDepth 100000 in
theorem gw_co : ∀ i, i < 12 → Cond.eq (.field (tmW i) "java/lang/String" "coder" "B") (.int 0) ∈ flatC gvC := by decide +kernel
set_option maxRecDepth 100000 in
theorem gw_ar : ∀ i, i < 12 → Cond.arrayOf (.field (tmW i) "java/lang/String" "value" "[B") .byte ∈ flatC gvC := by decide +kernel
set_option maxRecDepth 100000 in
theorem gw_le : ∀ i, i < 12 → Cond.eq (.length (.field (tmW i) "java/lang/String" "value" "[B")) (.int (Int32.ofNat (lenW.getD i 0))) ∈ flatC gvC := by decide +kernel
set_option maxRecDepth 100000 in
theorem gw_el : ∀ i, i < 12 → ∀ j, j < lenW.getD i 0 → Cond.eq (.elem (.field (tmW i) "java/lang/String" "value" "[B") (.int (Int32.ofNat j))) (.int ((bytW.getD i []).getD j 0)) ∈ flatC gvC := by decide +kernel
/-- the order in which the Statement tells them apart -/
def kA : List Nat := [38, 92, 94, 96, 98, 100, 102, 104, 60, 69, 73, 77]
def sgA : List Nat := [7, 1, 2, 3, 4, 5, 6, 0, 8, 9, 10, 11]
def tmA (i : Nat) : Term := .string "OneShort$Tape" (kA.getD i 0)
set_option maxRecDepth 100000 in
theorem gn_0 : ∀ b, b < 12 → 0 < b → Cond.not (Cond.eq (tmA 0) (tmA b)) ∈ flatC gvC := by decide +kernel
set_option maxRecDepth 100000 in
theorem gn_1 : ∀ b, b < 12 → 1 < b → Cond.not (Cond.eq (tmA 1) (tmA b)) ∈ flatC gvC := by decide +kernel
set_option maxRecDepth 100000 in
theorem gn_2 : ∀ b, b < 12 → 2 < b → Cond.not (Cond.eq (tmA 2) (tmA b)) ∈ flatC gvC := by decide +kernel
set_option maxRecDepth 100000 in
theorem gn_3 : ∀ b, b < 12 → 3 < b → Cond.not (Cond.eq (tmA 3) (tmA b)) ∈ flatC gvC := by decide +kernel
set_option maxRecDepth 100000 in
theorem gn_4 : ∀ b, b < 12 → 4 < b → Cond.not (Cond.eq (tmA 4) (tmA b)) ∈ flatC gvC := by decide +kernel
set_option maxRecDepth 100000 in
theorem gn_5 : ∀ b, b < 12 → 5 < b → Cond.not (Cond.eq (tmA 5) (tmA b)) ∈ flatC gvC := by decide +kernel
set_option maxRecDepth 100000 in
theorem gn_6 : ∀ b, b < 12 → 6 < b → Cond.not (Cond.eq (tmA 6) (tmA b)) ∈ flatC gvC := by decide +kernel
set_option maxRecDepth 100000 in
theorem gn_7 : ∀ b, b < 12 → 7 < b → Cond.not (Cond.eq (tmA 7) (tmA b)) ∈ flatC gvC := by decide +kernel
set_option maxRecDepth 100000 in
theorem gn_8 : ∀ b, b < 12 → 8 < b → Cond.not (Cond.eq (tmA 8) (tmA b)) ∈ flatC gvC := by decide +kernel
set_option maxRecDepth 100000 in
theorem gn_9 : ∀ b, b < 12 → 9 < b → Cond.not (Cond.eq (tmA 9) (tmA b)) ∈ flatC gvC := by decide +kernel
set_option maxRecDepth 100000 in
theorem gn_10 : ∀ b, b < 12 → 10 < b → Cond.not (Cond.eq (tmA 10) (tmA b)) ∈ flatC gvC := by decide +kernel
theorem gn_all : ∀ a, a < 12 → ∀ b, b < 12 → a < b → Cond.not (Cond.eq (tmA a) (tmA b)) ∈ flatC gvC := by
  intro a ha b hb h
  rcases (show a = 0 ∨ a = 1 ∨ a = 2 ∨ a = 3 ∨ a = 4 ∨ a = 5 ∨ a = 6 ∨ a = 7 ∨ a = 8 ∨ a = 9 ∨ a = 10 by omega) with rfl | rfl | rfl | rfl | rfl | rfl | rfl | rfl | rfl | rfl | rfl
  · exact gn_0 b hb h
  · exact gn_1 b hb h
  · exact gn_2 b hb h
  · exact gn_3 b hb h
  · exact gn_4 b hb h
  · exact gn_5 b hb h
  · exact gn_6 b hb h
  · exact gn_7 b hb h
  · exact gn_8 b hb h
  · exact gn_9 b hb h
  · exact gn_10 b hb h
theorem sg_f : ∀ i, i < 12 → kW.getD i 0 = kA.getD (sgA.getD i 0) 0 ∧ sgA.getD i 0 < 12 := by decide
theorem sg_i : ∀ i, i < 12 → ∀ j, j < 12 → sgA.getD i 0 = sgA.getD j 0 → i = j := by decide
theorem gw_ne (i : Nat) (hi : i < 12) (j : Nat) (hj : j < 12) (h : i ≠ j) : Cond.not (Cond.eq (tmW i) (tmW j)) ∈ flatC gvC ∨ Cond.not (Cond.eq (tmW j) (tmW i)) ∈ flatC gvC := by
  obtain ⟨e1, l1⟩ := sg_f i hi
  obtain ⟨e2, l2⟩ := sg_f j hj
  have f1 : tmW i = tmA (sgA.getD i 0) := congrArg (Term.string "OneShort$Tape") e1
  have f2 : tmW j = tmA (sgA.getD j 0) := congrArg (Term.string "OneShort$Tape") e2
  rw [f1, f2]
  rcases Nat.lt_or_ge (sgA.getD i 0) (sgA.getD j 0) with g | g
  · exact Or.inl (gn_all _ l1 _ l2 g)
  · exact Or.inr (gn_all _ l2 _ l1 (Nat.lt_of_le_of_ne g (fun z => h (sg_i i hi j hj z.symm))))
set_option maxRecDepth 100000 in
theorem gw_eq : ∀ i, i < 12 → Cond.eq (tmW i) (tmN i) ∈ flatC gvC ∨ Cond.eq (tmN i) (tmW i) ∈ flatC gvC := by decide +kernel
theorem lw_words {args : Array Value} {s : State} (hgv : gvC.before args s = true) {A : Nat → Prop} (hA : ∀ a : Nat, a < s.heap.size → ¬ A a) : ∃ adK adV : Nat → Nat, vk_S 12 lenW bytW adK adV A s s.heap ∧ ∀ i : Nat, i < 12 → (tmW i).eval args s none [] s = some (.ref (adK i)) := by
  have hs := flat_of_before _ hgv
  exact vk_Sof (tm := tmW) (by decide) (fun i hi => hs _ (gw_ex i hi)) (fun i hi => hs _ (gw_co i hi)) (fun i hi => hs _ (gw_ar i hi)) (fun i hi => hs _ (gw_le i hi)) (fun i hi j hj => hs _ (gw_el i hi j hj)) (fun i j hi hj h => (gw_ne i hi j hj h).elim (fun z => Or.inl (hs _ z)) (fun z => Or.inr (hs _ z))) hA
