/-! the literals at the law's start -/
def kW : List Nat := [104, 92, 94, 96, 98, 100, 102, 38, 60, 69, 73, 77]
def kN : List Nat := [39, 41, 43, 45, 47, 49, 51, 315, 299, 305, 307, 309]
def tmW (i : Nat) : Term := .string "OneShort$Tape" (kW.getD i 0)
def tmN (i : Nat) : Term := .string "OneShortModel" (kN.getD i 0)
def gvC : Cond := Jvm.Cond.and given_1 narrow_1
set_option maxRecDepth 100000 in
set_option maxHeartbeats 4000000 in
theorem gw_ex : ∀ i, i < 12 → Cond.exactly (tmW i) "java/lang/String" ∈ flatC gvC := by decide +kernel
set_option maxRecDepth 100000 in
theorem gw_co : ∀ i, i < 12 → Cond.eq (.field (tmW i) "java/lang/String" "coder" "B") (.int 0) ∈ flatC gvC := by decide +kernel
set_option maxRecDepth 100000 in
theorem gw_ar : ∀ i, i < 12 → Cond.arrayOf (.field (tmW i) "java/lang/String" "value" "[B") .byte ∈ flatC gvC := by decide +kernel
set_option maxRecDepth 100000 in
theorem gw_le : ∀ i, i < 12 → Cond.eq (.length (.field (tmW i) "java/lang/String" "value" "[B")) (.int (Int32.ofNat (lenW.getD i 0))) ∈ flatC gvC := by decide +kernel
set_option maxRecDepth 100000 in
theorem gw_el : ∀ i, i < 12 → ∀ j, j < lenW.getD i 0 → Cond.eq (.elem (.field (tmW i) "java/lang/String" "value" "[B") (.int (Int32.ofNat j))) (.int ((bytW.getD i []).getD j 0)) ∈ flatC gvC := by decide +kernel
set_option maxRecDepth 100000 in
theorem gw_ne : ∀ i, i < 12 → ∀ j, j < 12 → i ≠ j → Cond.not (Cond.eq (tmW i) (tmW j)) ∈ flatC gvC ∨ Cond.not (Cond.eq (tmW j) (tmW i)) ∈ flatC gvC := by decide +kernel
set_option maxRecDepth 100000 in
theorem gw_eq : ∀ i, i < 12 → Cond.eq (tmW i) (tmN i) ∈ flatC gvC ∨ Cond.eq (tmN i) (tmW i) ∈ flatC gvC := by decide +kernel
theorem lw_words {args : Array Value} {s : State} (hgv : gvC.before args s = true) {A : Nat → Prop} (hA : ∀ a : Nat, a < s.heap.size → ¬ A a) : ∃ adK adV : Nat → Nat, vk_S 12 lenW bytW adK adV A s s.heap ∧ ∀ i : Nat, i < 12 → (tmW i).eval args s none [] s = some (.ref (adK i)) := by
  have hs := flat_of_before _ hgv
  exact vk_Sof (tm := tmW) (by decide) (fun i hi => hs _ (gw_ex i hi)) (fun i hi => hs _ (gw_co i hi)) (fun i hi => hs _ (gw_ar i hi)) (fun i hi => hs _ (gw_le i hi)) (fun i hi j hj => hs _ (gw_el i hi j hj)) (fun i j hi hj h => (gw_ne i hi j hj h).elim (fun z => Or.inl (hs _ z)) (fun z => Or.inr (hs _ z))) hA
