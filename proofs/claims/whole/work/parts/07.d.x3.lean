/-! walks laid by program -/
set_option maxHeartbeats 4000000 in
set_option maxRecDepth 100000 in
/-- X3_put -/
theorem c_X3_put_0 (l : Launch) (D : va_G) (ci : Nat → ClassId) (G : Nat → Prop) (ka : Nat) (ad : Nat → Nat) (X : AS) (T : OS) (tq la tt : Nat → Int32) (z : Nat → Nat → Int32) (hI : injA ad 48) (hG : ∀ k, k < 48 → G (ad k)) (q mx : Nat) (v : Int32) (hWX : WFX X) (h_q : q < 8) (h_m : mx < 1000) : Met l yX3_put wsX3_put ({ frames := 1, cells := 0, slots := 0, locals := 21 } : Room) (va_Pc [.ref (ad 0), .ref (ad 7), .int (nI q), .int (v), .int (nI mx)] (ro_B D (tyL ci) (wX ci ad X T tq la tt z) (en D (ci 0) G ka))) (mu_Q (aX ad) (some (.int ((bk X (inN v (mx + 1)) 0 (nI (X.1 1 q), toS X (st X.1 1 q (tn v)))).1))) (fun H => ∃ T tq la tt z, va_P D vwCl (wX ci ad ((bk X (inN v (mx + 1)) 0 (nI (X.1 1 q), toS X (st X.1 1 q (tn v)))).2) T tq la tt z) H)) 0 0 (aX ad) := by
  refine mu_Met (cc := cX3_put) (maxL := 6) (ret := (some .int)) [(0, .ref (ad 0)), (1, .ref (ad 7)), (2, .int (nI q)), (3, .int (v)), (4, .int (nI mx))] (wX_D hI) (by decide) rfl (Nat.le_of_ble_eq_true rfl) rfl ?_
  intro p e s m below meth c H locs hx hb hml hr hlocks hts hown hP hK hs0 hD hS ls hl
  have hown : s.vm.findClass RX3 = some m.cls := hown
  have hE := hE_en D (ci 0) G ka
  have hWF := hWX.w
  have f_n := hWF.n
  have f_e := hWX.e
  have f_tl := hWX.t
  have hGA := aX_G hG
  have hWK := hWX.k
  refine lv_iload_n hx hb dX3_put_0 rfl (lv_at hl 3 rfl) ?_
  refine lv_if_lt (tgt := 10) hx hb dX3_put_1 (by decide) (fun c1 => ?_) (fun c1 => ?_)
  · have i2 : ∀ u9, inN v u9 = false := fun u9 => in_f0 c1
    refine lv_aload_n hx hb dX3_put_10 rfl (lv_at hl 0 rfl) ?_
    refine lv_iconst (v := nI (0)) hx hb dX3_put_11 (by decide) ?_
    refine mu_V (n := 1) (As := [.int (nI 0)]) (rest := []) ⟨hx, hb, hml, hown, hts⟩ (c_X3_finding l D ci G ka ad X T tq la tt z hI hG (0) hWX (by omega)) gX3_put_X3_finding rfl ⟨rfl, rfl⟩ (by decide +kernel) rfl ⟨Nat.le_of_ble_eq_true rfl, Nat.le_of_ble_eq_true rfl⟩ hE (en_S hGA hs0 hS) hK hP (ci := 3) (q0 := 0) rfl rfl hl.1 rfl (Nat.le_of_ble_eq_true rfl) dX3_put_12 ⟨Nat.zero_le _, Nat.zero_le _⟩ hS (fun _ h => h) (fun H1 locs hz hfr hB hS => ?_)
    obtain ⟨T, tq, la, tt, z, hP⟩ := hB
    generalize H1 = H at hP hS ⊢
    have hD : va_D (aX ad) (wX ci ad (toF X (inc X.2.2.2.1 0)) T tq la tt z) := wX_D hI
    have hp : bk X (inN v (mx + 1)) 0 (nI (X.1 1 q), toS X (st X.1 1 q (tn v))) = (fnd 0, toF X (inc X.2.2.2.1 0)) := by simp [bk, fl_eq, c1, i2]
    refine nv_cv (show fnd 0 = (bk X (inN v (mx + 1)) 0 (nI (X.1 1 q), toS X (st X.1 1 q (tn v)))).1 from by rw [hp]) ?_
    exact mu_iret hx hb hr hlocks hS ((by rw [hp]; exact ⟨_, _, _, _, _, hP⟩)) dX3_put_15
  · refine lv_iload_n hx hb dX3_put_4 rfl (lv_at hl 3 rfl) ?_
    refine lv_iload hx hb dX3_put_5 (lv_at hl 4 rfl) ?_
    refine lv_icmp_le (tgt := 16) hx hb dX3_put_7 (by decide) (fun c3 => ?_) (fun c3 => ?_)
    · have i4 : inN v (mx + 1) = true := in_t3 (by omega) c1 c3
      obtain ⟨vn, h_vn, rfl⟩ := in_ex i4 (by omega)
      have t_vn : tn (nI vn) = vn := tn_nI (by omega)
      refine lv_aload_n hx hb dX3_put_16 rfl (lv_at hl 1 rfl) ?_
      refine lv_iload_n hx hb dX3_put_17 rfl (lv_at hl 2 rfl) ?_
      have f5 := hWF.f1 (q)
      refine nv_iald (v := nI (X.1 1 (q))) hx hb hK hP 7 0 rfl rfl (by omega) (by decide) rfl dX3_put_18 ?_
      refine lv_istore (lv' := [(5, .int (nI (X.1 1 (q)))), (0, .ref (ad 0)), (1, .ref (ad 7)), (2, .int (nI q)), (3, .int (nI vn)), (4, .int (nI mx))]) hx hb dX3_put_19 hl (by decide) rfl (fun ls hl => ?_)
      refine lv_aload_n hx hb dX3_put_21 rfl (lv_at hl 2 rfl) ?_
      refine lv_iload_n hx hb dX3_put_22 rfl (lv_at hl 3 rfl) ?_
      refine lv_iload_n hx hb dX3_put_23 rfl (lv_at hl 4 rfl) ?_
      refine nv_iast hx hb hK hP hD hS 7 0 rfl rfl (by omega) (by decide) dX3_put_24 (fun H locs hP hD hS => ?_)
      have hP : va_P D vwCl (wX ci ad (toS X (st X.1 1 (q) (vn))) T tq la tt z) H := va_P.re (wX_o1 ci ad X T tq la tt z (q) (vn)) hP
      have hD : va_D (aX ad) (wX ci ad (toS X (st X.1 1 (q) (vn))) T tq la tt z) := wX_D hI
      refine lv_iload hx hb dX3_put_25 (lv_at hl 0 rfl) ?_
      have hp : bk X (inN (nI vn) (mx + 1)) 0 (nI (X.1 1 q), toS X (st X.1 1 q (tn (nI vn)))) = (nI (X.1 1 (q)), toS X (st X.1 1 (q) (vn))) := by simp [bk, fl_eq, c1, c3, i4, t_vn]
      refine nv_cv (show nI (X.1 1 (q)) = (bk X (inN (nI vn) (mx + 1)) 0 (nI (X.1 1 q), toS X (st X.1 1 q (tn (nI vn))))).1 from by rw [hp]) ?_
      exact mu_iret hx hb hr hlocks hS ((by rw [hp]; exact ⟨_, _, _, _, _, hP⟩)) dX3_put_27
    · have i6 : inN v (mx + 1) = false := in_f3 (by omega) c3
      refine lv_aload_n hx hb dX3_put_10 rfl (lv_at hl 0 rfl) ?_
      refine lv_iconst (v := nI (0)) hx hb dX3_put_11 (by decide) ?_
      refine mu_V (n := 1) (As := [.int (nI 0)]) (rest := []) ⟨hx, hb, hml, hown, hts⟩ (c_X3_finding l D ci G ka ad X T tq la tt z hI hG (0) hWX (by omega)) gX3_put_X3_finding rfl ⟨rfl, rfl⟩ (by decide +kernel) rfl ⟨Nat.le_of_ble_eq_true rfl, Nat.le_of_ble_eq_true rfl⟩ hE (en_S hGA hs0 hS) hK hP (ci := 3) (q0 := 0) rfl rfl hl.1 rfl (Nat.le_of_ble_eq_true rfl) dX3_put_12 ⟨Nat.zero_le _, Nat.zero_le _⟩ hS (fun _ h => h) (fun H1 locs hz hfr hB hS => ?_)
      obtain ⟨T, tq, la, tt, z, hP⟩ := hB
      generalize H1 = H at hP hS ⊢
      have hD : va_D (aX ad) (wX ci ad (toF X (inc X.2.2.2.1 0)) T tq la tt z) := wX_D hI
      have hp : bk X (inN v (mx + 1)) 0 (nI (X.1 1 q), toS X (st X.1 1 q (tn v))) = (fnd 0, toF X (inc X.2.2.2.1 0)) := by simp [bk, fl_eq, c1, c3, i6]
      refine nv_cv (show fnd 0 = (bk X (inN v (mx + 1)) 0 (nI (X.1 1 q), toS X (st X.1 1 q (tn v)))).1 from by rw [hp]) ?_
      exact mu_iret hx hb hr hlocks hS ((by rw [hp]; exact ⟨_, _, _, _, _, hP⟩)) dX3_put_15

set_option maxHeartbeats 4000000 in
set_option maxRecDepth 100000 in
/-- X3_put -/
theorem c_X3_put_1 (l : Launch) (D : va_G) (ci : Nat → ClassId) (G : Nat → Prop) (ka : Nat) (ad : Nat → Nat) (X : AS) (T : OS) (tq la tt : Nat → Int32) (z : Nat → Nat → Int32) (hI : injA ad 48) (hG : ∀ k, k < 48 → G (ad k)) (q mx : Nat) (v : Int32) (hWX : WFX X) (h_q : q < 8) (h_m : mx < 1000) : Met l yX3_put wsX3_put ({ frames := 1, cells := 0, slots := 0, locals := 21 } : Room) (va_Pc [.ref (ad 0), .ref (ad 8), .int (nI q), .int (v), .int (nI mx)] (ro_B D (tyL ci) (wX ci ad X T tq la tt z) (en D (ci 0) G ka))) (mu_Q (aX ad) (some (.int ((bk X (inN v (mx + 1)) 0 (nI (X.1 2 q), toS X (st X.1 2 q (tn v)))).1))) (fun H => ∃ T tq la tt z, va_P D vwCl (wX ci ad ((bk X (inN v (mx + 1)) 0 (nI (X.1 2 q), toS X (st X.1 2 q (tn v)))).2) T tq la tt z) H)) 0 0 (aX ad) := by
  refine mu_Met (cc := cX3_put) (maxL := 6) (ret := (some .int)) [(0, .ref (ad 0)), (1, .ref (ad 8)), (2, .int (nI q)), (3, .int (v)), (4, .int (nI mx))] (wX_D hI) (by decide) rfl (Nat.le_of_ble_eq_true rfl) rfl ?_
  intro p e s m below meth c H locs hx hb hml hr hlocks hts hown hP hK hs0 hD hS ls hl
  have hown : s.vm.findClass RX3 = some m.cls := hown
  have hE := hE_en D (ci 0) G ka
  have hWF := hWX.w
  have f_n := hWF.n
  have f_e := hWX.e
  have f_tl := hWX.t
  have hGA := aX_G hG
  have hWK := hWX.k
  refine lv_iload_n hx hb dX3_put_0 rfl (lv_at hl 3 rfl) ?_
  refine lv_if_lt (tgt := 10) hx hb dX3_put_1 (by decide) (fun c1 => ?_) (fun c1 => ?_)
  · have i2 : ∀ u9, inN v u9 = false := fun u9 => in_f0 c1
    refine lv_aload_n hx hb dX3_put_10 rfl (lv_at hl 0 rfl) ?_
    refine lv_iconst (v := nI (0)) hx hb dX3_put_11 (by decide) ?_
    refine mu_V (n := 1) (As := [.int (nI 0)]) (rest := []) ⟨hx, hb, hml, hown, hts⟩ (c_X3_finding l D ci G ka ad X T tq la tt z hI hG (0) hWX (by omega)) gX3_put_X3_finding rfl ⟨rfl, rfl⟩ (by decide +kernel) rfl ⟨Nat.le_of_ble_eq_true rfl, Nat.le_of_ble_eq_true rfl⟩ hE (en_S hGA hs0 hS) hK hP (ci := 3) (q0 := 0) rfl rfl hl.1 rfl (Nat.le_of_ble_eq_true rfl) dX3_put_12 ⟨Nat.zero_le _, Nat.zero_le _⟩ hS (fun _ h => h) (fun H1 locs hz hfr hB hS => ?_)
    obtain ⟨T, tq, la, tt, z, hP⟩ := hB
    generalize H1 = H at hP hS ⊢
    have hD : va_D (aX ad) (wX ci ad (toF X (inc X.2.2.2.1 0)) T tq la tt z) := wX_D hI
    have hp : bk X (inN v (mx + 1)) 0 (nI (X.1 2 q), toS X (st X.1 2 q (tn v))) = (fnd 0, toF X (inc X.2.2.2.1 0)) := by simp [bk, fl_eq, c1, i2]
    refine nv_cv (show fnd 0 = (bk X (inN v (mx + 1)) 0 (nI (X.1 2 q), toS X (st X.1 2 q (tn v)))).1 from by rw [hp]) ?_
    exact mu_iret hx hb hr hlocks hS ((by rw [hp]; exact ⟨_, _, _, _, _, hP⟩)) dX3_put_15
  · refine lv_iload_n hx hb dX3_put_4 rfl (lv_at hl 3 rfl) ?_
    refine lv_iload hx hb dX3_put_5 (lv_at hl 4 rfl) ?_
    refine lv_icmp_le (tgt := 16) hx hb dX3_put_7 (by decide) (fun c3 => ?_) (fun c3 => ?_)
    · have i4 : inN v (mx + 1) = true := in_t3 (by omega) c1 c3
      obtain ⟨vn, h_vn, rfl⟩ := in_ex i4 (by omega)
      have t_vn : tn (nI vn) = vn := tn_nI (by omega)
      refine lv_aload_n hx hb dX3_put_16 rfl (lv_at hl 1 rfl) ?_
      refine lv_iload_n hx hb dX3_put_17 rfl (lv_at hl 2 rfl) ?_
      have f5 := hWF.f2 (q)
      refine nv_iald (v := nI (X.1 2 (q))) hx hb hK hP 8 0 rfl rfl (by omega) (by decide) rfl dX3_put_18 ?_
      refine lv_istore (lv' := [(5, .int (nI (X.1 2 (q)))), (0, .ref (ad 0)), (1, .ref (ad 8)), (2, .int (nI q)), (3, .int (nI vn)), (4, .int (nI mx))]) hx hb dX3_put_19 hl (by decide) rfl (fun ls hl => ?_)
      refine lv_aload_n hx hb dX3_put_21 rfl (lv_at hl 2 rfl) ?_
      refine lv_iload_n hx hb dX3_put_22 rfl (lv_at hl 3 rfl) ?_
      refine lv_iload_n hx hb dX3_put_23 rfl (lv_at hl 4 rfl) ?_
      refine nv_iast hx hb hK hP hD hS 8 0 rfl rfl (by omega) (by decide) dX3_put_24 (fun H locs hP hD hS => ?_)
      have hP : va_P D vwCl (wX ci ad (toS X (st X.1 2 (q) (vn))) T tq la tt z) H := va_P.re (wX_o2 ci ad X T tq la tt z (q) (vn)) hP
      have hD : va_D (aX ad) (wX ci ad (toS X (st X.1 2 (q) (vn))) T tq la tt z) := wX_D hI
      refine lv_iload hx hb dX3_put_25 (lv_at hl 0 rfl) ?_
      have hp : bk X (inN (nI vn) (mx + 1)) 0 (nI (X.1 2 q), toS X (st X.1 2 q (tn (nI vn)))) = (nI (X.1 2 (q)), toS X (st X.1 2 (q) (vn))) := by simp [bk, fl_eq, c1, c3, i4, t_vn]
      refine nv_cv (show nI (X.1 2 (q)) = (bk X (inN (nI vn) (mx + 1)) 0 (nI (X.1 2 q), toS X (st X.1 2 q (tn (nI vn))))).1 from by rw [hp]) ?_
      exact mu_iret hx hb hr hlocks hS ((by rw [hp]; exact ⟨_, _, _, _, _, hP⟩)) dX3_put_27
    · have i6 : inN v (mx + 1) = false := in_f3 (by omega) c3
      refine lv_aload_n hx hb dX3_put_10 rfl (lv_at hl 0 rfl) ?_
      refine lv_iconst (v := nI (0)) hx hb dX3_put_11 (by decide) ?_
      refine mu_V (n := 1) (As := [.int (nI 0)]) (rest := []) ⟨hx, hb, hml, hown, hts⟩ (c_X3_finding l D ci G ka ad X T tq la tt z hI hG (0) hWX (by omega)) gX3_put_X3_finding rfl ⟨rfl, rfl⟩ (by decide +kernel) rfl ⟨Nat.le_of_ble_eq_true rfl, Nat.le_of_ble_eq_true rfl⟩ hE (en_S hGA hs0 hS) hK hP (ci := 3) (q0 := 0) rfl rfl hl.1 rfl (Nat.le_of_ble_eq_true rfl) dX3_put_12 ⟨Nat.zero_le _, Nat.zero_le _⟩ hS (fun _ h => h) (fun H1 locs hz hfr hB hS => ?_)
      obtain ⟨T, tq, la, tt, z, hP⟩ := hB
      generalize H1 = H at hP hS ⊢
      have hD : va_D (aX ad) (wX ci ad (toF X (inc X.2.2.2.1 0)) T tq la tt z) := wX_D hI
      have hp : bk X (inN v (mx + 1)) 0 (nI (X.1 2 q), toS X (st X.1 2 q (tn v))) = (fnd 0, toF X (inc X.2.2.2.1 0)) := by simp [bk, fl_eq, c1, c3, i6]
      refine nv_cv (show fnd 0 = (bk X (inN v (mx + 1)) 0 (nI (X.1 2 q), toS X (st X.1 2 q (tn v)))).1 from by rw [hp]) ?_
      exact mu_iret hx hb hr hlocks hS ((by rw [hp]; exact ⟨_, _, _, _, _, hP⟩)) dX3_put_15

set_option maxHeartbeats 4000000 in
set_option maxRecDepth 100000 in
/-- X3_put -/
theorem c_X3_put_2 (l : Launch) (D : va_G) (ci : Nat → ClassId) (G : Nat → Prop) (ka : Nat) (ad : Nat → Nat) (X : AS) (T : OS) (tq la tt : Nat → Int32) (z : Nat → Nat → Int32) (hI : injA ad 48) (hG : ∀ k, k < 48 → G (ad k)) (q mx : Nat) (v : Int32) (hWX : WFX X) (h_q : q < 8) (h_m : mx < 1000) : Met l yX3_put wsX3_put ({ frames := 1, cells := 0, slots := 0, locals := 21 } : Room) (va_Pc [.ref (ad 0), .ref (ad 9), .int (nI q), .int (v), .int (nI mx)] (ro_B D (tyL ci) (wX ci ad X T tq la tt z) (en D (ci 0) G ka))) (mu_Q (aX ad) (some (.int ((bk X (inN v (mx + 1)) 0 (nI (X.1 3 q), toS X (st X.1 3 q (tn v)))).1))) (fun H => ∃ T tq la tt z, va_P D vwCl (wX ci ad ((bk X (inN v (mx + 1)) 0 (nI (X.1 3 q), toS X (st X.1 3 q (tn v)))).2) T tq la tt z) H)) 0 0 (aX ad) := by
  refine mu_Met (cc := cX3_put) (maxL := 6) (ret := (some .int)) [(0, .ref (ad 0)), (1, .ref (ad 9)), (2, .int (nI q)), (3, .int (v)), (4, .int (nI mx))] (wX_D hI) (by decide) rfl (Nat.le_of_ble_eq_true rfl) rfl ?_
  intro p e s m below meth c H locs hx hb hml hr hlocks hts hown hP hK hs0 hD hS ls hl
  have hown : s.vm.findClass RX3 = some m.cls := hown
  have hE := hE_en D (ci 0) G ka
  have hWF := hWX.w
  have f_n := hWF.n
  have f_e := hWX.e
  have f_tl := hWX.t
  have hGA := aX_G hG
  have hWK := hWX.k
  refine lv_iload_n hx hb dX3_put_0 rfl (lv_at hl 3 rfl) ?_
  refine lv_if_lt (tgt := 10) hx hb dX3_put_1 (by decide) (fun c1 => ?_) (fun c1 => ?_)
  · have i2 : ∀ u9, inN v u9 = false := fun u9 => in_f0 c1
    refine lv_aload_n hx hb dX3_put_10 rfl (lv_at hl 0 rfl) ?_
    refine lv_iconst (v := nI (0)) hx hb dX3_put_11 (by decide) ?_
    refine mu_V (n := 1) (As := [.int (nI 0)]) (rest := []) ⟨hx, hb, hml, hown, hts⟩ (c_X3_finding l D ci G ka ad X T tq la tt z hI hG (0) hWX (by omega)) gX3_put_X3_finding rfl ⟨rfl, rfl⟩ (by decide +kernel) rfl ⟨Nat.le_of_ble_eq_true rfl, Nat.le_of_ble_eq_true rfl⟩ hE (en_S hGA hs0 hS) hK hP (ci := 3) (q0 := 0) rfl rfl hl.1 rfl (Nat.le_of_ble_eq_true rfl) dX3_put_12 ⟨Nat.zero_le _, Nat.zero_le _⟩ hS (fun _ h => h) (fun H1 locs hz hfr hB hS => ?_)
    obtain ⟨T, tq, la, tt, z, hP⟩ := hB
    generalize H1 = H at hP hS ⊢
    have hD : va_D (aX ad) (wX ci ad (toF X (inc X.2.2.2.1 0)) T tq la tt z) := wX_D hI
    have hp : bk X (inN v (mx + 1)) 0 (nI (X.1 3 q), toS X (st X.1 3 q (tn v))) = (fnd 0, toF X (inc X.2.2.2.1 0)) := by simp [bk, fl_eq, c1, i2]
    refine nv_cv (show fnd 0 = (bk X (inN v (mx + 1)) 0 (nI (X.1 3 q), toS X (st X.1 3 q (tn v)))).1 from by rw [hp]) ?_
    exact mu_iret hx hb hr hlocks hS ((by rw [hp]; exact ⟨_, _, _, _, _, hP⟩)) dX3_put_15
  · refine lv_iload_n hx hb dX3_put_4 rfl (lv_at hl 3 rfl) ?_
    refine lv_iload hx hb dX3_put_5 (lv_at hl 4 rfl) ?_
    refine lv_icmp_le (tgt := 16) hx hb dX3_put_7 (by decide) (fun c3 => ?_) (fun c3 => ?_)
    · have i4 : inN v (mx + 1) = true := in_t3 (by omega) c1 c3
      obtain ⟨vn, h_vn, rfl⟩ := in_ex i4 (by omega)
      have t_vn : tn (nI vn) = vn := tn_nI (by omega)
      refine lv_aload_n hx hb dX3_put_16 rfl (lv_at hl 1 rfl) ?_
      refine lv_iload_n hx hb dX3_put_17 rfl (lv_at hl 2 rfl) ?_
      have f5 := hWF.f3 (q)
      refine nv_iald (v := nI (X.1 3 (q))) hx hb hK hP 9 0 rfl rfl (by omega) (by decide) rfl dX3_put_18 ?_
      refine lv_istore (lv' := [(5, .int (nI (X.1 3 (q)))), (0, .ref (ad 0)), (1, .ref (ad 9)), (2, .int (nI q)), (3, .int (nI vn)), (4, .int (nI mx))]) hx hb dX3_put_19 hl (by decide) rfl (fun ls hl => ?_)
      refine lv_aload_n hx hb dX3_put_21 rfl (lv_at hl 2 rfl) ?_
      refine lv_iload_n hx hb dX3_put_22 rfl (lv_at hl 3 rfl) ?_
      refine lv_iload_n hx hb dX3_put_23 rfl (lv_at hl 4 rfl) ?_
      refine nv_iast hx hb hK hP hD hS 9 0 rfl rfl (by omega) (by decide) dX3_put_24 (fun H locs hP hD hS => ?_)
      have hP : va_P D vwCl (wX ci ad (toS X (st X.1 3 (q) (vn))) T tq la tt z) H := va_P.re (wX_o3 ci ad X T tq la tt z (q) (vn)) hP
      have hD : va_D (aX ad) (wX ci ad (toS X (st X.1 3 (q) (vn))) T tq la tt z) := wX_D hI
      refine lv_iload hx hb dX3_put_25 (lv_at hl 0 rfl) ?_
      have hp : bk X (inN (nI vn) (mx + 1)) 0 (nI (X.1 3 q), toS X (st X.1 3 q (tn (nI vn)))) = (nI (X.1 3 (q)), toS X (st X.1 3 (q) (vn))) := by simp [bk, fl_eq, c1, c3, i4, t_vn]
      refine nv_cv (show nI (X.1 3 (q)) = (bk X (inN (nI vn) (mx + 1)) 0 (nI (X.1 3 q), toS X (st X.1 3 q (tn (nI vn))))).1 from by rw [hp]) ?_
      exact mu_iret hx hb hr hlocks hS ((by rw [hp]; exact ⟨_, _, _, _, _, hP⟩)) dX3_put_27
    · have i6 : inN v (mx + 1) = false := in_f3 (by omega) c3
      refine lv_aload_n hx hb dX3_put_10 rfl (lv_at hl 0 rfl) ?_
      refine lv_iconst (v := nI (0)) hx hb dX3_put_11 (by decide) ?_
      refine mu_V (n := 1) (As := [.int (nI 0)]) (rest := []) ⟨hx, hb, hml, hown, hts⟩ (c_X3_finding l D ci G ka ad X T tq la tt z hI hG (0) hWX (by omega)) gX3_put_X3_finding rfl ⟨rfl, rfl⟩ (by decide +kernel) rfl ⟨Nat.le_of_ble_eq_true rfl, Nat.le_of_ble_eq_true rfl⟩ hE (en_S hGA hs0 hS) hK hP (ci := 3) (q0 := 0) rfl rfl hl.1 rfl (Nat.le_of_ble_eq_true rfl) dX3_put_12 ⟨Nat.zero_le _, Nat.zero_le _⟩ hS (fun _ h => h) (fun H1 locs hz hfr hB hS => ?_)
      obtain ⟨T, tq, la, tt, z, hP⟩ := hB
      generalize H1 = H at hP hS ⊢
      have hD : va_D (aX ad) (wX ci ad (toF X (inc X.2.2.2.1 0)) T tq la tt z) := wX_D hI
      have hp : bk X (inN v (mx + 1)) 0 (nI (X.1 3 q), toS X (st X.1 3 q (tn v))) = (fnd 0, toF X (inc X.2.2.2.1 0)) := by simp [bk, fl_eq, c1, c3, i6]
      refine nv_cv (show fnd 0 = (bk X (inN v (mx + 1)) 0 (nI (X.1 3 q), toS X (st X.1 3 q (tn v)))).1 from by rw [hp]) ?_
      exact mu_iret hx hb hr hlocks hS ((by rw [hp]; exact ⟨_, _, _, _, _, hP⟩)) dX3_put_15

set_option maxHeartbeats 4000000 in
set_option maxRecDepth 100000 in
/-- X3_put -/
theorem c_X3_put_3 (l : Launch) (D : va_G) (ci : Nat → ClassId) (G : Nat → Prop) (ka : Nat) (ad : Nat → Nat) (X : AS) (T : OS) (tq la tt : Nat → Int32) (z : Nat → Nat → Int32) (hI : injA ad 48) (hG : ∀ k, k < 48 → G (ad k)) (q mx : Nat) (v : Int32) (hWX : WFX X) (h_q : q < 8) (h_m : mx < 1000) : Met l yX3_put wsX3_put ({ frames := 1, cells := 0, slots := 0, locals := 21 } : Room) (va_Pc [.ref (ad 0), .ref (ad 10), .int (nI q), .int (v), .int (nI mx)] (ro_B D (tyL ci) (wX ci ad X T tq la tt z) (en D (ci 0) G ka))) (mu_Q (aX ad) (some (.int ((bk X (inN v (mx + 1)) 0 (nI (X.1 4 q), toS X (st X.1 4 q (tn v)))).1))) (fun H => ∃ T tq la tt z, va_P D vwCl (wX ci ad ((bk X (inN v (mx + 1)) 0 (nI (X.1 4 q), toS X (st X.1 4 q (tn v)))).2) T tq la tt z) H)) 0 0 (aX ad) := by
  refine mu_Met (cc := cX3_put) (maxL := 6) (ret := (some .int)) [(0, .ref (ad 0)), (1, .ref (ad 10)), (2, .int (nI q)), (3, .int (v)), (4, .int (nI mx))] (wX_D hI) (by decide) rfl (Nat.le_of_ble_eq_true rfl) rfl ?_
  intro p e s m below meth c H locs hx hb hml hr hlocks hts hown hP hK hs0 hD hS ls hl
  have hown : s.vm.findClass RX3 = some m.cls := hown
  have hE := hE_en D (ci 0) G ka
  have hWF := hWX.w
  have f_n := hWF.n
  have f_e := hWX.e
  have f_tl := hWX.t
  have hGA := aX_G hG
  have hWK := hWX.k
  refine lv_iload_n hx hb dX3_put_0 rfl (lv_at hl 3 rfl) ?_
  refine lv_if_lt (tgt := 10) hx hb dX3_put_1 (by decide) (fun c1 => ?_) (fun c1 => ?_)
  · have i2 : ∀ u9, inN v u9 = false := fun u9 => in_f0 c1
    refine lv_aload_n hx hb dX3_put_10 rfl (lv_at hl 0 rfl) ?_
    refine lv_iconst (v := nI (0)) hx hb dX3_put_11 (by decide) ?_
    refine mu_V (n := 1) (As := [.int (nI 0)]) (rest := []) ⟨hx, hb, hml, hown, hts⟩ (c_X3_finding l D ci G ka ad X T tq la tt z hI hG (0) hWX (by omega)) gX3_put_X3_finding rfl ⟨rfl, rfl⟩ (by decide +kernel) rfl ⟨Nat.le_of_ble_eq_true rfl, Nat.le_of_ble_eq_true rfl⟩ hE (en_S hGA hs0 hS) hK hP (ci := 3) (q0 := 0) rfl rfl hl.1 rfl (Nat.le_of_ble_eq_true rfl) dX3_put_12 ⟨Nat.zero_le _, Nat.zero_le _⟩ hS (fun _ h => h) (fun H1 locs hz hfr hB hS => ?_)
    obtain ⟨T, tq, la, tt, z, hP⟩ := hB
    generalize H1 = H at hP hS ⊢
    have hD : va_D (aX ad) (wX ci ad (toF X (inc X.2.2.2.1 0)) T tq la tt z) := wX_D hI
    have hp : bk X (inN v (mx + 1)) 0 (nI (X.1 4 q), toS X (st X.1 4 q (tn v))) = (fnd 0, toF X (inc X.2.2.2.1 0)) := by simp [bk, fl_eq, c1, i2]
    refine nv_cv (show fnd 0 = (bk X (inN v (mx + 1)) 0 (nI (X.1 4 q), toS X (st X.1 4 q (tn v)))).1 from by rw [hp]) ?_
    exact mu_iret hx hb hr hlocks hS ((by rw [hp]; exact ⟨_, _, _, _, _, hP⟩)) dX3_put_15
  · refine lv_iload_n hx hb dX3_put_4 rfl (lv_at hl 3 rfl) ?_
    refine lv_iload hx hb dX3_put_5 (lv_at hl 4 rfl) ?_
    refine lv_icmp_le (tgt := 16) hx hb dX3_put_7 (by decide) (fun c3 => ?_) (fun c3 => ?_)
    · have i4 : inN v (mx + 1) = true := in_t3 (by omega) c1 c3
      obtain ⟨vn, h_vn, rfl⟩ := in_ex i4 (by omega)
      have t_vn : tn (nI vn) = vn := tn_nI (by omega)
      refine lv_aload_n hx hb dX3_put_16 rfl (lv_at hl 1 rfl) ?_
      refine lv_iload_n hx hb dX3_put_17 rfl (lv_at hl 2 rfl) ?_
      have f5 := hWF.f4 (q)
      refine nv_iald (v := nI (X.1 4 (q))) hx hb hK hP 10 0 rfl rfl (by omega) (by decide) rfl dX3_put_18 ?_
      refine lv_istore (lv' := [(5, .int (nI (X.1 4 (q)))), (0, .ref (ad 0)), (1, .ref (ad 10)), (2, .int (nI q)), (3, .int (nI vn)), (4, .int (nI mx))]) hx hb dX3_put_19 hl (by decide) rfl (fun ls hl => ?_)
      refine lv_aload_n hx hb dX3_put_21 rfl (lv_at hl 2 rfl) ?_
      refine lv_iload_n hx hb dX3_put_22 rfl (lv_at hl 3 rfl) ?_
      refine lv_iload_n hx hb dX3_put_23 rfl (lv_at hl 4 rfl) ?_
      refine nv_iast hx hb hK hP hD hS 10 0 rfl rfl (by omega) (by decide) dX3_put_24 (fun H locs hP hD hS => ?_)
      have hP : va_P D vwCl (wX ci ad (toS X (st X.1 4 (q) (vn))) T tq la tt z) H := va_P.re (wX_o4 ci ad X T tq la tt z (q) (vn)) hP
      have hD : va_D (aX ad) (wX ci ad (toS X (st X.1 4 (q) (vn))) T tq la tt z) := wX_D hI
      refine lv_iload hx hb dX3_put_25 (lv_at hl 0 rfl) ?_
      have hp : bk X (inN (nI vn) (mx + 1)) 0 (nI (X.1 4 q), toS X (st X.1 4 q (tn (nI vn)))) = (nI (X.1 4 (q)), toS X (st X.1 4 (q) (vn))) := by simp [bk, fl_eq, c1, c3, i4, t_vn]
      refine nv_cv (show nI (X.1 4 (q)) = (bk X (inN (nI vn) (mx + 1)) 0 (nI (X.1 4 q), toS X (st X.1 4 q (tn (nI vn))))).1 from by rw [hp]) ?_
      exact mu_iret hx hb hr hlocks hS ((by rw [hp]; exact ⟨_, _, _, _, _, hP⟩)) dX3_put_27
    · have i6 : inN v (mx + 1) = false := in_f3 (by omega) c3
      refine lv_aload_n hx hb dX3_put_10 rfl (lv_at hl 0 rfl) ?_
      refine lv_iconst (v := nI (0)) hx hb dX3_put_11 (by decide) ?_
      refine mu_V (n := 1) (As := [.int (nI 0)]) (rest := []) ⟨hx, hb, hml, hown, hts⟩ (c_X3_finding l D ci G ka ad X T tq la tt z hI hG (0) hWX (by omega)) gX3_put_X3_finding rfl ⟨rfl, rfl⟩ (by decide +kernel) rfl ⟨Nat.le_of_ble_eq_true rfl, Nat.le_of_ble_eq_true rfl⟩ hE (en_S hGA hs0 hS) hK hP (ci := 3) (q0 := 0) rfl rfl hl.1 rfl (Nat.le_of_ble_eq_true rfl) dX3_put_12 ⟨Nat.zero_le _, Nat.zero_le _⟩ hS (fun _ h => h) (fun H1 locs hz hfr hB hS => ?_)
      obtain ⟨T, tq, la, tt, z, hP⟩ := hB
      generalize H1 = H at hP hS ⊢
      have hD : va_D (aX ad) (wX ci ad (toF X (inc X.2.2.2.1 0)) T tq la tt z) := wX_D hI
      have hp : bk X (inN v (mx + 1)) 0 (nI (X.1 4 q), toS X (st X.1 4 q (tn v))) = (fnd 0, toF X (inc X.2.2.2.1 0)) := by simp [bk, fl_eq, c1, c3, i6]
      refine nv_cv (show fnd 0 = (bk X (inN v (mx + 1)) 0 (nI (X.1 4 q), toS X (st X.1 4 q (tn v)))).1 from by rw [hp]) ?_
      exact mu_iret hx hb hr hlocks hS ((by rw [hp]; exact ⟨_, _, _, _, _, hP⟩)) dX3_put_15

set_option maxHeartbeats 4000000 in
set_option maxRecDepth 100000 in
/-- X3_put -/
theorem c_X3_put_4 (l : Launch) (D : va_G) (ci : Nat → ClassId) (G : Nat → Prop) (ka : Nat) (ad : Nat → Nat) (X : AS) (T : OS) (tq la tt : Nat → Int32) (z : Nat → Nat → Int32) (hI : injA ad 48) (hG : ∀ k, k < 48 → G (ad k)) (q mx : Nat) (v : Int32) (hWX : WFX X) (h_q : q < 8) (h_m : mx < 1000) : Met l yX3_put wsX3_put ({ frames := 1, cells := 0, slots := 0, locals := 21 } : Room) (va_Pc [.ref (ad 0), .ref (ad 11), .int (nI q), .int (v), .int (nI mx)] (ro_B D (tyL ci) (wX ci ad X T tq la tt z) (en D (ci 0) G ka))) (mu_Q (aX ad) (some (.int ((bk X (inN v (mx + 1)) 0 (nI (X.1 5 q), toS X (st X.1 5 q (tn v)))).1))) (fun H => ∃ T tq la tt z, va_P D vwCl (wX ci ad ((bk X (inN v (mx + 1)) 0 (nI (X.1 5 q), toS X (st X.1 5 q (tn v)))).2) T tq la tt z) H)) 0 0 (aX ad) := by
  refine mu_Met (cc := cX3_put) (maxL := 6) (ret := (some .int)) [(0, .ref (ad 0)), (1, .ref (ad 11)), (2, .int (nI q)), (3, .int (v)), (4, .int (nI mx))] (wX_D hI) (by decide) rfl (Nat.le_of_ble_eq_true rfl) rfl ?_
  intro p e s m below meth c H locs hx hb hml hr hlocks hts hown hP hK hs0 hD hS ls hl
  have hown : s.vm.findClass RX3 = some m.cls := hown
  have hE := hE_en D (ci 0) G ka
  have hWF := hWX.w
  have f_n := hWF.n
  have f_e := hWX.e
  have f_tl := hWX.t
  have hGA := aX_G hG
  have hWK := hWX.k
  refine lv_iload_n hx hb dX3_put_0 rfl (lv_at hl 3 rfl) ?_
  refine lv_if_lt (tgt := 10) hx hb dX3_put_1 (by decide) (fun c1 => ?_) (fun c1 => ?_)
  · have i2 : ∀ u9, inN v u9 = false := fun u9 => in_f0 c1
    refine lv_aload_n hx hb dX3_put_10 rfl (lv_at hl 0 rfl) ?_
    refine lv_iconst (v := nI (0)) hx hb dX3_put_11 (by decide) ?_
    refine mu_V (n := 1) (As := [.int (nI 0)]) (rest := []) ⟨hx, hb, hml, hown, hts⟩ (c_X3_finding l D ci G ka ad X T tq la tt z hI hG (0) hWX (by omega)) gX3_put_X3_finding rfl ⟨rfl, rfl⟩ (by decide +kernel) rfl ⟨Nat.le_of_ble_eq_true rfl, Nat.le_of_ble_eq_true rfl⟩ hE (en_S hGA hs0 hS) hK hP (ci := 3) (q0 := 0) rfl rfl hl.1 rfl (Nat.le_of_ble_eq_true rfl) dX3_put_12 ⟨Nat.zero_le _, Nat.zero_le _⟩ hS (fun _ h => h) (fun H1 locs hz hfr hB hS => ?_)
    obtain ⟨T, tq, la, tt, z, hP⟩ := hB
    generalize H1 = H at hP hS ⊢
    have hD : va_D (aX ad) (wX ci ad (toF X (inc X.2.2.2.1 0)) T tq la tt z) := wX_D hI
    have hp : bk X (inN v (mx + 1)) 0 (nI (X.1 5 q), toS X (st X.1 5 q (tn v))) = (fnd 0, toF X (inc X.2.2.2.1 0)) := by simp [bk, fl_eq, c1, i2]
    refine nv_cv (show fnd 0 = (bk X (inN v (mx + 1)) 0 (nI (X.1 5 q), toS X (st X.1 5 q (tn v)))).1 from by rw [hp]) ?_
    exact mu_iret hx hb hr hlocks hS ((by rw [hp]; exact ⟨_, _, _, _, _, hP⟩)) dX3_put_15
  · refine lv_iload_n hx hb dX3_put_4 rfl (lv_at hl 3 rfl) ?_
    refine lv_iload hx hb dX3_put_5 (lv_at hl 4 rfl) ?_
    refine lv_icmp_le (tgt := 16) hx hb dX3_put_7 (by decide) (fun c3 => ?_) (fun c3 => ?_)
    · have i4 : inN v (mx + 1) = true := in_t3 (by omega) c1 c3
      obtain ⟨vn, h_vn, rfl⟩ := in_ex i4 (by omega)
      have t_vn : tn (nI vn) = vn := tn_nI (by omega)
      refine lv_aload_n hx hb dX3_put_16 rfl (lv_at hl 1 rfl) ?_
      refine lv_iload_n hx hb dX3_put_17 rfl (lv_at hl 2 rfl) ?_
      have f5 := hWF.f5 (q)
      refine nv_iald (v := nI (X.1 5 (q))) hx hb hK hP 11 0 rfl rfl (by omega) (by decide) rfl dX3_put_18 ?_
      refine lv_istore (lv' := [(5, .int (nI (X.1 5 (q)))), (0, .ref (ad 0)), (1, .ref (ad 11)), (2, .int (nI q)), (3, .int (nI vn)), (4, .int (nI mx))]) hx hb dX3_put_19 hl (by decide) rfl (fun ls hl => ?_)
      refine lv_aload_n hx hb dX3_put_21 rfl (lv_at hl 2 rfl) ?_
      refine lv_iload_n hx hb dX3_put_22 rfl (lv_at hl 3 rfl) ?_
      refine lv_iload_n hx hb dX3_put_23 rfl (lv_at hl 4 rfl) ?_
      refine nv_iast hx hb hK hP hD hS 11 0 rfl rfl (by omega) (by decide) dX3_put_24 (fun H locs hP hD hS => ?_)
      have hP : va_P D vwCl (wX ci ad (toS X (st X.1 5 (q) (vn))) T tq la tt z) H := va_P.re (wX_o5 ci ad X T tq la tt z (q) (vn)) hP
      have hD : va_D (aX ad) (wX ci ad (toS X (st X.1 5 (q) (vn))) T tq la tt z) := wX_D hI
      refine lv_iload hx hb dX3_put_25 (lv_at hl 0 rfl) ?_
      have hp : bk X (inN (nI vn) (mx + 1)) 0 (nI (X.1 5 q), toS X (st X.1 5 q (tn (nI vn)))) = (nI (X.1 5 (q)), toS X (st X.1 5 (q) (vn))) := by simp [bk, fl_eq, c1, c3, i4, t_vn]
      refine nv_cv (show nI (X.1 5 (q)) = (bk X (inN (nI vn) (mx + 1)) 0 (nI (X.1 5 q), toS X (st X.1 5 q (tn (nI vn))))).1 from by rw [hp]) ?_
      exact mu_iret hx hb hr hlocks hS ((by rw [hp]; exact ⟨_, _, _, _, _, hP⟩)) dX3_put_27
    · have i6 : inN v (mx + 1) = false := in_f3 (by omega) c3
      refine lv_aload_n hx hb dX3_put_10 rfl (lv_at hl 0 rfl) ?_
      refine lv_iconst (v := nI (0)) hx hb dX3_put_11 (by decide) ?_
      refine mu_V (n := 1) (As := [.int (nI 0)]) (rest := []) ⟨hx, hb, hml, hown, hts⟩ (c_X3_finding l D ci G ka ad X T tq la tt z hI hG (0) hWX (by omega)) gX3_put_X3_finding rfl ⟨rfl, rfl⟩ (by decide +kernel) rfl ⟨Nat.le_of_ble_eq_true rfl, Nat.le_of_ble_eq_true rfl⟩ hE (en_S hGA hs0 hS) hK hP (ci := 3) (q0 := 0) rfl rfl hl.1 rfl (Nat.le_of_ble_eq_true rfl) dX3_put_12 ⟨Nat.zero_le _, Nat.zero_le _⟩ hS (fun _ h => h) (fun H1 locs hz hfr hB hS => ?_)
      obtain ⟨T, tq, la, tt, z, hP⟩ := hB
      generalize H1 = H at hP hS ⊢
      have hD : va_D (aX ad) (wX ci ad (toF X (inc X.2.2.2.1 0)) T tq la tt z) := wX_D hI
      have hp : bk X (inN v (mx + 1)) 0 (nI (X.1 5 q), toS X (st X.1 5 q (tn v))) = (fnd 0, toF X (inc X.2.2.2.1 0)) := by simp [bk, fl_eq, c1, c3, i6]
      refine nv_cv (show fnd 0 = (bk X (inN v (mx + 1)) 0 (nI (X.1 5 q), toS X (st X.1 5 q (tn v)))).1 from by rw [hp]) ?_
      exact mu_iret hx hb hr hlocks hS ((by rw [hp]; exact ⟨_, _, _, _, _, hP⟩)) dX3_put_15

set_option maxHeartbeats 4000000 in
set_option maxRecDepth 100000 in
/-- X3_change -/
theorem c_X3_change (l : Launch) (D : va_G) (ci : Nat → ClassId) (G : Nat → Prop) (ka : Nat) (ad : Nat → Nat) (X : AS) (T : OS) (tq la tt : Nat → Int32) (z : Nat → Nat → Int32) (hI : injA ad 48) (hG : ∀ k, k < 48 → G (ad k)) (q w v : Int32) (hWX : WFX X) : Met l yX3_change wsX3_change ({ frames := 2, cells := 0, slots := 0, locals := 46 } : Room) (va_Pc [.ref (ad 0), .int (q), .int (w), .int (v)] (ro_B D (tyL ci) (wX ci ad X T tq la tt z) (en D (ci 0) G ka))) (mu_Q (aX ad) (some (.int ((p_change X q w v).1))) (fun H => ∃ T tq la tt z, va_P D vwCl (wX ci ad ((p_change X q w v).2) T tq la tt z) H)) 0 0 (aX ad) := by
  refine mu_Met (cc := cX3_change) (maxL := 4) (ret := (some .int)) [(0, .ref (ad 0)), (1, .int (q)), (2, .int (w)), (3, .int (v))] (wX_D hI) (by decide) rfl (Nat.le_of_ble_eq_true rfl) rfl ?_
  intro p e s m below meth c H locs hx hb hml hr hlocks hts hown hP hK hs0 hD hS ls hl
  have hown : s.vm.findClass RX3 = some m.cls := hown
  have hinX0 : ∀ w ∈ wsX00, w ∈ wsX3_change := by decide +kernel
  have hinX3 : ∀ w ∈ wsX30, w ∈ wsX3_change := by decide +kernel
  have hE := hE_en D (ci 0) G ka
  have hWF := hWX.w
  have f_n := hWF.n
  have f_e := hWX.e
  have f_tl := hWX.t
  have hGA := aX_G hG
  have hWK := hWX.k
  refine lv_aload_n hx hb dX3_change_0 rfl (lv_at hl 0 rfl) ?_
  refine lv_iload_n hx hb dX3_change_1 rfl (lv_at hl 1 rfl) ?_
  refine ro_V (n := 1) (As := [.int (q)]) (rest := []) ⟨hx, hb, hml, hown, hts⟩ (c_X3_isPlayer l D ci G ka ad X T tq la tt z (q) hWX) gX3_change_X3_isPlayer rfl ⟨rfl, rfl⟩ (by decide +kernel) rfl ⟨Nat.le_of_ble_eq_true rfl, Nat.le_of_ble_eq_true rfl⟩ hE (en_S hGA hs0 hS) hK hP (ci := 3) (q0 := 0) rfl rfl hl.1 rfl (Nat.le_of_ble_eq_true rfl) dX3_change_2 ⟨Nat.zero_le _, Nat.zero_le _⟩ ?_
  refine nv_ifne_b (tgt := 14) hx hb dX3_change_5 (by decide) (fun c1 => ?_) (fun c1 => ?_)
  · obtain ⟨qn, h_qn, rfl⟩ := in_ex c1 (by omega)
    have t_qn : tn (nI qn) = qn := tn_nI (by omega)
    refine lv_iload_n hx hb dX3_change_14 rfl (lv_at hl 2 rfl) ?_
    rcases Bool.eq_false_or_eq_true (inN w 5) with i2 | i2
    · obtain ⟨wn, h_wn, rfl⟩ := in_ex i2 (by decide)
      rcases (show wn = 0 ∨ wn = 1 ∨ wn = 2 ∨ wn = 3 ∨ wn = 4 by omega) with rfl | rfl | rfl | rfl | rfl
      · have t_w : tn (nI 0) = 0 := tn_nI (by decide)
        refine lv_tableIn (x := nI 0) (off := 33) (tgt := 48) hx hb dX3_change_15 (by decide) (by decide) (by decide) (by decide) ?_
        refine lv_aload_n hx hb dX3_change_48 rfl (lv_at hl 0 rfl) ?_
        refine lv_aload_n hx hb dX3_change_49 rfl (lv_at hl 0 rfl) ?_
        refine va_get (D := D) (ci := 3) (v := .ref (ad 5)) (C := RX3) (T := TX3) (N := 9) hx hb hts hinX3 hown hK hP 0 rfl rfl 0 (by decide) (hts (.fieldLink RX3 10 "OneShort" "orchestra" "LOneShort$Orchestra;") (List.mem_of_getElem? (i := 1) rfl)) (fun _ h9 => h9) rfl dX3_change_50 ?_
        refine va_get (D := D) (ci := 0) (v := .ref (ad 7)) (C := RX0) (T := TX0) (N := 13) hx hb hts hinX0 hown hK hP 5 rfl rfl 1 (by decide) (hts (.fieldLink RX3 84 "OneShort$Orchestra" "kind" "[I") (List.mem_of_getElem? (i := 2) rfl)) (fun _ h9 => h9) rfl dX3_change_53 ?_
        refine lv_iload_n hx hb dX3_change_56 rfl (lv_at hl 1 rfl) ?_
        refine lv_iload_n hx hb dX3_change_57 rfl (lv_at hl 3 rfl) ?_
        refine lv_bipush (v := nI (6)) hx hb dX3_change_58 (by decide) ?_
        refine mu_V (n := 4) (As := [.ref (ad 7), .int (nI qn), .int (v), .int (nI 6)]) (rest := []) ⟨hx, hb, hml, hown, hts⟩ (c_X3_put_0 l D ci G ka ad X T tq la tt z hI hG (qn) (6) (v) hWX (by omega) (by omega)) gX3_change_X3_put rfl ⟨rfl, rfl⟩ (by decide +kernel) rfl ⟨Nat.le_of_ble_eq_true rfl, Nat.le_of_ble_eq_true rfl⟩ hE (en_S hGA hs0 hS) hK hP (ci := 3) (q0 := 0) rfl rfl hl.1 rfl (Nat.le_of_ble_eq_true rfl) dX3_change_60 ⟨Nat.zero_le _, Nat.zero_le _⟩ hS (fun _ h => h) (fun H1 locs hz hfr hB hS => ?_)
        obtain ⟨T, tq, la, tt, z, hP⟩ := hB
        generalize H1 = H at hP hS ⊢
        have hD : va_D (aX ad) (wX ci ad ((bk X (inN v (6 + 1)) 0 (nI (X.1 1 qn), toS X (st X.1 1 qn (tn v)))).2) T tq la tt z) := wX_D hI
        have hp : p_change X (nI qn) (nI 0) v = ((bk X (inN v (6 + 1)) 0 (nI (X.1 1 qn), toS X (st X.1 1 qn (tn v)))).1, (bk X (inN v (6 + 1)) 0 (nI (X.1 1 qn), toS X (st X.1 1 qn (tn v)))).2) := by simp only [p_change, inP, c1, t_qn, i2, t_w, lim, Bool.true_and, Bool.and_true, Bool.false_and]
        refine nv_cv (show (bk X (inN v (6 + 1)) 0 (nI (X.1 1 qn), toS X (st X.1 1 qn (tn v)))).1 = (p_change X (nI qn) (nI 0) v).1 from by rw [hp]) ?_
        exact mu_iret hx hb hr hlocks hS ((by rw [hp]; exact ⟨_, _, _, _, _, hP⟩)) dX3_change_63
      · have t_w : tn (nI 1) = 1 := tn_nI (by decide)
        refine lv_tableIn (x := nI 1) (off := 49) (tgt := 64) hx hb dX3_change_15 (by decide) (by decide) (by decide) (by decide) ?_
        refine lv_aload_n hx hb dX3_change_64 rfl (lv_at hl 0 rfl) ?_
        refine lv_aload_n hx hb dX3_change_65 rfl (lv_at hl 0 rfl) ?_
        refine va_get (D := D) (ci := 3) (v := .ref (ad 5)) (C := RX3) (T := TX3) (N := 9) hx hb hts hinX3 hown hK hP 0 rfl rfl 0 (by decide) (hts (.fieldLink RX3 10 "OneShort" "orchestra" "LOneShort$Orchestra;") (List.mem_of_getElem? (i := 1) rfl)) (fun _ h9 => h9) rfl dX3_change_66 ?_
        refine va_get (D := D) (ci := 0) (v := .ref (ad 8)) (C := RX0) (T := TX0) (N := 13) hx hb hts hinX0 hown hK hP 5 rfl rfl 2 (by decide) (hts (.fieldLink RX3 87 "OneShort$Orchestra" "seat" "[I") (List.mem_of_getElem? (i := 3) rfl)) (fun _ h9 => h9) rfl dX3_change_69 ?_
        refine lv_iload_n hx hb dX3_change_72 rfl (lv_at hl 1 rfl) ?_
        refine lv_iload_n hx hb dX3_change_73 rfl (lv_at hl 3 rfl) ?_
        refine lv_bipush (v := nI (15)) hx hb dX3_change_74 (by decide) ?_
        refine mu_V (n := 4) (As := [.ref (ad 8), .int (nI qn), .int (v), .int (nI 15)]) (rest := []) ⟨hx, hb, hml, hown, hts⟩ (c_X3_put_1 l D ci G ka ad X T tq la tt z hI hG (qn) (15) (v) hWX (by omega) (by omega)) gX3_change_X3_put rfl ⟨rfl, rfl⟩ (by decide +kernel) rfl ⟨Nat.le_of_ble_eq_true rfl, Nat.le_of_ble_eq_true rfl⟩ hE (en_S hGA hs0 hS) hK hP (ci := 3) (q0 := 0) rfl rfl hl.1 rfl (Nat.le_of_ble_eq_true rfl) dX3_change_76 ⟨Nat.zero_le _, Nat.zero_le _⟩ hS (fun _ h => h) (fun H1 locs hz hfr hB hS => ?_)
        obtain ⟨T, tq, la, tt, z, hP⟩ := hB
        generalize H1 = H at hP hS ⊢
        have hD : va_D (aX ad) (wX ci ad ((bk X (inN v (15 + 1)) 0 (nI (X.1 2 qn), toS X (st X.1 2 qn (tn v)))).2) T tq la tt z) := wX_D hI
        have hp : p_change X (nI qn) (nI 1) v = ((bk X (inN v (15 + 1)) 0 (nI (X.1 2 qn), toS X (st X.1 2 qn (tn v)))).1, (bk X (inN v (15 + 1)) 0 (nI (X.1 2 qn), toS X (st X.1 2 qn (tn v)))).2) := by simp only [p_change, inP, c1, t_qn, i2, t_w, lim, Bool.true_and, Bool.and_true, Bool.false_and]
        refine nv_cv (show (bk X (inN v (15 + 1)) 0 (nI (X.1 2 qn), toS X (st X.1 2 qn (tn v)))).1 = (p_change X (nI qn) (nI 1) v).1 from by rw [hp]) ?_
        exact mu_iret hx hb hr hlocks hS ((by rw [hp]; exact ⟨_, _, _, _, _, hP⟩)) dX3_change_79
      · have t_w : tn (nI 2) = 2 := tn_nI (by decide)
        refine lv_tableIn (x := nI 2) (off := 65) (tgt := 80) hx hb dX3_change_15 (by decide) (by decide) (by decide) (by decide) ?_
        refine lv_aload_n hx hb dX3_change_80 rfl (lv_at hl 0 rfl) ?_
        refine lv_aload_n hx hb dX3_change_81 rfl (lv_at hl 0 rfl) ?_
        refine va_get (D := D) (ci := 3) (v := .ref (ad 5)) (C := RX3) (T := TX3) (N := 9) hx hb hts hinX3 hown hK hP 0 rfl rfl 0 (by decide) (hts (.fieldLink RX3 10 "OneShort" "orchestra" "LOneShort$Orchestra;") (List.mem_of_getElem? (i := 1) rfl)) (fun _ h9 => h9) rfl dX3_change_82 ?_
        refine va_get (D := D) (ci := 0) (v := .ref (ad 9)) (C := RX0) (T := TX0) (N := 13) hx hb hts hinX0 hown hK hP 5 rfl rfl 3 (by decide) (hts (.fieldLink RX3 90 "OneShort$Orchestra" "part" "[I") (List.mem_of_getElem? (i := 4) rfl)) (fun _ h9 => h9) rfl dX3_change_85 ?_
        refine lv_iload_n hx hb dX3_change_88 rfl (lv_at hl 1 rfl) ?_
        refine lv_iload_n hx hb dX3_change_89 rfl (lv_at hl 3 rfl) ?_
        refine lv_iconst (v := nI (5)) hx hb dX3_change_90 (by decide) ?_
        refine mu_V (n := 4) (As := [.ref (ad 9), .int (nI qn), .int (v), .int (nI 5)]) (rest := []) ⟨hx, hb, hml, hown, hts⟩ (c_X3_put_2 l D ci G ka ad X T tq la tt z hI hG (qn) (5) (v) hWX (by omega) (by omega)) gX3_change_X3_put rfl ⟨rfl, rfl⟩ (by decide +kernel) rfl ⟨Nat.le_of_ble_eq_true rfl, Nat.le_of_ble_eq_true rfl⟩ hE (en_S hGA hs0 hS) hK hP (ci := 3) (q0 := 0) rfl rfl hl.1 rfl (Nat.le_of_ble_eq_true rfl) dX3_change_91 ⟨Nat.zero_le _, Nat.zero_le _⟩ hS (fun _ h => h) (fun H1 locs hz hfr hB hS => ?_)
        obtain ⟨T, tq, la, tt, z, hP⟩ := hB
        generalize H1 = H at hP hS ⊢
        have hD : va_D (aX ad) (wX ci ad ((bk X (inN v (5 + 1)) 0 (nI (X.1 3 qn), toS X (st X.1 3 qn (tn v)))).2) T tq la tt z) := wX_D hI
        have hp : p_change X (nI qn) (nI 2) v = ((bk X (inN v (5 + 1)) 0 (nI (X.1 3 qn), toS X (st X.1 3 qn (tn v)))).1, (bk X (inN v (5 + 1)) 0 (nI (X.1 3 qn), toS X (st X.1 3 qn (tn v)))).2) := by simp only [p_change, inP, c1, t_qn, i2, t_w, lim, Bool.true_and, Bool.and_true, Bool.false_and]
        refine nv_cv (show (bk X (inN v (5 + 1)) 0 (nI (X.1 3 qn), toS X (st X.1 3 qn (tn v)))).1 = (p_change X (nI qn) (nI 2) v).1 from by rw [hp]) ?_
        exact mu_iret hx hb hr hlocks hS ((by rw [hp]; exact ⟨_, _, _, _, _, hP⟩)) dX3_change_94
      · have t_w : tn (nI 3) = 3 := tn_nI (by decide)
        refine lv_tableIn (x := nI 3) (off := 80) (tgt := 95) hx hb dX3_change_15 (by decide) (by decide) (by decide) (by decide) ?_
        refine lv_aload_n hx hb dX3_change_95 rfl (lv_at hl 0 rfl) ?_
        refine lv_aload_n hx hb dX3_change_96 rfl (lv_at hl 0 rfl) ?_
        refine va_get (D := D) (ci := 3) (v := .ref (ad 5)) (C := RX3) (T := TX3) (N := 9) hx hb hts hinX3 hown hK hP 0 rfl rfl 0 (by decide) (hts (.fieldLink RX3 10 "OneShort" "orchestra" "LOneShort$Orchestra;") (List.mem_of_getElem? (i := 1) rfl)) (fun _ h9 => h9) rfl dX3_change_97 ?_
        refine va_get (D := D) (ci := 0) (v := .ref (ad 10)) (C := RX0) (T := TX0) (N := 13) hx hb hts hinX0 hown hK hP 5 rfl rfl 4 (by decide) (hts (.fieldLink RX3 93 "OneShort$Orchestra" "loud" "[I") (List.mem_of_getElem? (i := 5) rfl)) (fun _ h9 => h9) rfl dX3_change_100 ?_
        refine lv_iload_n hx hb dX3_change_103 rfl (lv_at hl 1 rfl) ?_
        refine lv_iload_n hx hb dX3_change_104 rfl (lv_at hl 3 rfl) ?_
        refine lv_bipush (v := nI (9)) hx hb dX3_change_105 (by decide) ?_
        refine mu_V (n := 4) (As := [.ref (ad 10), .int (nI qn), .int (v), .int (nI 9)]) (rest := []) ⟨hx, hb, hml, hown, hts⟩ (c_X3_put_3 l D ci G ka ad X T tq la tt z hI hG (qn) (9) (v) hWX (by omega) (by omega)) gX3_change_X3_put rfl ⟨rfl, rfl⟩ (by decide +kernel) rfl ⟨Nat.le_of_ble_eq_true rfl, Nat.le_of_ble_eq_true rfl⟩ hE (en_S hGA hs0 hS) hK hP (ci := 3) (q0 := 0) rfl rfl hl.1 rfl (Nat.le_of_ble_eq_true rfl) dX3_change_107 ⟨Nat.zero_le _, Nat.zero_le _⟩ hS (fun _ h => h) (fun H1 locs hz hfr hB hS => ?_)
        obtain ⟨T, tq, la, tt, z, hP⟩ := hB
        generalize H1 = H at hP hS ⊢
        have hD : va_D (aX ad) (wX ci ad ((bk X (inN v (9 + 1)) 0 (nI (X.1 4 qn), toS X (st X.1 4 qn (tn v)))).2) T tq la tt z) := wX_D hI
        have hp : p_change X (nI qn) (nI 3) v = ((bk X (inN v (9 + 1)) 0 (nI (X.1 4 qn), toS X (st X.1 4 qn (tn v)))).1, (bk X (inN v (9 + 1)) 0 (nI (X.1 4 qn), toS X (st X.1 4 qn (tn v)))).2) := by simp only [p_change, inP, c1, t_qn, i2, t_w, lim, Bool.true_and, Bool.and_true, Bool.false_and]
        refine nv_cv (show (bk X (inN v (9 + 1)) 0 (nI (X.1 4 qn), toS X (st X.1 4 qn (tn v)))).1 = (p_change X (nI qn) (nI 3) v).1 from by rw [hp]) ?_
        exact mu_iret hx hb hr hlocks hS ((by rw [hp]; exact ⟨_, _, _, _, _, hP⟩)) dX3_change_110
      · have t_w : tn (nI 4) = 4 := tn_nI (by decide)
        refine lv_tableIn (x := nI 4) (off := 96) (tgt := 111) hx hb dX3_change_15 (by decide) (by decide) (by decide) (by decide) ?_
        refine lv_aload_n hx hb dX3_change_111 rfl (lv_at hl 0 rfl) ?_
        refine lv_aload_n hx hb dX3_change_112 rfl (lv_at hl 0 rfl) ?_
        refine va_get (D := D) (ci := 3) (v := .ref (ad 5)) (C := RX3) (T := TX3) (N := 9) hx hb hts hinX3 hown hK hP 0 rfl rfl 0 (by decide) (hts (.fieldLink RX3 10 "OneShort" "orchestra" "LOneShort$Orchestra;") (List.mem_of_getElem? (i := 1) rfl)) (fun _ h9 => h9) rfl dX3_change_113 ?_
        refine va_get (D := D) (ci := 0) (v := .ref (ad 11)) (C := RX0) (T := TX0) (N := 13) hx hb hts hinX0 hown hK hP 5 rfl rfl 5 (by decide) (hts (.fieldLink RX3 96 "OneShort$Orchestra" "nerve" "[I") (List.mem_of_getElem? (i := 6) rfl)) (fun _ h9 => h9) rfl dX3_change_116 ?_
        refine lv_iload_n hx hb dX3_change_119 rfl (lv_at hl 1 rfl) ?_
        refine lv_iload_n hx hb dX3_change_120 rfl (lv_at hl 3 rfl) ?_
        refine lv_bipush (v := nI (99)) hx hb dX3_change_121 (by decide) ?_
        refine mu_V (n := 4) (As := [.ref (ad 11), .int (nI qn), .int (v), .int (nI 99)]) (rest := []) ⟨hx, hb, hml, hown, hts⟩ (c_X3_put_4 l D ci G ka ad X T tq la tt z hI hG (qn) (99) (v) hWX (by omega) (by omega)) gX3_change_X3_put rfl ⟨rfl, rfl⟩ (by decide +kernel) rfl ⟨Nat.le_of_ble_eq_true rfl, Nat.le_of_ble_eq_true rfl⟩ hE (en_S hGA hs0 hS) hK hP (ci := 3) (q0 := 0) rfl rfl hl.1 rfl (Nat.le_of_ble_eq_true rfl) dX3_change_123 ⟨Nat.zero_le _, Nat.zero_le _⟩ hS (fun _ h => h) (fun H1 locs hz hfr hB hS => ?_)
        obtain ⟨T, tq, la, tt, z, hP⟩ := hB
        generalize H1 = H at hP hS ⊢
        have hD : va_D (aX ad) (wX ci ad ((bk X (inN v (99 + 1)) 0 (nI (X.1 5 qn), toS X (st X.1 5 qn (tn v)))).2) T tq la tt z) := wX_D hI
        have hp : p_change X (nI qn) (nI 4) v = ((bk X (inN v (99 + 1)) 0 (nI (X.1 5 qn), toS X (st X.1 5 qn (tn v)))).1, (bk X (inN v (99 + 1)) 0 (nI (X.1 5 qn), toS X (st X.1 5 qn (tn v)))).2) := by simp only [p_change, inP, c1, t_qn, i2, t_w, lim, Bool.true_and, Bool.and_true, Bool.false_and]
        refine nv_cv (show (bk X (inN v (99 + 1)) 0 (nI (X.1 5 qn), toS X (st X.1 5 qn (tn v)))).1 = (p_change X (nI qn) (nI 4) v).1 from by rw [hp]) ?_
        exact mu_iret hx hb hr hlocks hS ((by rw [hp]; exact ⟨_, _, _, _, _, hP⟩)) dX3_change_126
    · refine lv_tableOut (tgt := 127) hx hb dX3_change_15 (tsw_out i2) (by decide) ?_
      refine lv_aload_n hx hb dX3_change_127 rfl (lv_at hl 0 rfl) ?_
      refine lv_iconst (v := nI (0)) hx hb dX3_change_128 (by decide) ?_
      refine mu_V (n := 1) (As := [.int (nI 0)]) (rest := []) ⟨hx, hb, hml, hown, hts⟩ (c_X3_finding l D ci G ka ad X T tq la tt z hI hG (0) hWX (by omega)) gX3_change_X3_finding rfl ⟨rfl, rfl⟩ (by decide +kernel) rfl ⟨Nat.le_of_ble_eq_true rfl, Nat.le_of_ble_eq_true rfl⟩ hE (en_S hGA hs0 hS) hK hP (ci := 3) (q0 := 0) rfl rfl hl.1 rfl (Nat.le_of_ble_eq_true rfl) dX3_change_129 ⟨Nat.zero_le _, Nat.zero_le _⟩ hS (fun _ h => h) (fun H1 locs hz hfr hB hS => ?_)
      obtain ⟨T, tq, la, tt, z, hP⟩ := hB
      generalize H1 = H at hP hS ⊢
      have hD : va_D (aX ad) (wX ci ad (toF X (inc X.2.2.2.1 0)) T tq la tt z) := wX_D hI
      have hp : p_change X (nI qn) w v = (fnd 0, toF X (inc X.2.2.2.1 0)) := by simp [p_change, inP, bk, fl_eq, c1, t_qn, i2]
      refine nv_cv (show fnd 0 = (p_change X (nI qn) w v).1 from by rw [hp]) ?_
      exact mu_iret hx hb hr hlocks hS ((by rw [hp]; exact ⟨_, _, _, _, _, hP⟩)) dX3_change_132
  · refine lv_aload_n hx hb dX3_change_8 rfl (lv_at hl 0 rfl) ?_
    refine lv_iconst (v := nI (0)) hx hb dX3_change_9 (by decide) ?_
    refine mu_V (n := 1) (As := [.int (nI 0)]) (rest := []) ⟨hx, hb, hml, hown, hts⟩ (c_X3_finding l D ci G ka ad X T tq la tt z hI hG (0) hWX (by omega)) gX3_change_X3_finding rfl ⟨rfl, rfl⟩ (by decide +kernel) rfl ⟨Nat.le_of_ble_eq_true rfl, Nat.le_of_ble_eq_true rfl⟩ hE (en_S hGA hs0 hS) hK hP (ci := 3) (q0 := 0) rfl rfl hl.1 rfl (Nat.le_of_ble_eq_true rfl) dX3_change_10 ⟨Nat.zero_le _, Nat.zero_le _⟩ hS (fun _ h => h) (fun H1 locs hz hfr hB hS => ?_)
    obtain ⟨T, tq, la, tt, z, hP⟩ := hB
    generalize H1 = H at hP hS ⊢
    have hD : va_D (aX ad) (wX ci ad (toF X (inc X.2.2.2.1 0)) T tq la tt z) := wX_D hI
    have hp : p_change X q w v = (fnd 0, toF X (inc X.2.2.2.1 0)) := by simp [p_change, inP, bk, fl_eq, c1]
    refine nv_cv (show fnd 0 = (p_change X q w v).1 from by rw [hp]) ?_
    exact mu_iret hx hb hr hlocks hS ((by rw [hp]; exact ⟨_, _, _, _, _, hP⟩)) dX3_change_13

set_option maxHeartbeats 4000000 in
set_option maxRecDepth 100000 in
/-- X3_go -/
theorem c_X3_go (l : Launch) (D : va_G) (ci : Nat → ClassId) (G : Nat → Prop) (ka : Nat) (ad : Nat → Nat) (X : AS) (T : OS) (tq la tt : Nat → Int32) (z : Nat → Nat → Int32) (hI : injA ad 48) (hG : ∀ k, k < 48 → G (ad k)) (n : Int32) (hWX : WFX X) : Met l yX3_go wsX3_go ({ frames := 5, cells := 0, slots := 0, locals := 130 } : Room) (va_Pc [.ref (ad 0), .int (n)] (ro_B D (tyL ci) (wX ci ad X T tq la tt z) (en D (ci 0) G ka))) (mu_Q (aX ad) (some (.int ((p_go X n).1))) (fun H => ∃ T tq la tt z, va_P D vwCl (wX ci ad ((p_go X n).2) T tq la tt z) H)) 0 0 (aX ad) := by
  refine mu_Met (cc := cX3_go) (maxL := 2) (ret := (some .int)) [(0, .ref (ad 0)), (1, .int (n))] (wX_D hI) (by decide) rfl (Nat.le_of_ble_eq_true rfl) rfl ?_
  intro p e s m below meth c H locs hx hb hml hr hlocks hts hown hP hK hs0 hD hS ls hl
  have hown : s.vm.findClass RX3 = some m.cls := hown
  have hinX0 : ∀ w ∈ wsX00, w ∈ wsX3_go := by decide +kernel
  have hinX3 : ∀ w ∈ wsX30, w ∈ wsX3_go := by decide +kernel
  have hE := hE_en D (ci 0) G ka
  have hWF := hWX.w
  have f_n := hWF.n
  have f_e := hWX.e
  have f_tl := hWX.t
  have hGA := aX_G hG
  have hWK := hWX.k
  refine lv_iload_n hx hb dX3_go_0 rfl (lv_at hl 1 rfl) ?_
  refine lv_iconst (v := nI (1)) hx hb dX3_go_1 (by decide) ?_
  refine lv_icmp_lt (tgt := 11) hx hb dX3_go_2 (by decide) (fun c1 => ?_) (fun c1 => ?_)
  · have i2 : ∀ u9, inR n 1 u9 = false := fun u9 => inR_f0 (by decide) c1
    refine lv_aload_n hx hb dX3_go_11 rfl (lv_at hl 0 rfl) ?_
    refine lv_iconst (v := nI (0)) hx hb dX3_go_12 (by decide) ?_
    refine mu_V (n := 1) (As := [.int (nI 0)]) (rest := []) ⟨hx, hb, hml, hown, hts⟩ (c_X3_finding l D ci G ka ad X T tq la tt z hI hG (0) hWX (by omega)) gX3_go_X3_finding rfl ⟨rfl, rfl⟩ (by decide +kernel) rfl ⟨Nat.le_of_ble_eq_true rfl, Nat.le_of_ble_eq_true rfl⟩ hE (en_S hGA hs0 hS) hK hP (ci := 3) (q0 := 0) rfl rfl hl.1 rfl (Nat.le_of_ble_eq_true rfl) dX3_go_13 ⟨Nat.zero_le _, Nat.zero_le _⟩ hS (fun _ h => h) (fun H1 locs hz hfr hB hS => ?_)
    obtain ⟨T, tq, la, tt, z, hP⟩ := hB
    generalize H1 = H at hP hS ⊢
    have hD : va_D (aX ad) (wX ci ad (toF X (inc X.2.2.2.1 0)) T tq la tt z) := wX_D hI
    have hp : p_go X n = (fnd 0, toF X (inc X.2.2.2.1 0)) := by first | (simp [p_go, bk, fl_eq, c1, i2]; done) | (simp [p_go, bk, fl_eq, sNerve, decide_eq_true (show X.1 8 0 + nn ≤ 99999 by omega), c1, i2]; done) | (simp [p_go, bk, fl_eq, decide_eq_false (show ¬ X.1 8 0 + nn ≤ 99999 by omega), c1, i2]; done)
    refine nv_cv (show fnd 0 = (p_go X n).1 from by rw [hp]) ?_
    exact mu_iret hx hb hr hlocks hS ((by rw [hp]; exact ⟨_, _, _, _, _, hP⟩)) dX3_go_16
  · refine lv_iload_n hx hb dX3_go_5 rfl (lv_at hl 1 rfl) ?_
    refine lv_bipush (v := nI (20)) hx hb dX3_go_6 (by decide) ?_
    refine lv_icmp_le (tgt := 17) hx hb dX3_go_8 (by decide) (fun c3 => ?_) (fun c3 => ?_)
    · have i4 : inR n 1 20 = true := inR_t (by decide) (by decide) c1 c3
      obtain ⟨nn, h_nn, h_nn2, rfl⟩ := inR_ex i4 (by decide)
      have t_nn : tn (nI nn) = nn := tn_nI (by omega)
      refine lv_aload_n hx hb dX3_go_17 rfl (lv_at hl 0 rfl) ?_
      refine va_get (D := D) (ci := 3) (v := .ref (ad 5)) (C := RX3) (T := TX3) (N := 9) hx hb hts hinX3 hown hK hP 0 rfl rfl 0 (by decide) (hts (.fieldLink RX3 10 "OneShort" "orchestra" "LOneShort$Orchestra;") (List.mem_of_getElem? (i := 1) rfl)) (fun _ h9 => h9) rfl dX3_go_18 ?_
      refine va_get (D := D) (ci := 0) (v := .int (nI (X.1 8 0))) (C := RX0) (T := TX0) (N := 13) hx hb hts hinX0 hown hK hP 5 rfl rfl 8 (by decide) (hts (.fieldLink RX3 132 "OneShort$Orchestra" "evening" "I") (List.mem_of_getElem? (i := 2) rfl)) (fun _ h9 => h9) rfl dX3_go_21 ?_
      refine lv_ldc (v := nI (99999)) hx hb hown (hts (.constant RX3 135 (99999)) (List.mem_of_getElem? (i := 3) rfl)) dX3_go_24 ?_
      refine lv_iload_n hx hb dX3_go_26 rfl (lv_at hl 1 rfl) ?_
      refine nv_isub hx hb (by omega) dX3_go_27 ?_
      refine nv_icmp_le (tgt := 37) hx hb (by omega) (by omega) dX3_go_28 (by decide) (fun c5 => ?_) (fun c5 => ?_)
      · refine lv_aload_n hx hb dX3_go_37 rfl (lv_at hl 0 rfl) ?_
        refine va_get (D := D) (ci := 3) (v := .ref (ad 5)) (C := RX3) (T := TX3) (N := 9) hx hb hts hinX3 hown hK hP 0 rfl rfl 0 (by decide) (hts (.fieldLink RX3 10 "OneShort" "orchestra" "LOneShort$Orchestra;") (List.mem_of_getElem? (i := 1) rfl)) (fun _ h9 => h9) rfl dX3_go_38 ?_
        refine lv_iload_n hx hb dX3_go_41 rfl (lv_at hl 1 rfl) ?_
        refine mu_V (n := 1) (As := [.int (nI nn)]) (rest := []) ⟨hx, hb, hml, hown, hts⟩ (c_X0_passEvenings l D ci G ka (sh ad 5) X.1 (z 0) (z 1) (z 2) (injA_sh hI (by decide)) (G_sh hG (by decide)) (nn) hWF (by omega)) gX3_go_X0_passEvenings rfl ⟨rfl, rfl⟩ (by decide +kernel) rfl ⟨Nat.le_of_ble_eq_true rfl, Nat.le_of_ble_eq_true rfl⟩ hE (en_S hGA hs0 hS) hK (wX_s5 hP) (ci := 0) (q0 := 0) rfl rfl hl.1 rfl (Nat.le_of_ble_eq_true rfl) dX3_go_42 ⟨Nat.zero_le _, Nat.zero_le _⟩ hS (fun q h => aR_X (by decide) q (aO_sh q h)) (fun H1 locs hz hfr hB hS => ?_)
        obtain ⟨w9, r9, nb9, hB⟩ := hB
        have hP := wX_j5 hI hP hfr hB
        obtain ⟨z, hP⟩ : ∃ z, va_P D vwCl (wX ci ad (toS X (evCn X.1 nn)) T tq la tt z) H1 := ⟨_, hP⟩
        generalize H1 = H at hP hS ⊢
        have hD : va_D (aX ad) (wX ci ad (toS X (evCn X.1 nn)) T tq la tt z) := wX_D hI
        refine lv_aload_n hx hb dX3_go_45 rfl (lv_at hl 0 rfl) ?_
        refine va_get (D := D) (ci := 3) (v := .ref (ad 5)) (C := RX3) (T := TX3) (N := 9) hx hb hts hinX3 hown hK hP 0 rfl rfl 0 (by decide) (hts (.fieldLink RX3 10 "OneShort" "orchestra" "LOneShort$Orchestra;") (List.mem_of_getElem? (i := 1) rfl)) (fun _ h9 => h9) rfl dX3_go_46 ?_
        refine ro_V (n := 0) (As := []) (rest := []) ⟨hx, hb, hml, hown, hts⟩ (c_X0_allNerve l D ci G ka (sh ad 5) (evCn X.1 nn) (z 0) (z 1) (z 2)  (WF_evCn hWF _)) gX3_go_X0_allNerve rfl ⟨rfl, rfl⟩ (by decide +kernel) rfl ⟨Nat.le_of_ble_eq_true rfl, Nat.le_of_ble_eq_true rfl⟩ hE (en_S hGA hs0 hS) hK (wX_s5 hP) (ci := 0) (q0 := 0) rfl rfl hl.1 rfl (Nat.le_of_ble_eq_true rfl) dX3_go_49 ⟨Nat.zero_le _, Nat.zero_le _⟩ ?_
        have hp : p_go X (nI nn) = (nI (sumTo (fun q => (evCn X.1 nn) 5 q) ((evCn X.1 nn) 7 0)), toS X (evCn X.1 nn)) := by first | (simp [p_go, bk, fl_eq, c1, c3, c5, i4, t_nn]; done) | (simp [p_go, bk, fl_eq, sNerve, decide_eq_true (show X.1 8 0 + nn ≤ 99999 by omega), c1, c3, c5, i4, t_nn]; done) | (simp [p_go, bk, fl_eq, decide_eq_false (show ¬ X.1 8 0 + nn ≤ 99999 by omega), c1, c3, c5, i4, t_nn]; done)
        refine nv_cv (show nI (sumTo (fun q => (evCn X.1 nn) 5 q) ((evCn X.1 nn) 7 0)) = (p_go X (nI nn)).1 from by rw [hp]) ?_
        exact mu_iret hx hb hr hlocks hS ((by rw [hp]; exact ⟨_, _, _, _, _, hP⟩)) dX3_go_52
      · refine lv_aload_n hx hb dX3_go_31 rfl (lv_at hl 0 rfl) ?_
        refine lv_iconst (v := nI (4)) hx hb dX3_go_32 (by decide) ?_
        refine mu_V (n := 1) (As := [.int (nI 4)]) (rest := []) ⟨hx, hb, hml, hown, hts⟩ (c_X3_finding l D ci G ka ad X T tq la tt z hI hG (4) hWX (by omega)) gX3_go_X3_finding rfl ⟨rfl, rfl⟩ (by decide +kernel) rfl ⟨Nat.le_of_ble_eq_true rfl, Nat.le_of_ble_eq_true rfl⟩ hE (en_S hGA hs0 hS) hK hP (ci := 3) (q0 := 0) rfl rfl hl.1 rfl (Nat.le_of_ble_eq_true rfl) dX3_go_33 ⟨Nat.zero_le _, Nat.zero_le _⟩ hS (fun _ h => h) (fun H1 locs hz hfr hB hS => ?_)
        obtain ⟨T, tq, la, tt, z, hP⟩ := hB
        generalize H1 = H at hP hS ⊢
        have hD : va_D (aX ad) (wX ci ad (toF X (inc X.2.2.2.1 4)) T tq la tt z) := wX_D hI
        have hp : p_go X (nI nn) = (fnd 4, toF X (inc X.2.2.2.1 4)) := by first | (simp [p_go, bk, fl_eq, c1, c3, c5, i4, t_nn]; done) | (simp [p_go, bk, fl_eq, sNerve, decide_eq_true (show X.1 8 0 + nn ≤ 99999 by omega), c1, c3, c5, i4, t_nn]; done) | (simp [p_go, bk, fl_eq, decide_eq_false (show ¬ X.1 8 0 + nn ≤ 99999 by omega), c1, c3, c5, i4, t_nn]; done)
        refine nv_cv (show fnd 4 = (p_go X (nI nn)).1 from by rw [hp]) ?_
        exact mu_iret hx hb hr hlocks hS ((by rw [hp]; exact ⟨_, _, _, _, _, hP⟩)) dX3_go_36
    · have i6 : inR n 1 20 = false := inR_f1 (by decide) c3
      refine lv_aload_n hx hb dX3_go_11 rfl (lv_at hl 0 rfl) ?_
      refine lv_iconst (v := nI (0)) hx hb dX3_go_12 (by decide) ?_
      refine mu_V (n := 1) (As := [.int (nI 0)]) (rest := []) ⟨hx, hb, hml, hown, hts⟩ (c_X3_finding l D ci G ka ad X T tq la tt z hI hG (0) hWX (by omega)) gX3_go_X3_finding rfl ⟨rfl, rfl⟩ (by decide +kernel) rfl ⟨Nat.le_of_ble_eq_true rfl, Nat.le_of_ble_eq_true rfl⟩ hE (en_S hGA hs0 hS) hK hP (ci := 3) (q0 := 0) rfl rfl hl.1 rfl (Nat.le_of_ble_eq_true rfl) dX3_go_13 ⟨Nat.zero_le _, Nat.zero_le _⟩ hS (fun _ h => h) (fun H1 locs hz hfr hB hS => ?_)
      obtain ⟨T, tq, la, tt, z, hP⟩ := hB
      generalize H1 = H at hP hS ⊢
      have hD : va_D (aX ad) (wX ci ad (toF X (inc X.2.2.2.1 0)) T tq la tt z) := wX_D hI
      have hp : p_go X n = (fnd 0, toF X (inc X.2.2.2.1 0)) := by first | (simp [p_go, bk, fl_eq, c1, c3, i6]; done) | (simp [p_go, bk, fl_eq, sNerve, decide_eq_true (show X.1 8 0 + nn ≤ 99999 by omega), c1, c3, i6]; done) | (simp [p_go, bk, fl_eq, decide_eq_false (show ¬ X.1 8 0 + nn ≤ 99999 by omega), c1, c3, i6]; done)
      refine nv_cv (show fnd 0 = (p_go X n).1 from by rw [hp]) ?_
      exact mu_iret hx hb hr hlocks hS ((by rw [hp]; exact ⟨_, _, _, _, _, hP⟩)) dX3_go_16

set_option maxHeartbeats 4000000 in
set_option maxRecDepth 100000 in
/-- X3_ahead -/
theorem c_X3_ahead (l : Launch) (D : va_G) (ci : Nat → ClassId) (G : Nat → Prop) (ka : Nat) (ad : Nat → Nat) (X : AS) (T : OS) (tq la tt : Nat → Int32) (z : Nat → Nat → Int32) (hI : injA ad 48) (hG : ∀ k, k < 48 → G (ad k)) (q n : Int32) (hWX : WFX X) : Met l yX3_ahead wsX3_ahead ({ frames := 5, cells := 0, slots := 0, locals := 130 } : Room) (va_Pc [.ref (ad 0), .int (q), .int (n)] (ro_B D (tyL ci) (wX ci ad X T tq la tt z) (en D (ci 0) G ka))) (mu_Q (aX ad) (some (.int ((p_ahead X q n).1))) (fun H => ∃ T tq la tt z, va_P D vwCl (wX ci ad ((p_ahead X q n).2) T tq la tt z) H)) 0 0 (aX ad) := by
  refine mu_Met (cc := cX3_ahead) (maxL := 3) (ret := (some .int)) [(0, .ref (ad 0)), (1, .int (q)), (2, .int (n))] (wX_D hI) (by decide) rfl (Nat.le_of_ble_eq_true rfl) rfl ?_
  intro p e s m below meth c H locs hx hb hml hr hlocks hts hown hP hK hs0 hD hS ls hl
  have hown : s.vm.findClass RX3 = some m.cls := hown
  have hinX0 : ∀ w ∈ wsX00, w ∈ wsX3_ahead := by decide +kernel
  have hinX3 : ∀ w ∈ wsX30, w ∈ wsX3_ahead := by decide +kernel
  have hE := hE_en D (ci 0) G ka
  have hWF := hWX.w
  have f_n := hWF.n
  have f_e := hWX.e
  have f_tl := hWX.t
  have hGA := aX_G hG
  have hWK := hWX.k
  refine lv_aload_n hx hb dX3_ahead_0 rfl (lv_at hl 0 rfl) ?_
  refine lv_iload_n hx hb dX3_ahead_1 rfl (lv_at hl 1 rfl) ?_
  refine ro_V (n := 1) (As := [.int (q)]) (rest := []) ⟨hx, hb, hml, hown, hts⟩ (c_X3_isPlayer l D ci G ka ad X T tq la tt z (q) hWX) gX3_ahead_X3_isPlayer rfl ⟨rfl, rfl⟩ (by decide +kernel) rfl ⟨Nat.le_of_ble_eq_true rfl, Nat.le_of_ble_eq_true rfl⟩ hE (en_S hGA hs0 hS) hK hP (ci := 3) (q0 := 0) rfl rfl hl.1 rfl (Nat.le_of_ble_eq_true rfl) dX3_ahead_2 ⟨Nat.zero_le _, Nat.zero_le _⟩ ?_
  refine nv_ifeq_b (tgt := 18) hx hb dX3_ahead_5 (by decide) (fun c1 => ?_) (fun c1 => ?_)
  · refine lv_aload_n hx hb dX3_ahead_18 rfl (lv_at hl 0 rfl) ?_
    refine lv_iconst (v := nI (0)) hx hb dX3_ahead_19 (by decide) ?_
    refine mu_V (n := 1) (As := [.int (nI 0)]) (rest := []) ⟨hx, hb, hml, hown, hts⟩ (c_X3_finding l D ci G ka ad X T tq la tt z hI hG (0) hWX (by omega)) gX3_ahead_X3_finding rfl ⟨rfl, rfl⟩ (by decide +kernel) rfl ⟨Nat.le_of_ble_eq_true rfl, Nat.le_of_ble_eq_true rfl⟩ hE (en_S hGA hs0 hS) hK hP (ci := 3) (q0 := 0) rfl rfl hl.1 rfl (Nat.le_of_ble_eq_true rfl) dX3_ahead_20 ⟨Nat.zero_le _, Nat.zero_le _⟩ hS (fun _ h => h) (fun H1 locs hz hfr hB hS => ?_)
    obtain ⟨T, tq, la, tt, z, hP⟩ := hB
    generalize H1 = H at hP hS ⊢
    have hD : va_D (aX ad) (wX ci ad (toF X (inc X.2.2.2.1 0)) T tq la tt z) := wX_D hI
    have hp : p_ahead X q n = (fnd 0, toF X (inc X.2.2.2.1 0)) := by first | (simp [p_ahead, bk, fl_eq, inP, c1]; done) | (simp [p_ahead, bk, fl_eq, inP, c1] <;> omega)
    refine nv_cv (show fnd 0 = (p_ahead X q n).1 from by rw [hp]) ?_
    exact mu_iret hx hb hr hlocks hS ((by rw [hp]; exact ⟨_, _, _, _, _, hP⟩)) dX3_ahead_23
  · obtain ⟨qn, h_qn, rfl⟩ := in_ex c1 (by omega)
    have t_qn : tn (nI qn) = qn := tn_nI (by omega)
    refine lv_iload_n hx hb dX3_ahead_8 rfl (lv_at hl 2 rfl) ?_
    refine lv_if_lt (tgt := 18) hx hb dX3_ahead_9 (by decide) (fun c2 => ?_) (fun c2 => ?_)
    · have i3 : ∀ u9, inN n u9 = false := fun u9 => in_f0 c2
      refine lv_aload_n hx hb dX3_ahead_18 rfl (lv_at hl 0 rfl) ?_
      refine lv_iconst (v := nI (0)) hx hb dX3_ahead_19 (by decide) ?_
      refine mu_V (n := 1) (As := [.int (nI 0)]) (rest := []) ⟨hx, hb, hml, hown, hts⟩ (c_X3_finding l D ci G ka ad X T tq la tt z hI hG (0) hWX (by omega)) gX3_ahead_X3_finding rfl ⟨rfl, rfl⟩ (by decide +kernel) rfl ⟨Nat.le_of_ble_eq_true rfl, Nat.le_of_ble_eq_true rfl⟩ hE (en_S hGA hs0 hS) hK hP (ci := 3) (q0 := 0) rfl rfl hl.1 rfl (Nat.le_of_ble_eq_true rfl) dX3_ahead_20 ⟨Nat.zero_le _, Nat.zero_le _⟩ hS (fun _ h => h) (fun H1 locs hz hfr hB hS => ?_)
      obtain ⟨T, tq, la, tt, z, hP⟩ := hB
      generalize H1 = H at hP hS ⊢
      have hD : va_D (aX ad) (wX ci ad (toF X (inc X.2.2.2.1 0)) T tq la tt z) := wX_D hI
      have hp : p_ahead X (nI qn) n = (fnd 0, toF X (inc X.2.2.2.1 0)) := by first | (simp [p_ahead, bk, fl_eq, inP, c1, c2, t_qn, i3]; done) | (simp [p_ahead, bk, fl_eq, inP, c1, c2, t_qn, i3] <;> omega)
      refine nv_cv (show fnd 0 = (p_ahead X (nI qn) n).1 from by rw [hp]) ?_
      exact mu_iret hx hb hr hlocks hS ((by rw [hp]; exact ⟨_, _, _, _, _, hP⟩)) dX3_ahead_23
    · refine lv_iload_n hx hb dX3_ahead_12 rfl (lv_at hl 2 rfl) ?_
      refine lv_bipush (v := nI (40)) hx hb dX3_ahead_13 (by decide) ?_
      refine lv_icmp_le (tgt := 24) hx hb dX3_ahead_15 (by decide) (fun c4 => ?_) (fun c4 => ?_)
      · have i5 : inN n 41 = true := in_t3 (by omega) c2 c4
        obtain ⟨nn, h_nn, rfl⟩ := in_ex i5 (by omega)
        have t_nn : tn (nI nn) = nn := tn_nI (by omega)
        refine lv_aload_n hx hb dX3_ahead_24 rfl (lv_at hl 0 rfl) ?_
        refine va_get (D := D) (ci := 3) (v := .ref (ad 16)) (C := RX3) (T := TX3) (N := 9) hx hb hts hinX3 hown hK hP 0 rfl rfl 1 (by decide) (hts (.fieldLink RX3 16 "OneShort" "trial" "LOneShort$Orchestra;") (List.mem_of_getElem? (i := 1) rfl)) (fun _ h9 => h9) rfl dX3_ahead_25 ?_
        refine lv_aload_n hx hb dX3_ahead_28 rfl (lv_at hl 0 rfl) ?_
        refine va_get (D := D) (ci := 3) (v := .ref (ad 5)) (C := RX3) (T := TX3) (N := 9) hx hb hts hinX3 hown hK hP 0 rfl rfl 0 (by decide) (hts (.fieldLink RX3 10 "OneShort" "orchestra" "LOneShort$Orchestra;") (List.mem_of_getElem? (i := 2) rfl)) (fun _ h9 => h9) rfl dX3_ahead_29 ?_
        refine mu_V (n := 1) (As := [.ref (ad 5)]) (rest := []) ⟨hx, hb, hml, hown, hts⟩ (c_X0_become l D ci G ka (sh ad 16) T (z 3) (z 4) (z 5) (sh ad 5) X.1 (z 0) (z 1) (z 2) (wX_D2 hI (by decide) (by decide) (by decide) _ _ _ _ _ _ _ _) (aO2_G (G_sh hG (by decide)) (G_sh hG (by decide)))  ) gX3_ahead_X0_become rfl ⟨rfl, rfl⟩ (by decide +kernel) rfl ⟨Nat.le_of_ble_eq_true rfl, Nat.le_of_ble_eq_true rfl⟩ hE (en_S hGA hs0 hS) hK (va_P.app (wX_s16 hP) (wX_s5 hP)) (ci := 0) (q0 := 0) rfl rfl hl.1 rfl (Nat.le_of_ble_eq_true rfl) dX3_ahead_32 ⟨Nat.zero_le _, Nat.zero_le _⟩ hS (fun q h => h.elim (fun h => aR_X (by decide) q (aO_sh q h)) (fun h => aR_X (by decide) q (aO_sh q h))) (fun H1 locs hz hfr hB hS => ?_)
        have hP := wX_j16_5 hI hP hfr hB
        generalize H1 = H at hP hS ⊢
        have hD : va_D (aX ad) (wX ci ad X X.1 tq la tt z) := wX_D hI
        refine lv_aload_n hx hb dX3_ahead_35 rfl (lv_at hl 0 rfl) ?_
        refine va_get (D := D) (ci := 3) (v := .ref (ad 16)) (C := RX3) (T := TX3) (N := 9) hx hb hts hinX3 hown hK hP 0 rfl rfl 1 (by decide) (hts (.fieldLink RX3 16 "OneShort" "trial" "LOneShort$Orchestra;") (List.mem_of_getElem? (i := 1) rfl)) (fun _ h9 => h9) rfl dX3_ahead_36 ?_
        refine lv_iload_n hx hb dX3_ahead_39 rfl (lv_at hl 2 rfl) ?_
        refine mu_V (n := 1) (As := [.int (nI nn)]) (rest := []) ⟨hx, hb, hml, hown, hts⟩ (c_X0_passEvenings l D ci G ka (sh ad 16) X.1 (z 3) (z 4) (z 5) (injA_sh hI (by decide)) (G_sh hG (by decide)) (nn) hWF (by omega)) gX3_ahead_X0_passEvenings rfl ⟨rfl, rfl⟩ (by decide +kernel) rfl ⟨Nat.le_of_ble_eq_true rfl, Nat.le_of_ble_eq_true rfl⟩ hE (en_S hGA hs0 hS) hK (wX_s16 hP) (ci := 0) (q0 := 0) rfl rfl hl.1 rfl (Nat.le_of_ble_eq_true rfl) dX3_ahead_40 ⟨Nat.zero_le _, Nat.zero_le _⟩ hS (fun q h => aR_X (by decide) q (aO_sh q h)) (fun H1 locs hz hfr hB hS => ?_)
        obtain ⟨w9, r9, nb9, hB⟩ := hB
        have hP := wX_j16 hI hP hfr hB
        obtain ⟨z, hP⟩ : ∃ z, va_P D vwCl (wX ci ad X (evCn X.1 nn) tq la tt z) H1 := ⟨_, hP⟩
        generalize H1 = H at hP hS ⊢
        have hD : va_D (aX ad) (wX ci ad X (evCn X.1 nn) tq la tt z) := wX_D hI
        refine lv_aload_n hx hb dX3_ahead_43 rfl (lv_at hl 0 rfl) ?_
        refine va_get (D := D) (ci := 3) (v := .ref (ad 16)) (C := RX3) (T := TX3) (N := 9) hx hb hts hinX3 hown hK hP 0 rfl rfl 1 (by decide) (hts (.fieldLink RX3 16 "OneShort" "trial" "LOneShort$Orchestra;") (List.mem_of_getElem? (i := 1) rfl)) (fun _ h9 => h9) rfl dX3_ahead_44 ?_
        refine va_get (D := D) (ci := 0) (v := .ref (ad 22)) (C := RX0) (T := TX0) (N := 13) hx hb hts hinX0 hown hK hP 16 rfl rfl 5 (by decide) (hts (.fieldLink RX3 96 "OneShort$Orchestra" "nerve" "[I") (List.mem_of_getElem? (i := 3) rfl)) (fun _ h9 => h9) rfl dX3_ahead_47 ?_
        refine lv_iload_n hx hb dX3_ahead_50 rfl (lv_at hl 1 rfl) ?_
        refine nv_iald (v := nI ((evCn X.1 nn) 5 (qn))) hx hb hK hP 22 0 rfl rfl (by omega) (by decide) rfl dX3_ahead_51 ?_
        have hp : p_ahead X (nI qn) (nI nn) = (nI ((evCn X.1 nn) 5 (qn)), X) := by first | (simp [p_ahead, bk, fl_eq, inP, c1, c2, c4, t_qn, i5, t_nn]; done) | (simp [p_ahead, bk, fl_eq, inP, c1, c2, c4, t_qn, i5, t_nn] <;> omega)
        refine nv_cv (show nI ((evCn X.1 nn) 5 (qn)) = (p_ahead X (nI qn) (nI nn)).1 from by rw [hp]) ?_
        exact mu_iret hx hb hr hlocks hS ((by rw [hp]; exact ⟨_, _, _, _, _, hP⟩)) dX3_ahead_52
      · have i6 : inN n 41 = false := in_f3 (by omega) c4
        refine lv_aload_n hx hb dX3_ahead_18 rfl (lv_at hl 0 rfl) ?_
        refine lv_iconst (v := nI (0)) hx hb dX3_ahead_19 (by decide) ?_
        refine mu_V (n := 1) (As := [.int (nI 0)]) (rest := []) ⟨hx, hb, hml, hown, hts⟩ (c_X3_finding l D ci G ka ad X T tq la tt z hI hG (0) hWX (by omega)) gX3_ahead_X3_finding rfl ⟨rfl, rfl⟩ (by decide +kernel) rfl ⟨Nat.le_of_ble_eq_true rfl, Nat.le_of_ble_eq_true rfl⟩ hE (en_S hGA hs0 hS) hK hP (ci := 3) (q0 := 0) rfl rfl hl.1 rfl (Nat.le_of_ble_eq_true rfl) dX3_ahead_20 ⟨Nat.zero_le _, Nat.zero_le _⟩ hS (fun _ h => h) (fun H1 locs hz hfr hB hS => ?_)
        obtain ⟨T, tq, la, tt, z, hP⟩ := hB
        generalize H1 = H at hP hS ⊢
        have hD : va_D (aX ad) (wX ci ad (toF X (inc X.2.2.2.1 0)) T tq la tt z) := wX_D hI
        have hp : p_ahead X (nI qn) n = (fnd 0, toF X (inc X.2.2.2.1 0)) := by first | (simp [p_ahead, bk, fl_eq, inP, c1, c2, c4, t_qn, i6]; done) | (simp [p_ahead, bk, fl_eq, inP, c1, c2, c4, t_qn, i6] <;> omega)
        refine nv_cv (show fnd 0 = (p_ahead X (nI qn) n).1 from by rw [hp]) ?_
        exact mu_iret hx hb hr hlocks hS ((by rw [hp]; exact ⟨_, _, _, _, _, hP⟩)) dX3_ahead_23

set_option maxHeartbeats 4000000 in
set_option maxRecDepth 100000 in
/-- X3_broken -/
theorem c_X3_broken (l : Launch) (D : va_G) (ci : Nat → ClassId) (G : Nat → Prop) (ka : Nat) (ad : Nat → Nat) (X : AS) (T : OS) (tq la tt : Nat → Int32) (z : Nat → Nat → Int32) (hI : injA ad 48) (hG : ∀ k, k < 48 → G (ad k)) (q : Int32) (hWX : WFX X) : Met l yX3_broken wsX3_broken ({ frames := 4, cells := 0, slots := 0, locals := 108 } : Room) (va_Pc [.ref (ad 0), .int (q)] (ro_B D (tyL ci) (wX ci ad X T tq la tt z) (en D (ci 0) G ka))) (mu_Q (aX ad) (some (.int ((p_broken X q).1))) (fun H => ∃ T tq la tt z, va_P D vwCl (wX ci ad ((p_broken X q).2) T tq la tt z) H)) 0 0 (aX ad) := by
  refine mu_Met (cc := cX3_broken) (maxL := 3) (ret := (some .int)) [(0, .ref (ad 0)), (1, .int (q))] (wX_D hI) (by decide) rfl (Nat.le_of_ble_eq_true rfl) rfl ?_
  intro p e s m below meth c H locs hx hb hml hr hlocks hts hown hP hK hs0 hD hS ls hl
  have hown : s.vm.findClass RX3 = some m.cls := hown
  have hinX0 : ∀ w ∈ wsX00, w ∈ wsX3_broken := by decide +kernel
  have hinX3 : ∀ w ∈ wsX30, w ∈ wsX3_broken := by decide +kernel
  have hE := hE_en D (ci 0) G ka
  have hWF := hWX.w
  have f_n := hWF.n
  have f_e := hWX.e
  have f_tl := hWX.t
  have hGA := aX_G hG
  have hWK := hWX.k
  refine lv_aload_n hx hb dX3_broken_0 rfl (lv_at hl 0 rfl) ?_
  refine lv_iload_n hx hb dX3_broken_1 rfl (lv_at hl 1 rfl) ?_
  refine ro_V (n := 1) (As := [.int (q)]) (rest := []) ⟨hx, hb, hml, hown, hts⟩ (c_X3_isPlayer l D ci G ka ad X T tq la tt z (q) hWX) gX3_broken_X3_isPlayer rfl ⟨rfl, rfl⟩ (by decide +kernel) rfl ⟨Nat.le_of_ble_eq_true rfl, Nat.le_of_ble_eq_true rfl⟩ hE (en_S hGA hs0 hS) hK hP (ci := 3) (q0 := 0) rfl rfl hl.1 rfl (Nat.le_of_ble_eq_true rfl) dX3_broken_2 ⟨Nat.zero_le _, Nat.zero_le _⟩ ?_
  refine nv_ifne_b (tgt := 14) hx hb dX3_broken_5 (by decide) (fun c1 => ?_) (fun c1 => ?_)
  · obtain ⟨qn, h_qn, rfl⟩ := in_ex c1 (by omega)
    have t_qn : tn (nI qn) = qn := tn_nI (by omega)
    refine lv_aload_n hx hb dX3_broken_14 rfl (lv_at hl 0 rfl) ?_
    refine va_get (D := D) (ci := 3) (v := .ref (ad 16)) (C := RX3) (T := TX3) (N := 9) hx hb hts hinX3 hown hK hP 0 rfl rfl 1 (by decide) (hts (.fieldLink RX3 16 "OneShort" "trial" "LOneShort$Orchestra;") (List.mem_of_getElem? (i := 1) rfl)) (fun _ h9 => h9) rfl dX3_broken_15 ?_
    refine lv_aload_n hx hb dX3_broken_18 rfl (lv_at hl 0 rfl) ?_
    refine va_get (D := D) (ci := 3) (v := .ref (ad 5)) (C := RX3) (T := TX3) (N := 9) hx hb hts hinX3 hown hK hP 0 rfl rfl 0 (by decide) (hts (.fieldLink RX3 10 "OneShort" "orchestra" "LOneShort$Orchestra;") (List.mem_of_getElem? (i := 2) rfl)) (fun _ h9 => h9) rfl dX3_broken_19 ?_
    refine mu_V (n := 1) (As := [.ref (ad 5)]) (rest := []) ⟨hx, hb, hml, hown, hts⟩ (c_X0_become l D ci G ka (sh ad 16) T (z 3) (z 4) (z 5) (sh ad 5) X.1 (z 0) (z 1) (z 2) (wX_D2 hI (by decide) (by decide) (by decide) _ _ _ _ _ _ _ _) (aO2_G (G_sh hG (by decide)) (G_sh hG (by decide)))  ) gX3_broken_X0_become rfl ⟨rfl, rfl⟩ (by decide +kernel) rfl ⟨Nat.le_of_ble_eq_true rfl, Nat.le_of_ble_eq_true rfl⟩ hE (en_S hGA hs0 hS) hK (va_P.app (wX_s16 hP) (wX_s5 hP)) (ci := 0) (q0 := 0) rfl rfl hl.1 rfl (Nat.le_of_ble_eq_true rfl) dX3_broken_22 ⟨Nat.zero_le _, Nat.zero_le _⟩ hS (fun q h => h.elim (fun h => aR_X (by decide) q (aO_sh q h)) (fun h => aR_X (by decide) q (aO_sh q h))) (fun H1 locs hz hfr hB hS => ?_)
    have hP := wX_j16_5 hI hP hfr hB
    generalize H1 = H at hP hS ⊢
    have hD : va_D (aX ad) (wX ci ad X X.1 tq la tt z) := wX_D hI
    refine lv_iconst (v := nI (0)) hx hb dX3_broken_25 (by decide) ?_
    refine lv_istore_n (lv' := [(2, .int (nI 0)), (0, .ref (ad 0)), (1, .int (nI qn))]) hx hb dX3_broken_26 rfl hl (by decide) rfl (fun ls hl => ?_)
    have L27 : ∀ (k27 : Nat) (i : Nat), 41 - i < k27 → (i ≤ 41) → (∀ j, j < i → brk X.1 qn j = false) → ∀ (x2 : Int32), x2 = nI (i) → ∀ (z : Nat → Nat → Int32), ∀ (H : Heap) (locs : List Loc), va_P D vwCl (wX ci ad X (evCn X.1 i) tq la tt z) H → va_S (aX ad) s.heap H locs → ∀ ls : Array Slot, lv_has ls 3 [(2, .int (x2)), (0, .ref (ad 0)), (1, .int (nI qn))] → W p l e (headSpec wsX3_broken ({ frames := 4, cells := 0, slots := 0, locals := 108 } : Room)).room s m ([.ref (ad 0), .int (nI qn)] : List Value).toArray below meth c H locs 0 0 (MQ below (mu_Q (aX ad) (some (.int ((p_broken X (nI qn)).1))) (fun H => ∃ T tq la tt z, va_P D vwCl (wX ci ad ((p_broken X (nI qn)).2) T tq la tt z) H)) ([.ref (ad 0), .int (nI qn)] : List Value).toArray s 0 0 (aX ad)) (F0 m 27 ls []) := by
      intro k27
      induction k27 with
      | zero => intro i h0; exact absurd h0 (Nat.not_lt_zero _)
      | succ k27 ih27 =>
        intro i hk27 h_i h_u x2 e2 z H locs hP hS ls hl
        subst e2
        have hD : va_D (aX ad) (wX ci ad X (evCn X.1 i) tq la tt z) := wX_D hI
        have hWFi := WF_evCn hWF i
        refine lv_iload_n hx hb dX3_broken_27 rfl (lv_at hl 0 rfl) ?_
        refine lv_bipush (v := nI (40)) hx hb dX3_broken_28 (by decide) ?_
        refine nv_icmp_gt (tgt := 61) hx hb (by omega) (by omega) dX3_broken_30 (by decide) (fun c2 => ?_) (fun c2 => ?_)
        · refine lv_aload_n hx hb dX3_broken_61 rfl (lv_at hl 1 rfl) ?_
          refine lv_iconst (v := nI (3)) hx hb dX3_broken_62 (by decide) ?_
          refine mu_V (n := 1) (As := [.int (nI 3)]) (rest := []) ⟨hx, hb, hml, hown, hts⟩ (c_X3_finding l D ci G ka ad X (evCn X.1 i) tq la tt z hI hG (3) hWX (by omega)) gX3_broken_X3_finding rfl ⟨rfl, rfl⟩ (by decide +kernel) rfl ⟨Nat.le_of_ble_eq_true rfl, Nat.le_of_ble_eq_true rfl⟩ hE (en_S hGA hs0 hS) hK hP (ci := 3) (q0 := 0) rfl rfl hl.1 rfl (Nat.le_of_ble_eq_true rfl) dX3_broken_63 ⟨Nat.zero_le _, Nat.zero_le _⟩ hS (fun _ h => h) (fun H1 locs hz hfr hB hS => ?_)
          obtain ⟨T, tq, la, tt, z, hP⟩ := hB
          generalize H1 = H at hP hS ⊢
          have hD : va_D (aX ad) (wX ci ad (toF X (inc X.2.2.2.1 3)) T tq la tt z) := wX_D hI
          have hp : p_broken X (nI qn) = (fnd 3, toF X (inc X.2.2.2.1 3)) := by first | (simp [p_broken, inP, bk, fl_eq, c1, c2, t_qn]; done) | ((have h9 := frst_eq (P := brk X.1 qn) (n := 41) (k := i) (by omega) (by simp [brk, c2]) h_u); simp [p_broken, inP, bk, fl_eq, h9.1, h9.2, c1, c2, t_qn]; done) | ((have h9 := any_no (P := brk X.1 qn) (n := 41) (fun j hj => h_u j (by omega))); simp [p_broken, inP, bk, fl_eq, h9, c1, c2, t_qn]; done)
          refine nv_cv (show fnd 3 = (p_broken X (nI qn)).1 from by rw [hp]) ?_
          exact mu_iret hx hb hr hlocks hS ((by rw [hp]; exact ⟨_, _, _, _, _, hP⟩)) dX3_broken_66
        · refine lv_aload_n hx hb dX3_broken_33 rfl (lv_at hl 1 rfl) ?_
          refine va_get (D := D) (ci := 3) (v := .ref (ad 16)) (C := RX3) (T := TX3) (N := 9) hx hb hts hinX3 hown hK hP 0 rfl rfl 1 (by decide) (hts (.fieldLink RX3 16 "OneShort" "trial" "LOneShort$Orchestra;") (List.mem_of_getElem? (i := 1) rfl)) (fun _ h9 => h9) rfl dX3_broken_34 ?_
          refine va_get (D := D) (ci := 0) (v := .ref (ad 22)) (C := RX0) (T := TX0) (N := 13) hx hb hts hinX0 hown hK hP 16 rfl rfl 5 (by decide) (hts (.fieldLink RX3 96 "OneShort$Orchestra" "nerve" "[I") (List.mem_of_getElem? (i := 3) rfl)) (fun _ h9 => h9) rfl dX3_broken_37 ?_
          refine lv_iload_n hx hb dX3_broken_40 rfl (lv_at hl 2 rfl) ?_
          have f3 := hWFi.f5 (qn)
          refine nv_iald (v := nI ((evCn X.1 i) 5 (qn))) hx hb hK hP 22 0 rfl rfl (by omega) (by decide) rfl dX3_broken_41 ?_
          refine nv_ifne (tgt := 47) hx hb (by omega) dX3_broken_42 (by decide) (fun c4 => ?_) (fun c4 => ?_)
          · refine lv_aload_n hx hb dX3_broken_47 rfl (lv_at hl 1 rfl) ?_
            refine va_get (D := D) (ci := 3) (v := .ref (ad 16)) (C := RX3) (T := TX3) (N := 9) hx hb hts hinX3 hown hK hP 0 rfl rfl 1 (by decide) (hts (.fieldLink RX3 16 "OneShort" "trial" "LOneShort$Orchestra;") (List.mem_of_getElem? (i := 1) rfl)) (fun _ h9 => h9) rfl dX3_broken_48 ?_
            refine mu_V (n := 0) (As := []) (rest := []) ⟨hx, hb, hml, hown, hts⟩ (c_X0_passEvening l D ci G ka (sh ad 16) (evCn X.1 i) (z 3) (z 4) (z 5) (injA_sh hI (by decide)) (G_sh hG (by decide))  hWFi) gX3_broken_X0_passEvening rfl ⟨rfl, rfl⟩ (by decide +kernel) rfl ⟨Nat.le_of_ble_eq_true rfl, Nat.le_of_ble_eq_true rfl⟩ hE (en_S hGA hs0 hS) hK (wX_s16 hP) (ci := 0) (q0 := 0) rfl rfl hl.1 rfl (Nat.le_of_ble_eq_true rfl) dX3_broken_51 ⟨Nat.zero_le _, Nat.zero_le _⟩ hS (fun q h => aR_X (by decide) q (aO_sh q h)) (fun H1 locs hz hfr hB hS => ?_)
            obtain ⟨w9, r9, nb9, hB⟩ := hB
            have hP := wX_j16 hI hP hfr hB
            obtain ⟨z, hP⟩ : ∃ z, va_P D vwCl (wX ci ad X (eveC (evCn X.1 i)) tq la tt z) H1 := ⟨_, hP⟩
            generalize H1 = H at hP hS ⊢
            have hD : va_D (aX ad) (wX ci ad X (eveC (evCn X.1 i)) tq la tt z) := wX_D hI
            refine lv_pop hx hb dX3_broken_54 rfl ?_
            refine nv_iinc1 (lv' := [(2, .int (nI (i + 1))), (0, .ref (ad 0)), (1, .int (nI qn))]) hx hb dX3_broken_55 hl (k := 0) rfl (by decide) rfl (fun ls hl => ?_)
            refine lv_goto (tgt := 27) hx hb dX3_broken_58 (by decide) ?_
            exact ih27 (i + 1) (by omega) (by omega) (all_f h_u (by simp [brk, c4])) (nI (i + 1)) rfl (z) _ _ (va_P.re (by rfl) hP) hS ls (lv_sub hl [0, 1, 2] rfl)
          · refine lv_iload_n hx hb dX3_broken_45 rfl (lv_at hl 0 rfl) ?_
            have hp : p_broken X (nI qn) = (nI (i), X) := by first | (simp [p_broken, inP, bk, fl_eq, c1, c2, c4, t_qn]; done) | ((have h9 := frst_eq (P := brk X.1 qn) (n := 41) (k := i) (by omega) (by simp [brk, c4]) h_u); simp [p_broken, inP, bk, fl_eq, h9.1, h9.2, c1, c2, c4, t_qn]; done) | ((have h9 := any_no (P := brk X.1 qn) (n := 41) (fun j hj => h_u j (by omega))); simp [p_broken, inP, bk, fl_eq, h9, c1, c2, c4, t_qn]; done)
            refine nv_cv (show nI (i) = (p_broken X (nI qn)).1 from by rw [hp]) ?_
            exact mu_iret hx hb hr hlocks hS ((by rw [hp]; exact ⟨_, _, _, _, _, hP⟩)) dX3_broken_46
    exact L27 _ (0) (Nat.lt_succ_self _) (by omega) (fun _ h => absurd h (Nat.not_lt_zero _)) (nI (0)) rfl (z) _ _ (va_P.re (by rfl) hP) hS ls (lv_sub hl [0, 1, 2] rfl)
  · refine lv_aload_n hx hb dX3_broken_8 rfl (lv_at hl 0 rfl) ?_
    refine lv_iconst (v := nI (0)) hx hb dX3_broken_9 (by decide) ?_
    refine mu_V (n := 1) (As := [.int (nI 0)]) (rest := []) ⟨hx, hb, hml, hown, hts⟩ (c_X3_finding l D ci G ka ad X T tq la tt z hI hG (0) hWX (by omega)) gX3_broken_X3_finding rfl ⟨rfl, rfl⟩ (by decide +kernel) rfl ⟨Nat.le_of_ble_eq_true rfl, Nat.le_of_ble_eq_true rfl⟩ hE (en_S hGA hs0 hS) hK hP (ci := 3) (q0 := 0) rfl rfl hl.1 rfl (Nat.le_of_ble_eq_true rfl) dX3_broken_10 ⟨Nat.zero_le _, Nat.zero_le _⟩ hS (fun _ h => h) (fun H1 locs hz hfr hB hS => ?_)
    obtain ⟨T, tq, la, tt, z, hP⟩ := hB
    generalize H1 = H at hP hS ⊢
    have hD : va_D (aX ad) (wX ci ad (toF X (inc X.2.2.2.1 0)) T tq la tt z) := wX_D hI
    have hp : p_broken X q = (fnd 0, toF X (inc X.2.2.2.1 0)) := by first | (simp [p_broken, inP, bk, fl_eq, c1]; done) | ((have h9 := frst_eq (P := brk X.1 qn) (n := 41) (k := i) (by omega) (by simp [brk, c1]) h_u); simp [p_broken, inP, bk, fl_eq, h9.1, h9.2, c1]; done) | ((have h9 := any_no (P := brk X.1 qn) (n := 41) (fun j hj => h_u j (by omega))); simp [p_broken, inP, bk, fl_eq, h9, c1]; done)
    refine nv_cv (show fnd 0 = (p_broken X q).1 from by rw [hp]) ?_
    exact mu_iret hx hb hr hlocks hS ((by rw [hp]; exact ⟨_, _, _, _, _, hP⟩)) dX3_broken_13

set_option maxHeartbeats 4000000 in
set_option maxRecDepth 100000 in
/-- X3_settles -/
theorem c_X3_settles (l : Launch) (D : va_G) (ci : Nat → ClassId) (G : Nat → Prop) (ka : Nat) (ad : Nat → Nat) (X : AS) (T : OS) (tq la tt : Nat → Int32) (z : Nat → Nat → Int32) (hI : injA ad 48) (hG : ∀ k, k < 48 → G (ad k))  (hWX : WFX X) : Met l yX3_settles wsX3_settles ({ frames := 4, cells := 0, slots := 0, locals := 108 } : Room) (va_Pc [.ref (ad 0)] (ro_B D (tyL ci) (wX ci ad X T tq la tt z) (en D (ci 0) G ka))) (mu_Q (aX ad) (some (.int ((p_settles X).1))) (fun H => ∃ T tq la tt z, va_P D vwCl (wX ci ad ((p_settles X).2) T tq la tt z) H)) 0 0 (aX ad) := by
  refine mu_Met (cc := cX3_settles) (maxL := 2) (ret := (some .int)) [(0, .ref (ad 0))] (wX_D hI) (by decide) rfl (Nat.le_of_ble_eq_true rfl) rfl ?_
  intro p e s m below meth c H locs hx hb hml hr hlocks hts hown hP hK hs0 hD hS ls hl
  have hown : s.vm.findClass RX3 = some m.cls := hown
  have hinX3 : ∀ w ∈ wsX30, w ∈ wsX3_settles := by decide +kernel
  have hE := hE_en D (ci 0) G ka
  have hWF := hWX.w
  have f_n := hWF.n
  have f_e := hWX.e
  have f_tl := hWX.t
  have hGA := aX_G hG
  have hWK := hWX.k
  refine lv_aload_n hx hb dX3_settles_0 rfl (lv_at hl 0 rfl) ?_
  refine va_get (D := D) (ci := 3) (v := .ref (ad 16)) (C := RX3) (T := TX3) (N := 9) hx hb hts hinX3 hown hK hP 0 rfl rfl 1 (by decide) (hts (.fieldLink RX3 16 "OneShort" "trial" "LOneShort$Orchestra;") (List.mem_of_getElem? (i := 1) rfl)) (fun _ h9 => h9) rfl dX3_settles_1 ?_
  refine lv_aload_n hx hb dX3_settles_4 rfl (lv_at hl 0 rfl) ?_
  refine va_get (D := D) (ci := 3) (v := .ref (ad 5)) (C := RX3) (T := TX3) (N := 9) hx hb hts hinX3 hown hK hP 0 rfl rfl 0 (by decide) (hts (.fieldLink RX3 10 "OneShort" "orchestra" "LOneShort$Orchestra;") (List.mem_of_getElem? (i := 2) rfl)) (fun _ h9 => h9) rfl dX3_settles_5 ?_
  refine mu_V (n := 1) (As := [.ref (ad 5)]) (rest := []) ⟨hx, hb, hml, hown, hts⟩ (c_X0_become l D ci G ka (sh ad 16) T (z 3) (z 4) (z 5) (sh ad 5) X.1 (z 0) (z 1) (z 2) (wX_D2 hI (by decide) (by decide) (by decide) _ _ _ _ _ _ _ _) (aO2_G (G_sh hG (by decide)) (G_sh hG (by decide)))  ) gX3_settles_X0_become rfl ⟨rfl, rfl⟩ (by decide +kernel) rfl ⟨Nat.le_of_ble_eq_true rfl, Nat.le_of_ble_eq_true rfl⟩ hE (en_S hGA hs0 hS) hK (va_P.app (wX_s16 hP) (wX_s5 hP)) (ci := 0) (q0 := 0) rfl rfl hl.1 rfl (Nat.le_of_ble_eq_true rfl) dX3_settles_8 ⟨Nat.zero_le _, Nat.zero_le _⟩ hS (fun q h => h.elim (fun h => aR_X (by decide) q (aO_sh q h)) (fun h => aR_X (by decide) q (aO_sh q h))) (fun H1 locs hz hfr hB hS => ?_)
  have hP := wX_j16_5 hI hP hfr hB
  generalize H1 = H at hP hS ⊢
  have hD : va_D (aX ad) (wX ci ad X X.1 tq la tt z) := wX_D hI
  refine lv_iconst (v := nI (0)) hx hb dX3_settles_11 (by decide) ?_
  refine lv_istore_n (lv' := [(1, .int (nI 0)), (0, .ref (ad 0))]) hx hb dX3_settles_12 rfl hl (by decide) rfl (fun ls hl => ?_)
  have L13 : ∀ (k13 : Nat) (i : Nat), 41 - i < k13 → (i ≤ 41) → (∀ j, j < i → stl X.1 j = false) → ∀ (x1 : Int32), x1 = nI (i) → ∀ (z : Nat → Nat → Int32), ∀ (H : Heap) (locs : List Loc), va_P D vwCl (wX ci ad X (evCn X.1 i) tq la tt z) H → va_S (aX ad) s.heap H locs → ∀ ls : Array Slot, lv_has ls 2 [(1, .int (x1)), (0, .ref (ad 0))] → W p l e (headSpec wsX3_settles ({ frames := 4, cells := 0, slots := 0, locals := 108 } : Room)).room s m ([.ref (ad 0)] : List Value).toArray below meth c H locs 0 0 (MQ below (mu_Q (aX ad) (some (.int ((p_settles X).1))) (fun H => ∃ T tq la tt z, va_P D vwCl (wX ci ad ((p_settles X).2) T tq la tt z) H)) ([.ref (ad 0)] : List Value).toArray s 0 0 (aX ad)) (F0 m 13 ls []) := by
    intro k13
    induction k13 with
    | zero => intro i h0; exact absurd h0 (Nat.not_lt_zero _)
    | succ k13 ih13 =>
      intro i hk13 h_i h_u x1 e1 z H locs hP hS ls hl
      subst e1
      have hD : va_D (aX ad) (wX ci ad X (evCn X.1 i) tq la tt z) := wX_D hI
      have hWFi := WF_evCn hWF i
      refine lv_iload_n hx hb dX3_settles_13 rfl (lv_at hl 0 rfl) ?_
      refine lv_bipush (v := nI (40)) hx hb dX3_settles_14 (by decide) ?_
      refine nv_icmp_gt (tgt := 37) hx hb (by omega) (by omega) dX3_settles_16 (by decide) (fun c1 => ?_) (fun c1 => ?_)
      · refine lv_aload_n hx hb dX3_settles_37 rfl (lv_at hl 1 rfl) ?_
        refine lv_iconst (v := nI (3)) hx hb dX3_settles_38 (by decide) ?_
        refine mu_V (n := 1) (As := [.int (nI 3)]) (rest := []) ⟨hx, hb, hml, hown, hts⟩ (c_X3_finding l D ci G ka ad X (evCn X.1 i) tq la tt z hI hG (3) hWX (by omega)) gX3_settles_X3_finding rfl ⟨rfl, rfl⟩ (by decide +kernel) rfl ⟨Nat.le_of_ble_eq_true rfl, Nat.le_of_ble_eq_true rfl⟩ hE (en_S hGA hs0 hS) hK hP (ci := 3) (q0 := 0) rfl rfl hl.1 rfl (Nat.le_of_ble_eq_true rfl) dX3_settles_39 ⟨Nat.zero_le _, Nat.zero_le _⟩ hS (fun _ h => h) (fun H1 locs hz hfr hB hS => ?_)
        obtain ⟨T, tq, la, tt, z, hP⟩ := hB
        generalize H1 = H at hP hS ⊢
        have hD : va_D (aX ad) (wX ci ad (toF X (inc X.2.2.2.1 3)) T tq la tt z) := wX_D hI
        have hp : p_settles X = (fnd 3, toF X (inc X.2.2.2.1 3)) := by first | ((have h9 := frst_eq (P := stl X.1) (n := 41) (k := i) (by omega) (by simp [stl, c1]) h_u); simp [p_settles, bk, fl_eq, h9.1, h9.2, c1]; done) | ((have h9 := any_no (P := stl X.1) (n := 41) (fun j hj => h_u j (by omega))); simp [p_settles, bk, fl_eq, h9, c1]; done)
        refine nv_cv (show fnd 3 = (p_settles X).1 from by rw [hp]) ?_
        exact mu_iret hx hb hr hlocks hS ((by rw [hp]; exact ⟨_, _, _, _, _, hP⟩)) dX3_settles_42
      · refine lv_aload_n hx hb dX3_settles_19 rfl (lv_at hl 1 rfl) ?_
        refine va_get (D := D) (ci := 3) (v := .ref (ad 16)) (C := RX3) (T := TX3) (N := 9) hx hb hts hinX3 hown hK hP 0 rfl rfl 1 (by decide) (hts (.fieldLink RX3 16 "OneShort" "trial" "LOneShort$Orchestra;") (List.mem_of_getElem? (i := 1) rfl)) (fun _ h9 => h9) rfl dX3_settles_20 ?_
        refine mu_V (n := 0) (As := []) (rest := []) ⟨hx, hb, hml, hown, hts⟩ (c_X0_passEvening l D ci G ka (sh ad 16) (evCn X.1 i) (z 3) (z 4) (z 5) (injA_sh hI (by decide)) (G_sh hG (by decide))  hWFi) gX3_settles_X0_passEvening rfl ⟨rfl, rfl⟩ (by decide +kernel) rfl ⟨Nat.le_of_ble_eq_true rfl, Nat.le_of_ble_eq_true rfl⟩ hE (en_S hGA hs0 hS) hK (wX_s16 hP) (ci := 0) (q0 := 0) rfl rfl hl.1 rfl (Nat.le_of_ble_eq_true rfl) dX3_settles_23 ⟨Nat.zero_le _, Nat.zero_le _⟩ hS (fun q h => aR_X (by decide) q (aO_sh q h)) (fun H1 locs hz hfr hB hS => ?_)
        obtain ⟨w9, r9, nb9, hB⟩ := hB
        have hP := wX_j16 hI hP hfr hB
        obtain ⟨z, hP⟩ : ∃ z, va_P D vwCl (wX ci ad X (eveC (evCn X.1 i)) tq la tt z) H1 := ⟨_, hP⟩
        generalize H1 = H at hP hS ⊢
        have hD : va_D (aX ad) (wX ci ad X (eveC (evCn X.1 i)) tq la tt z) := wX_D hI
        refine nv_ifne_b (tgt := 31) hx hb dX3_settles_26 (by decide) (fun c2 => ?_) (fun c2 => ?_)
        · refine nv_iinc1 (lv' := [(1, .int (nI (i + 1))), (0, .ref (ad 0))]) hx hb dX3_settles_31 hl (k := 0) rfl (by decide) rfl (fun ls hl => ?_)
          refine lv_goto (tgt := 13) hx hb dX3_settles_34 (by decide) ?_
          exact ih13 (i + 1) (by omega) (by omega) (all_f h_u (by simp [stl, c2])) (nI (i + 1)) rfl (z) _ _ (va_P.re (by rfl) hP) hS ls (lv_sub hl [0, 1] rfl)
        · refine lv_iload_n hx hb dX3_settles_29 rfl (lv_at hl 0 rfl) ?_
          have hp : p_settles X = (nI (i), X) := by first | ((have h9 := frst_eq (P := stl X.1) (n := 41) (k := i) (by omega) (by simp [stl, c2]) h_u); simp [p_settles, bk, fl_eq, h9.1, h9.2, c1, c2]; done) | ((have h9 := any_no (P := stl X.1) (n := 41) (fun j hj => h_u j (by omega))); simp [p_settles, bk, fl_eq, h9, c1, c2]; done)
          refine nv_cv (show nI (i) = (p_settles X).1 from by rw [hp]) ?_
          exact mu_iret hx hb hr hlocks hS ((by rw [hp]; exact ⟨_, _, _, _, _, hP⟩)) dX3_settles_30
  exact L13 _ (0) (Nat.lt_succ_self _) (by omega) (fun _ h => absurd h (Nat.not_lt_zero _)) (nI (0)) rfl (z) _ _ (va_P.re (by rfl) hP) hS ls (lv_sub hl [0, 1] rfl)
