/-! walks laid by program -/
set_option maxHeartbeats 4000000 in
set_option maxRecDepth 100000 in
/-- X3_hold -/
theorem c_X3_hold (l : Launch) (D : va_G) (ci : Nat → ClassId) (G : Nat → Prop) (ka : Nat) (ad : Nat → Nat) (X : AS) (T : OS) (tq la tt : Nat → Int32) (z : Nat → Nat → Int32) (hI : injA ad 48) (hG : ∀ k, k < 48 → G (ad k)) (sv q : Int32) (hWX : WFX X) : Met l yX3_hold wsX3_hold ({ frames := 1, cells := 0, slots := 0, locals := 21 } : Room) (va_Pc [.ref (ad 0), .int (sv), .int (q)] (ro_B D (tyL ci) (wX ci ad X T tq la tt z) (en D (ci 0) G ka))) (mu_Q (aX ad) (some (.int ((p_hold X sv q).1))) (fun H => ∃ T tq la tt z, va_P D vwCl (wX ci ad ((p_hold X sv q).2) T tq la tt z) H)) 0 0 (aX ad) := by
  refine mu_Met (cc := cX3_hold) (maxL := 3) (ret := (some .int)) [(0, .ref (ad 0)), (1, .int (sv)), (2, .int (q))] (wX_D hI) (by decide) rfl (Nat.le_of_ble_eq_true rfl) rfl ?_
  intro p e s m below meth c H locs hx hb hml hr hlocks hts hown hP hK hs0 hD hS ls hl
  have hown : s.vm.findClass RX3 = some m.cls := hown
  have hinX0 : ∀ w ∈ wsX00, w ∈ wsX3_hold := by decide +kernel
  have hinX3 : ∀ w ∈ wsX30, w ∈ wsX3_hold := by decide +kernel
  have hE := hE_en D (ci 0) G ka
  have hWF := hWX.w
  have f_n := hWF.n
  have f_e := hWX.e
  have f_tl := hWX.t
  have hGA := aX_G hG
  have hWK := hWX.k
  refine lv_aload_n hx hb dX3_hold_0 rfl (lv_at hl 0 rfl) ?_
  refine lv_iload_n hx hb dX3_hold_1 rfl (lv_at hl 1 rfl) ?_
  refine ro_V (n := 1) (As := [.int (sv)]) (rest := []) ⟨hx, hb, hml, hown, hts⟩ (c_X3_isSpot l D ci G ka ad X T tq la tt z (sv) hWX) gX3_hold_X3_isSpot rfl ⟨rfl, rfl⟩ (by decide +kernel) rfl ⟨Nat.le_of_ble_eq_true rfl, Nat.le_of_ble_eq_true rfl⟩ hE (en_S hGA hs0 hS) hK hP (ci := 3) (q0 := 0) rfl rfl hl.1 rfl (Nat.le_of_ble_eq_true rfl) dX3_hold_2 ⟨Nat.zero_le _, Nat.zero_le _⟩ ?_
  refine nv_ifeq_b (tgt := 21) hx hb dX3_hold_5 (by decide) (fun c1 => ?_) (fun c1 => ?_)
  · refine lv_aload_n hx hb dX3_hold_21 rfl (lv_at hl 0 rfl) ?_
    refine lv_iconst (v := nI (0)) hx hb dX3_hold_22 (by decide) ?_
    refine mu_V (n := 1) (As := [.int (nI 0)]) (rest := []) ⟨hx, hb, hml, hown, hts⟩ (c_X3_finding l D ci G ka ad X T tq la tt z hI hG (0) hWX (by omega)) gX3_hold_X3_finding rfl ⟨rfl, rfl⟩ (by decide +kernel) rfl ⟨Nat.le_of_ble_eq_true rfl, Nat.le_of_ble_eq_true rfl⟩ hE (en_S hGA hs0 hS) hK hP (ci := 3) (q0 := 0) rfl rfl hl.1 rfl (Nat.le_of_ble_eq_true rfl) dX3_hold_23 ⟨Nat.zero_le _, Nat.zero_le _⟩ hS (fun _ h => h) (fun H1 locs hz hfr hB hS => ?_)
    obtain ⟨T, tq, la, tt, z, hP⟩ := hB
    generalize H1 = H at hP hS ⊢
    have hD : va_D (aX ad) (wX ci ad (toF X (inc X.2.2.2.1 0)) T tq la tt z) := wX_D hI
    have hp : p_hold X sv q = (fnd 0, toF X (inc X.2.2.2.1 0)) := by first | (simp [p_hold, inP, bk, fl_eq, c1]; done) | (simp [p_hold, inP, bk, fl_eq, nI_m1 (show qn < 2147483648 by omega), c1]; done)
    refine nv_cv (show fnd 0 = (p_hold X sv q).1 from by rw [hp]) ?_
    exact mu_iret hx hb hr hlocks hS ((by rw [hp]; exact ⟨_, _, _, _, _, hP⟩)) dX3_hold_26
  · obtain ⟨svn, h_svn, rfl⟩ := in_ex c1 (by omega)
    have t_svn : tn (nI svn) = svn := tn_nI (by omega)
    refine lv_iload_n hx hb dX3_hold_8 rfl (lv_at hl 2 rfl) ?_
    refine lv_iconst (v := -1) hx hb dX3_hold_9 (by decide) ?_
    refine lv_icmp_eq (tgt := 27) hx hb dX3_hold_10 (by decide) (fun c2 => ?_) (fun c2 => ?_)
    · refine lv_aload_n hx hb dX3_hold_27 rfl (lv_at hl 0 rfl) ?_
      refine va_get (D := D) (ci := 3) (v := .ref (ad 5)) (C := RX3) (T := TX3) (N := 9) hx hb hts hinX3 hown hK hP 0 rfl rfl 0 (by decide) (hts (.fieldLink RX3 10 "OneShort" "orchestra" "LOneShort$Orchestra;") (List.mem_of_getElem? (i := 1) rfl)) (fun _ h9 => h9) rfl dX3_hold_28 ?_
      refine va_get (D := D) (ci := 0) (v := .ref (ad 12)) (C := RX0) (T := TX0) (N := 13) hx hb hts hinX0 hown hK hP 5 rfl rfl 6 (by decide) (hts (.fieldLink RX3 209 "OneShort$Orchestra" "spots" "[I") (List.mem_of_getElem? (i := 2) rfl)) (fun _ h9 => h9) rfl dX3_hold_31 ?_
      refine lv_iload_n hx hb dX3_hold_34 rfl (lv_at hl 1 rfl) ?_
      refine lv_iload_n hx hb dX3_hold_35 rfl (lv_at hl 2 rfl) ?_
      refine nv_cv (show q = nI (0) - nI (1) from (by rw [c2]; rfl)) ?_
      refine nv_iast hx hb hK hP hD hS 12 0 rfl rfl (by omega) (by decide) dX3_hold_36 (fun H locs hP hD hS => ?_)
      have hP : va_P D vwCl (wX ci ad (toS X (st X.1 6 (svn) (0))) T tq la tt z) H := va_P.re (wX_sp ci ad X T tq la tt z (svn) (0)) hP
      have hD : va_D (aX ad) (wX ci ad (toS X (st X.1 6 (svn) (0))) T tq la tt z) := wX_D hI
      refine lv_iconst (v := nI (1)) hx hb dX3_hold_37 (by decide) ?_
      have hp : p_hold X (nI svn) q = (nI (1), toS X (st X.1 6 (svn) (0))) := by first | (simp [p_hold, inP, bk, fl_eq, c1, c2, t_svn]; done) | (simp [p_hold, inP, bk, fl_eq, nI_m1 (show qn < 2147483648 by omega), c1, c2, t_svn]; done)
      refine nv_cv (show nI (1) = (p_hold X (nI svn) q).1 from by rw [hp]) ?_
      exact mu_iret hx hb hr hlocks hS ((by rw [hp]; exact ⟨_, _, _, _, _, hP⟩)) dX3_hold_38
    · refine lv_aload_n hx hb dX3_hold_13 rfl (lv_at hl 0 rfl) ?_
      refine lv_iload_n hx hb dX3_hold_14 rfl (lv_at hl 2 rfl) ?_
      refine ro_V (n := 1) (As := [.int (q)]) (rest := []) ⟨hx, hb, hml, hown, hts⟩ (c_X3_isPlayer l D ci G ka ad X T tq la tt z (q) hWX) gX3_hold_X3_isPlayer rfl ⟨rfl, rfl⟩ (by decide +kernel) rfl ⟨Nat.le_of_ble_eq_true rfl, Nat.le_of_ble_eq_true rfl⟩ hE (en_S hGA hs0 hS) hK hP (ci := 3) (q0 := 0) rfl rfl hl.1 rfl (Nat.le_of_ble_eq_true rfl) dX3_hold_15 ⟨Nat.zero_le _, Nat.zero_le _⟩ ?_
      refine nv_ifne_b (tgt := 27) hx hb dX3_hold_18 (by decide) (fun c3 => ?_) (fun c3 => ?_)
      · obtain ⟨qn, h_qn, rfl⟩ := in_ex c3 (by omega)
        have t_qn : tn (nI qn) = qn := tn_nI (by omega)
        refine lv_aload_n hx hb dX3_hold_27 rfl (lv_at hl 0 rfl) ?_
        refine va_get (D := D) (ci := 3) (v := .ref (ad 5)) (C := RX3) (T := TX3) (N := 9) hx hb hts hinX3 hown hK hP 0 rfl rfl 0 (by decide) (hts (.fieldLink RX3 10 "OneShort" "orchestra" "LOneShort$Orchestra;") (List.mem_of_getElem? (i := 1) rfl)) (fun _ h9 => h9) rfl dX3_hold_28 ?_
        refine va_get (D := D) (ci := 0) (v := .ref (ad 12)) (C := RX0) (T := TX0) (N := 13) hx hb hts hinX0 hown hK hP 5 rfl rfl 6 (by decide) (hts (.fieldLink RX3 209 "OneShort$Orchestra" "spots" "[I") (List.mem_of_getElem? (i := 2) rfl)) (fun _ h9 => h9) rfl dX3_hold_31 ?_
        refine lv_iload_n hx hb dX3_hold_34 rfl (lv_at hl 1 rfl) ?_
        refine lv_iload_n hx hb dX3_hold_35 rfl (lv_at hl 2 rfl) ?_
        refine nv_cv (show nI (qn) = nI (qn + 1) - nI (1) from (nI_pred _).symm) ?_
        refine nv_iast hx hb hK hP hD hS 12 0 rfl rfl (by omega) (by decide) dX3_hold_36 (fun H locs hP hD hS => ?_)
        have hP : va_P D vwCl (wX ci ad (toS X (st X.1 6 (svn) (qn + 1))) T tq la tt z) H := va_P.re (wX_sp ci ad X T tq la tt z (svn) (qn + 1)) hP
        have hD : va_D (aX ad) (wX ci ad (toS X (st X.1 6 (svn) (qn + 1))) T tq la tt z) := wX_D hI
        refine lv_iconst (v := nI (1)) hx hb dX3_hold_37 (by decide) ?_
        have hp : p_hold X (nI svn) (nI qn) = (nI (1), toS X (st X.1 6 (svn) (qn + 1))) := by first | (simp [p_hold, inP, bk, fl_eq, c1, c2, c3, t_svn, t_qn]; done) | (simp [p_hold, inP, bk, fl_eq, nI_m1 (show qn < 2147483648 by omega), c1, c2, c3, t_svn, t_qn]; done)
        refine nv_cv (show nI (1) = (p_hold X (nI svn) (nI qn)).1 from by rw [hp]) ?_
        exact mu_iret hx hb hr hlocks hS ((by rw [hp]; exact ⟨_, _, _, _, _, hP⟩)) dX3_hold_38
      · refine lv_aload_n hx hb dX3_hold_21 rfl (lv_at hl 0 rfl) ?_
        refine lv_iconst (v := nI (0)) hx hb dX3_hold_22 (by decide) ?_
        refine mu_V (n := 1) (As := [.int (nI 0)]) (rest := []) ⟨hx, hb, hml, hown, hts⟩ (c_X3_finding l D ci G ka ad X T tq la tt z hI hG (0) hWX (by omega)) gX3_hold_X3_finding rfl ⟨rfl, rfl⟩ (by decide +kernel) rfl ⟨Nat.le_of_ble_eq_true rfl, Nat.le_of_ble_eq_true rfl⟩ hE (en_S hGA hs0 hS) hK hP (ci := 3) (q0 := 0) rfl rfl hl.1 rfl (Nat.le_of_ble_eq_true rfl) dX3_hold_23 ⟨Nat.zero_le _, Nat.zero_le _⟩ hS (fun _ h => h) (fun H1 locs hz hfr hB hS => ?_)
        obtain ⟨T, tq, la, tt, z, hP⟩ := hB
        generalize H1 = H at hP hS ⊢
        have hD : va_D (aX ad) (wX ci ad (toF X (inc X.2.2.2.1 0)) T tq la tt z) := wX_D hI
        have hp : p_hold X (nI svn) q = (fnd 0, toF X (inc X.2.2.2.1 0)) := by first | (simp [p_hold, inP, bk, fl_eq, c1, c2, c3, t_svn]; done) | (simp [p_hold, inP, bk, fl_eq, nI_m1 (show qn < 2147483648 by omega), c1, c2, c3, t_svn]; done)
        refine nv_cv (show fnd 0 = (p_hold X (nI svn) q).1 from by rw [hp]) ?_
        exact mu_iret hx hb hr hlocks hS ((by rw [hp]; exact ⟨_, _, _, _, _, hP⟩)) dX3_hold_26
