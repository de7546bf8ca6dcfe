/-! walks laid by program -/
set_option maxHeartbeats 4000000 in
set_option maxRecDepth 100000 in
/-- X4_mayBe -/
theorem c_X4_mayBe (l : Launch) (D : va_G) (ci : Nat → ClassId) (wc : va_W) (w v : Int32)  : Met l yX4_mayBe wsX4_mayBe ({ frames := 2, cells := 0, slots := 0, locals := 42 } : Room) (va_Pc [.int (w), .int (v)] (ro_B D (tyL ci) wc (enT))) (ro_Q (some (.int (bI (inN w 5 && inN v (lim (tn w))))))) 0 0 (fun _ => False) := by
  refine ro_Met (cc := cX4_mayBe) (maxL := 2) (ret := (some .boolean)) [(0, .int (w)), (1, .int (v))] (by decide) rfl (Nat.le_of_ble_eq_true rfl) rfl ?_
  intro p e s m below meth c hx hb hml hr hlocks hts hown hP hK hs ls hl
  have hown : s.vm.findClass RX4 = some m.cls := hown
  have hE := hE_T
  refine lv_iload_n hx hb dX4_mayBe_0 rfl (lv_at hl 0 rfl) ?_
  rcases Bool.eq_false_or_eq_true (inN w 5) with i1 | i1
  · obtain ⟨wn, h_wn, rfl⟩ := in_ex i1 (by decide)
    rcases (show wn = 0 ∨ wn = 1 ∨ wn = 2 ∨ wn = 3 ∨ wn = 4 by omega) with rfl | rfl | rfl | rfl | rfl
    · have t_w : tn (nI 0) = 0 := tn_nI (by decide)
      refine lv_tableIn (x := nI 0) (off := 35) (tgt := 36) hx hb dX4_mayBe_1 (by decide) (by decide) (by decide) (by decide) ?_
      refine lv_iload_n hx hb dX4_mayBe_36 rfl (lv_at hl 1 rfl) ?_
      refine ro_S (n := 1) (As := [.int (v)]) (rest := []) ⟨hx, hb, hml, hown, hts⟩ (c_X4_isKind l D ci wc (v) ) gX4_mayBe_X4_isKind rfl ⟨rfl, rfl⟩ (by decide +kernel) rfl ⟨Nat.le_of_ble_eq_true rfl, Nat.le_of_ble_eq_true rfl⟩ hE hs hK hP hl.1 rfl (Nat.le_of_ble_eq_true rfl) dX4_mayBe_37 ⟨Nat.zero_le _, Nat.zero_le _⟩ ?_
      refine nv_cv (show bI (inN v 7) = bI (inN (nI 0) 5 && inN v (lim (tn (nI 0)))) from congrArg bI (by simp [lim, i1, t_w])) ?_
      exact ro_zret hx hb hr hlocks dX4_mayBe_40
    · have t_w : tn (nI 1) = 1 := tn_nI (by decide)
      refine lv_tableIn (x := nI 1) (off := 40) (tgt := 41) hx hb dX4_mayBe_1 (by decide) (by decide) (by decide) (by decide) ?_
      refine lv_iload_n hx hb dX4_mayBe_41 rfl (lv_at hl 1 rfl) ?_
      refine ro_S (n := 1) (As := [.int (v)]) (rest := []) ⟨hx, hb, hml, hown, hts⟩ (c_X4_isSeat l D ci wc (v) ) gX4_mayBe_X4_isSeat rfl ⟨rfl, rfl⟩ (by decide +kernel) rfl ⟨Nat.le_of_ble_eq_true rfl, Nat.le_of_ble_eq_true rfl⟩ hE hs hK hP hl.1 rfl (Nat.le_of_ble_eq_true rfl) dX4_mayBe_42 ⟨Nat.zero_le _, Nat.zero_le _⟩ ?_
      refine nv_cv (show bI (inN v 16) = bI (inN (nI 1) 5 && inN v (lim (tn (nI 1)))) from congrArg bI (by simp [lim, i1, t_w])) ?_
      exact ro_zret hx hb hr hlocks dX4_mayBe_45
    · have t_w : tn (nI 2) = 2 := tn_nI (by decide)
      refine lv_tableIn (x := nI 2) (off := 45) (tgt := 46) hx hb dX4_mayBe_1 (by decide) (by decide) (by decide) (by decide) ?_
      refine lv_iload_n hx hb dX4_mayBe_46 rfl (lv_at hl 1 rfl) ?_
      refine lv_iconst (v := nI (0)) hx hb dX4_mayBe_47 (by decide) ?_
      refine lv_iconst (v := nI (5)) hx hb dX4_mayBe_48 (by decide) ?_
      refine ro_S (n := 3) (As := [.int (v), .int (nI 0), .int (nI 5)]) (rest := []) ⟨hx, hb, hml, hown, hts⟩ (c_X4_within l D ci wc (v) (nI (0)) (nI (5)) ) gX4_mayBe_X4_within rfl ⟨rfl, rfl⟩ (by decide +kernel) rfl ⟨Nat.le_of_ble_eq_true rfl, Nat.le_of_ble_eq_true rfl⟩ hE hs hK hP hl.1 rfl (Nat.le_of_ble_eq_true rfl) dX4_mayBe_49 ⟨Nat.zero_le _, Nat.zero_le _⟩ ?_
      refine nv_cv (congrArg bI (wth_in v 5 (by decide))) ?_
      refine nv_cv (show bI (inN v 6) = bI (inN (nI 2) 5 && inN v (lim (tn (nI 2)))) from congrArg bI (by simp [lim, i1, t_w])) ?_
      exact ro_zret hx hb hr hlocks dX4_mayBe_52
    · have t_w : tn (nI 3) = 3 := tn_nI (by decide)
      refine lv_tableIn (x := nI 3) (off := 52) (tgt := 53) hx hb dX4_mayBe_1 (by decide) (by decide) (by decide) (by decide) ?_
      refine lv_iload_n hx hb dX4_mayBe_53 rfl (lv_at hl 1 rfl) ?_
      refine lv_iconst (v := nI (0)) hx hb dX4_mayBe_54 (by decide) ?_
      refine lv_bipush (v := nI (9)) hx hb dX4_mayBe_55 (by decide) ?_
      refine ro_S (n := 3) (As := [.int (v), .int (nI 0), .int (nI 9)]) (rest := []) ⟨hx, hb, hml, hown, hts⟩ (c_X4_within l D ci wc (v) (nI (0)) (nI (9)) ) gX4_mayBe_X4_within rfl ⟨rfl, rfl⟩ (by decide +kernel) rfl ⟨Nat.le_of_ble_eq_true rfl, Nat.le_of_ble_eq_true rfl⟩ hE hs hK hP hl.1 rfl (Nat.le_of_ble_eq_true rfl) dX4_mayBe_57 ⟨Nat.zero_le _, Nat.zero_le _⟩ ?_
      refine nv_cv (congrArg bI (wth_in v 9 (by decide))) ?_
      refine nv_cv (show bI (inN v 10) = bI (inN (nI 3) 5 && inN v (lim (tn (nI 3)))) from congrArg bI (by simp [lim, i1, t_w])) ?_
      exact ro_zret hx hb hr hlocks dX4_mayBe_60
    · have t_w : tn (nI 4) = 4 := tn_nI (by decide)
      refine lv_tableIn (x := nI 4) (off := 60) (tgt := 61) hx hb dX4_mayBe_1 (by decide) (by decide) (by decide) (by decide) ?_
      refine lv_iload_n hx hb dX4_mayBe_61 rfl (lv_at hl 1 rfl) ?_
      refine lv_iconst (v := nI (0)) hx hb dX4_mayBe_62 (by decide) ?_
      refine lv_bipush (v := nI (99)) hx hb dX4_mayBe_63 (by decide) ?_
      refine ro_S (n := 3) (As := [.int (v), .int (nI 0), .int (nI 99)]) (rest := []) ⟨hx, hb, hml, hown, hts⟩ (c_X4_within l D ci wc (v) (nI (0)) (nI (99)) ) gX4_mayBe_X4_within rfl ⟨rfl, rfl⟩ (by decide +kernel) rfl ⟨Nat.le_of_ble_eq_true rfl, Nat.le_of_ble_eq_true rfl⟩ hE hs hK hP hl.1 rfl (Nat.le_of_ble_eq_true rfl) dX4_mayBe_65 ⟨Nat.zero_le _, Nat.zero_le _⟩ ?_
      refine nv_cv (congrArg bI (wth_in v 99 (by decide))) ?_
      refine nv_cv (show bI (inN v 100) = bI (inN (nI 4) 5 && inN v (lim (tn (nI 4)))) from congrArg bI (by simp [lim, i1, t_w])) ?_
      exact ro_zret hx hb hr hlocks dX4_mayBe_68
  · refine lv_tableOut (tgt := 69) hx hb dX4_mayBe_1 (tsw_out i1) (by decide) ?_
    refine lv_iconst (v := nI (0)) hx hb dX4_mayBe_69 (by decide) ?_
    refine nv_cv (show nI (0) = bI (inN w 5 && inN v (lim (tn w))) from nv_f (by simp [lim, i1])) ?_
    exact ro_zret hx hb hr hlocks dX4_mayBe_70

set_option maxHeartbeats 4000000 in
set_option maxRecDepth 100000 in
/-- X4_bar -/
theorem c_X4_bar (l : Launch) (D : va_G) (ci : Nat → ClassId) (am : Nat → Nat) (X : AS) (kr : Nat → Int32) (q0 q1 q2 q3 q4 q5 : Int32) (iw : Bool) (kn : Nat → Option Nat) (y0 y1 y2 y3 y4 y5 y6 : Nat → Int32) (hI : injA am 16) (b pv : Int32) (hWX : WFX X) (hkr : kOK X kr) : Met l yX4_bar wsX4_bar ({ frames := 2, cells := 0, slots := 0, locals := 42 } : Room) (va_Pc [.ref (am 0), .int (b), .int (pv)] (ro_B D (tyL ci) (wN ci am X kr q0 q1 q2 q3 q4 q5 iw kn y0 y1 y2 y3 y4 y5 y6) (enT))) (mu_Q (aM am) (some (.int ((p_bar X b pv).1))) (fun H => ∃ (kr : Nat → Int32) (q0 : Int32) (q1 : Int32) (q2 : Int32) (q3 : Int32) (q4 : Int32) (q5 : Int32) (iw : Bool) (y0 : Nat → Int32) (y1 : Nat → Int32) (y2 : Nat → Int32) (y3 : Nat → Int32) (y4 : Nat → Int32) (y5 : Nat → Int32) (y6 : Nat → Int32), kOK (p_bar X b pv).2 kr ∧ va_P D vwCl (wN ci am ((p_bar X b pv).2) kr q0 q1 q2 q3 q4 q5 iw kn y0 y1 y2 y3 y4 y5 y6) H)) 0 0 (aM am) := by
  refine mu_Met (cc := cX4_bar) (maxL := 3) (ret := (some .int)) [(0, .ref (am 0)), (1, .int (b)), (2, .int (pv))] (wN_D hI) (by decide) rfl (Nat.le_of_ble_eq_true rfl) rfl ?_
  intro p e s m below meth c H locs hx hb hml hr hlocks hts hown hP hK hs0 hD hS ls hl
  have hown : s.vm.findClass RX4 = some m.cls := hown
  have hE := hE_T
  have hWF := hWX.w
  have f_n := hWF.n
  have f_e := hWX.e
  have f_tl := hWX.t
  refine lv_iload_n hx hb dX4_bar_0 rfl (lv_at hl 1 rfl) ?_
  refine ro_S (n := 1) (As := [.int (b)]) (rest := []) ⟨hx, hb, hml, hown, hts⟩ (c_X4_isBar l D ci (wN ci am X kr q0 q1 q2 q3 q4 q5 iw kn y0 y1 y2 y3 y4 y5 y6) (b) ) gX4_bar_X4_isBar rfl ⟨rfl, rfl⟩ (by decide +kernel) rfl ⟨Nat.le_of_ble_eq_true rfl, Nat.le_of_ble_eq_true rfl⟩ hE trivial hK hP hl.1 rfl (Nat.le_of_ble_eq_true rfl) dX4_bar_1 ⟨Nat.zero_le _, Nat.zero_le _⟩ ?_
  refine nv_ifeq_b (tgt := 25) hx hb dX4_bar_4 (by decide) (fun c1 => ?_) (fun c1 => ?_)
  · refine lv_aload_n hx hb dX4_bar_25 rfl (lv_at hl 0 rfl) ?_
    refine lv_ldc (v := -1000001) hx hb hown (hts (.constant RX4 72 (-1000001)) (List.mem_of_getElem? (i := 1) rfl)) dX4_bar_26 ?_
    refine mu_V (n := 1) (As := [.int (-1000001)]) (rest := []) ⟨hx, hb, hml, hown, hts⟩ (c_X4_finding l D ci am X kr q0 q1 q2 q3 q4 q5 iw kn y0 y1 y2 y3 y4 y5 y6 hI (-1000001) (0) (by omega) (by decide)) gX4_bar_X4_finding rfl ⟨rfl, rfl⟩ (by decide +kernel) rfl ⟨Nat.le_of_ble_eq_true rfl, Nat.le_of_ble_eq_true rfl⟩ hE trivial hK hP (ci := 4) (q0 := 0) rfl rfl hl.1 rfl (Nat.le_of_ble_eq_true rfl) dX4_bar_28 ⟨Nat.zero_le _, Nat.zero_le _⟩ hS (fun _ h => h) (fun H1 locs hz hfr hB hS => ?_)
    have hP := hB
    have hP : va_P D vwCl (wN ci am (toF X (inc X.2.2.2.1 0)) kr q0 q1 q2 q3 q4 q5 iw kn y0 y1 y2 y3 y4 y5 y6) H1 := hP
    generalize H1 = H at hP hS ⊢
    have hD : va_D (aM am) (wN ci am (toF X (inc X.2.2.2.1 0)) kr q0 q1 q2 q3 q4 q5 iw kn y0 y1 y2 y3 y4 y5 y6) := wN_D hI
    have hp : p_bar X b pv = (fnd 0, toF X (inc X.2.2.2.1 0)) := by first | (simp [p_bar, bk, fl_eq, inP, c1]; done) | (simp [p_bar, bk, fl_eq, inP, c1] <;> omega)
    refine nv_cv (show fnd 0 = (p_bar X b pv).1 from by rw [hp]) ?_
    exact mu_iret hx hb hr hlocks hS ((by rw [hp]; exact ⟨_, _, _, _, _, _, _, _, _, _, _, _, _, _, _, hkr, hP⟩)) dX4_bar_31
  · obtain ⟨bn, h_bn, rfl⟩ := in_ex c1 (by omega)
    have t_bn : tn (nI bn) = bn := tn_nI (by omega)
    refine lv_iload_n hx hb dX4_bar_7 rfl (lv_at hl 2 rfl) ?_
    refine ro_S (n := 1) (As := [.int (pv)]) (rest := []) ⟨hx, hb, hml, hown, hts⟩ (c_X4_areParts l D ci (wN ci am X kr q0 q1 q2 q3 q4 q5 iw kn y0 y1 y2 y3 y4 y5 y6) (pv) ) gX4_bar_X4_areParts rfl ⟨rfl, rfl⟩ (by decide +kernel) rfl ⟨Nat.le_of_ble_eq_true rfl, Nat.le_of_ble_eq_true rfl⟩ hE trivial hK hP hl.1 rfl (Nat.le_of_ble_eq_true rfl) dX4_bar_8 ⟨Nat.zero_le _, Nat.zero_le _⟩ ?_
    refine nv_ifeq_b (tgt := 25) hx hb dX4_bar_11 (by decide) (fun c2 => ?_) (fun c2 => ?_)
    · refine lv_aload_n hx hb dX4_bar_25 rfl (lv_at hl 0 rfl) ?_
      refine lv_ldc (v := -1000001) hx hb hown (hts (.constant RX4 72 (-1000001)) (List.mem_of_getElem? (i := 1) rfl)) dX4_bar_26 ?_
      refine mu_V (n := 1) (As := [.int (-1000001)]) (rest := []) ⟨hx, hb, hml, hown, hts⟩ (c_X4_finding l D ci am X kr q0 q1 q2 q3 q4 q5 iw kn y0 y1 y2 y3 y4 y5 y6 hI (-1000001) (0) (by omega) (by decide)) gX4_bar_X4_finding rfl ⟨rfl, rfl⟩ (by decide +kernel) rfl ⟨Nat.le_of_ble_eq_true rfl, Nat.le_of_ble_eq_true rfl⟩ hE trivial hK hP (ci := 4) (q0 := 0) rfl rfl hl.1 rfl (Nat.le_of_ble_eq_true rfl) dX4_bar_28 ⟨Nat.zero_le _, Nat.zero_le _⟩ hS (fun _ h => h) (fun H1 locs hz hfr hB hS => ?_)
      have hP := hB
      have hP : va_P D vwCl (wN ci am (toF X (inc X.2.2.2.1 0)) kr q0 q1 q2 q3 q4 q5 iw kn y0 y1 y2 y3 y4 y5 y6) H1 := hP
      generalize H1 = H at hP hS ⊢
      have hD : va_D (aM am) (wN ci am (toF X (inc X.2.2.2.1 0)) kr q0 q1 q2 q3 q4 q5 iw kn y0 y1 y2 y3 y4 y5 y6) := wN_D hI
      have hp : p_bar X (nI bn) pv = (fnd 0, toF X (inc X.2.2.2.1 0)) := by first | (simp [p_bar, bk, fl_eq, inP, c1, c2, t_bn]; done) | (simp [p_bar, bk, fl_eq, inP, c1, c2, t_bn] <;> omega)
      refine nv_cv (show fnd 0 = (p_bar X (nI bn) pv).1 from by rw [hp]) ?_
      exact mu_iret hx hb hr hlocks hS ((by rw [hp]; exact ⟨_, _, _, _, _, _, _, _, _, _, _, _, _, _, _, hkr, hP⟩)) dX4_bar_31
    · obtain ⟨pvn, h_pvn, rfl⟩ := in_ex c2 (by omega)
      have t_pvn : tn (nI pvn) = pvn := tn_nI (by omega)
      refine lv_aload_n hx hb dX4_bar_14 rfl (lv_at hl 0 rfl) ?_
      refine lv_iconst (v := nI (3)) hx hb dX4_bar_15 (by decide) ?_
      refine lv_iload_n hx hb dX4_bar_16 rfl (lv_at hl 1 rfl) ?_
      refine nv_iadd hx hb dX4_bar_17 ?_
      refine lv_iload_n hx hb dX4_bar_18 rfl (lv_at hl 2 rfl) ?_
      refine mu_V (n := 2) (As := [.int (nI ((3 + bn))), .int (nI pvn)]) (rest := []) ⟨hx, hb, hml, hown, hts⟩ (c_X4_become l D ci am X kr q0 q1 q2 q3 q4 q5 iw kn y0 y1 y2 y3 y4 y5 y6 hI ((3 + bn)) (nI (pvn)) (st X.1 0 bn pvn) (nI (X.1 0 bn)) (by omega) (pk_bar X.1 (by omega)) (pku_bar X.1 (by omega))) gX4_bar_X4_become rfl ⟨rfl, rfl⟩ (by decide +kernel) rfl ⟨Nat.le_of_ble_eq_true rfl, Nat.le_of_ble_eq_true rfl⟩ hE trivial hK hP (ci := 4) (q0 := 0) rfl rfl hl.1 rfl (Nat.le_of_ble_eq_true rfl) dX4_bar_19 ⟨Nat.zero_le _, Nat.zero_le _⟩ hS (fun _ h => h) (fun H1 locs hz hfr hB hS => ?_)
      have hP := hB
      have hP : va_P D vwCl (wN ci am (toS X (st X.1 0 bn pvn)) kr q0 q1 q2 q3 q4 q5 iw kn y0 y1 y2 y3 y4 y5 y6) H1 := hP
      generalize H1 = H at hP hS ⊢
      have hD : va_D (aM am) (wN ci am (toS X (st X.1 0 bn pvn)) kr q0 q1 q2 q3 q4 q5 iw kn y0 y1 y2 y3 y4 y5 y6) := wN_D hI
      refine lv_goto (tgt := 31) hx hb dX4_bar_22 (by decide) ?_
      have hp : p_bar X (nI bn) (nI pvn) = (nI (X.1 0 bn), toS X (st X.1 0 bn pvn)) := by first | (simp [p_bar, bk, fl_eq, inP, c1, c2, t_bn, t_pvn]; done) | (simp [p_bar, bk, fl_eq, inP, c1, c2, t_bn, t_pvn] <;> omega)
      refine nv_cv (show nI (X.1 0 bn) = (p_bar X (nI bn) (nI pvn)).1 from by rw [hp]) ?_
      exact mu_iret hx hb hr hlocks hS ((by rw [hp]; exact ⟨_, _, _, _, _, _, _, _, _, _, _, _, _, _, _, hkr, hP⟩)) dX4_bar_31

set_option maxHeartbeats 4000000 in
set_option maxRecDepth 100000 in
/-- X4_player -/
theorem c_X4_player (l : Launch) (D : va_G) (ci : Nat → ClassId) (am : Nat → Nat) (X : AS) (kr : Nat → Int32) (q0 q1 q2 q3 q4 q5 : Int32) (iw : Bool) (kn : Nat → Option Nat) (y0 y1 y2 y3 y4 y5 y6 : Nat → Int32) (hI : injA am 16) (kd sv : Int32) (hWX : WFX X) (hkr : kOK X kr) : Met l yX4_player wsX4_player ({ frames := 2, cells := 0, slots := 0, locals := 47 } : Room) (va_Pc [.ref (am 0), .int (kd), .int (sv)] (ro_B D (tyL ci) (wN ci am X kr q0 q1 q2 q3 q4 q5 iw kn y0 y1 y2 y3 y4 y5 y6) (enT))) (mu_Q (aM am) (some (.int ((p_player X kd sv).1))) (fun H => ∃ (kr : Nat → Int32) (q0 : Int32) (q1 : Int32) (q2 : Int32) (q3 : Int32) (q4 : Int32) (q5 : Int32) (iw : Bool) (y0 : Nat → Int32) (y1 : Nat → Int32) (y2 : Nat → Int32) (y3 : Nat → Int32) (y4 : Nat → Int32) (y5 : Nat → Int32) (y6 : Nat → Int32), kOK (p_player X kd sv).2 kr ∧ va_P D vwCl (wN ci am ((p_player X kd sv).2) kr q0 q1 q2 q3 q4 q5 iw kn y0 y1 y2 y3 y4 y5 y6) H)) 0 0 (aM am) := by
  refine mu_Met (cc := cX4_player) (maxL := 3) (ret := (some .int)) [(0, .ref (am 0)), (1, .int (kd)), (2, .int (sv))] (wN_D hI) (by decide) rfl (Nat.le_of_ble_eq_true rfl) rfl ?_
  intro p e s m below meth c H locs hx hb hml hr hlocks hts hown hP hK hs0 hD hS ls hl
  have hown : s.vm.findClass RX4 = some m.cls := hown
  have hinX4 : ∀ w ∈ wsX40, w ∈ wsX4_player := by decide +kernel
  have hE := hE_T
  have hWF := hWX.w
  have f_n := hWF.n
  have f_e := hWX.e
  have f_tl := hWX.t
  refine lv_iload_n hx hb dX4_player_0 rfl (lv_at hl 1 rfl) ?_
  refine ro_S (n := 1) (As := [.int (kd)]) (rest := []) ⟨hx, hb, hml, hown, hts⟩ (c_X4_isKind l D ci (wN ci am X kr q0 q1 q2 q3 q4 q5 iw kn y0 y1 y2 y3 y4 y5 y6) (kd) ) gX4_player_X4_isKind rfl ⟨rfl, rfl⟩ (by decide +kernel) rfl ⟨Nat.le_of_ble_eq_true rfl, Nat.le_of_ble_eq_true rfl⟩ hE trivial hK hP hl.1 rfl (Nat.le_of_ble_eq_true rfl) dX4_player_1 ⟨Nat.zero_le _, Nat.zero_le _⟩ ?_
  refine nv_ifeq_b (tgt := 14) hx hb dX4_player_4 (by decide) (fun c1 => ?_) (fun c1 => ?_)
  · refine lv_aload_n hx hb dX4_player_14 rfl (lv_at hl 0 rfl) ?_
    refine lv_ldc (v := -1000001) hx hb hown (hts (.constant RX4 72 (-1000001)) (List.mem_of_getElem? (i := 1) rfl)) dX4_player_15 ?_
    refine mu_V (n := 1) (As := [.int (-1000001)]) (rest := []) ⟨hx, hb, hml, hown, hts⟩ (c_X4_finding l D ci am X kr q0 q1 q2 q3 q4 q5 iw kn y0 y1 y2 y3 y4 y5 y6 hI (-1000001) (0) (by omega) (by decide)) gX4_player_X4_finding rfl ⟨rfl, rfl⟩ (by decide +kernel) rfl ⟨Nat.le_of_ble_eq_true rfl, Nat.le_of_ble_eq_true rfl⟩ hE trivial hK hP (ci := 4) (q0 := 0) rfl rfl hl.1 rfl (Nat.le_of_ble_eq_true rfl) dX4_player_17 ⟨Nat.zero_le _, Nat.zero_le _⟩ hS (fun _ h => h) (fun H1 locs hz hfr hB hS => ?_)
    have hP := hB
    have hP : va_P D vwCl (wN ci am (toF X (inc X.2.2.2.1 0)) kr q0 q1 q2 q3 q4 q5 iw kn y0 y1 y2 y3 y4 y5 y6) H1 := hP
    generalize H1 = H at hP hS ⊢
    have hD : va_D (aM am) (wN ci am (toF X (inc X.2.2.2.1 0)) kr q0 q1 q2 q3 q4 q5 iw kn y0 y1 y2 y3 y4 y5 y6) := wN_D hI
    have hp : p_player X kd sv = (fnd 0, toF X (inc X.2.2.2.1 0)) := by first | (simp [p_player, bk, fl_eq, c1]; done) | (simp [p_player, bk, fl_eq, show ¬ X.1 7 0 < 8 by omega, c1]; done) | (simp [p_player, bk, fl_eq, engS, comeS, show X.1 7 0 < 8 by omega, c1]; done)
    refine nv_cv (show fnd 0 = (p_player X kd sv).1 from by rw [hp]) ?_
    exact mu_iret hx hb hr hlocks hS ((by rw [hp]; exact ⟨_, _, _, _, _, _, _, _, _, _, _, _, _, _, _, hkr, hP⟩)) dX4_player_20
  · obtain ⟨kdn, h_kdn, rfl⟩ := in_ex c1 (by omega)
    have t_kdn : tn (nI kdn) = kdn := tn_nI (by omega)
    refine lv_iload_n hx hb dX4_player_7 rfl (lv_at hl 2 rfl) ?_
    refine ro_S (n := 1) (As := [.int (sv)]) (rest := []) ⟨hx, hb, hml, hown, hts⟩ (c_X4_isSeat l D ci (wN ci am X kr q0 q1 q2 q3 q4 q5 iw kn y0 y1 y2 y3 y4 y5 y6) (sv) ) gX4_player_X4_isSeat rfl ⟨rfl, rfl⟩ (by decide +kernel) rfl ⟨Nat.le_of_ble_eq_true rfl, Nat.le_of_ble_eq_true rfl⟩ hE trivial hK hP hl.1 rfl (Nat.le_of_ble_eq_true rfl) dX4_player_8 ⟨Nat.zero_le _, Nat.zero_le _⟩ ?_
    refine nv_ifne_b (tgt := 21) hx hb dX4_player_11 (by decide) (fun c2 => ?_) (fun c2 => ?_)
    · obtain ⟨svn, h_svn, rfl⟩ := in_ex c2 (by omega)
      have t_svn : tn (nI svn) = svn := tn_nI (by omega)
      refine lv_aload_n hx hb dX4_player_21 rfl (lv_at hl 0 rfl) ?_
      refine va_get (D := D) (ci := 4) (v := .ref (am 1)) (C := RX4) (T := TX4) (N := 24) hx hb hts hinX4 hown hK hP 0 rfl rfl 0 (by decide) (hts (.fieldLink RX4 9 "OneShortModel" "now" "[I") (List.mem_of_getElem? (i := 2) rfl)) (fun _ h9 => h9) rfl dX4_player_22 ?_
      refine lv_iconst (v := nI (1)) hx hb dX4_player_25 (by decide) ?_
      refine nv_iald (v := nI (X.1 7 0)) hx hb hK hP 1 0 rfl rfl (by omega) (by decide) (pk_n X.1) dX4_player_26 ?_
      refine lv_bipush (v := nI (8)) hx hb dX4_player_27 (by decide) ?_
      refine nv_icmp_ne (tgt := 41) hx hb (by omega) (by omega) dX4_player_29 (by decide) (fun c3 => ?_) (fun c3 => ?_)
      · refine lv_aload_n hx hb dX4_player_41 rfl (lv_at hl 0 rfl) ?_
        refine lv_iload_n hx hb dX4_player_42 rfl (lv_at hl 1 rfl) ?_
        refine lv_iload_n hx hb dX4_player_43 rfl (lv_at hl 2 rfl) ?_
        refine lv_iconst (v := nI (0)) hx hb dX4_player_44 (by decide) ?_
        refine lv_iconst (v := nI (5)) hx hb dX4_player_45 (by decide) ?_
        refine lv_bipush (v := nI (50)) hx hb dX4_player_46 (by decide) ?_
        refine mu_V (n := 5) (As := [.int (nI kdn), .int (nI svn), .int (nI 0), .int (nI 5), .int (nI 50)]) (rest := []) ⟨hx, hb, hml, hown, hts⟩ (c_X4_comes l D ci am X kr q0 q1 q2 q3 q4 q5 iw kn y0 y1 y2 y3 y4 y5 y6 hI (kdn) (svn) (0) (5) (50) hWF (by omega)) gX4_player_X4_comes rfl ⟨rfl, rfl⟩ (by decide +kernel) rfl ⟨Nat.le_of_ble_eq_true rfl, Nat.le_of_ble_eq_true rfl⟩ hE trivial hK hP (ci := 4) (q0 := 0) rfl rfl hl.1 rfl (Nat.le_of_ble_eq_true rfl) dX4_player_48 ⟨Nat.zero_le _, Nat.zero_le _⟩ hS (fun _ h => h) (fun H1 locs hz hfr hB hS => ?_)
        have hP := hB
        have hP : va_P D vwCl (wN ci am (toS X (comeS X.1 kdn svn 0 5 50)) kr q0 q1 q2 q3 q4 q5 iw kn y0 y1 y2 y3 y4 y5 y6) H1 := hP
        generalize H1 = H at hP hS ⊢
        have hD : va_D (aM am) (wN ci am (toS X (comeS X.1 kdn svn 0 5 50)) kr q0 q1 q2 q3 q4 q5 iw kn y0 y1 y2 y3 y4 y5 y6) := wN_D hI
        have hp : p_player X (nI kdn) (nI svn) = (nI (X.1 7 0), toS X (comeS X.1 kdn svn 0 5 50)) := by first | (simp [p_player, bk, fl_eq, c1, c2, c3, t_kdn, t_svn]; done) | (simp [p_player, bk, fl_eq, show ¬ X.1 7 0 < 8 by omega, c1, c2, c3, t_kdn, t_svn]; done) | (simp [p_player, bk, fl_eq, engS, comeS, show X.1 7 0 < 8 by omega, c1, c2, c3, t_kdn, t_svn]; done)
        refine nv_cv (show nI (X.1 7 0) = (p_player X (nI kdn) (nI svn)).1 from by rw [hp]) ?_
        exact mu_iret hx hb hr hlocks hS ((by rw [hp]; exact ⟨_, _, _, _, _, _, _, _, _, _, _, _, _, _, _, hkr, hP⟩)) dX4_player_51
      · refine lv_aload_n hx hb dX4_player_32 rfl (lv_at hl 0 rfl) ?_
        refine lv_ldc (v := -1000002) hx hb hown (hts (.constant RX4 141 (-1000002)) (List.mem_of_getElem? (i := 3) rfl)) dX4_player_33 ?_
        refine mu_V (n := 1) (As := [.int (-1000002)]) (rest := []) ⟨hx, hb, hml, hown, hts⟩ (c_X4_finding l D ci am X kr q0 q1 q2 q3 q4 q5 iw kn y0 y1 y2 y3 y4 y5 y6 hI (-1000002) (1) (by omega) (by decide)) gX4_player_X4_finding rfl ⟨rfl, rfl⟩ (by decide +kernel) rfl ⟨Nat.le_of_ble_eq_true rfl, Nat.le_of_ble_eq_true rfl⟩ hE trivial hK hP (ci := 4) (q0 := 0) rfl rfl hl.1 rfl (Nat.le_of_ble_eq_true rfl) dX4_player_35 ⟨Nat.zero_le _, Nat.zero_le _⟩ hS (fun _ h => h) (fun H1 locs hz hfr hB hS => ?_)
        have hP := hB
        have hP : va_P D vwCl (wN ci am (toF X (inc X.2.2.2.1 1)) kr q0 q1 q2 q3 q4 q5 iw kn y0 y1 y2 y3 y4 y5 y6) H1 := hP
        generalize H1 = H at hP hS ⊢
        have hD : va_D (aM am) (wN ci am (toF X (inc X.2.2.2.1 1)) kr q0 q1 q2 q3 q4 q5 iw kn y0 y1 y2 y3 y4 y5 y6) := wN_D hI
        refine lv_goto (tgt := 51) hx hb dX4_player_38 (by decide) ?_
        have hp : p_player X (nI kdn) (nI svn) = (fnd 1, toF X (inc X.2.2.2.1 1)) := by first | (simp [p_player, bk, fl_eq, c1, c2, c3, t_kdn, t_svn]; done) | (simp [p_player, bk, fl_eq, show ¬ X.1 7 0 < 8 by omega, c1, c2, c3, t_kdn, t_svn]; done) | (simp [p_player, bk, fl_eq, engS, comeS, show X.1 7 0 < 8 by omega, c1, c2, c3, t_kdn, t_svn]; done)
        refine nv_cv (show fnd 1 = (p_player X (nI kdn) (nI svn)).1 from by rw [hp]) ?_
        exact mu_iret hx hb hr hlocks hS ((by rw [hp]; exact ⟨_, _, _, _, _, _, _, _, _, _, _, _, _, _, _, hkr, hP⟩)) dX4_player_51
    · refine lv_aload_n hx hb dX4_player_14 rfl (lv_at hl 0 rfl) ?_
      refine lv_ldc (v := -1000001) hx hb hown (hts (.constant RX4 72 (-1000001)) (List.mem_of_getElem? (i := 1) rfl)) dX4_player_15 ?_
      refine mu_V (n := 1) (As := [.int (-1000001)]) (rest := []) ⟨hx, hb, hml, hown, hts⟩ (c_X4_finding l D ci am X kr q0 q1 q2 q3 q4 q5 iw kn y0 y1 y2 y3 y4 y5 y6 hI (-1000001) (0) (by omega) (by decide)) gX4_player_X4_finding rfl ⟨rfl, rfl⟩ (by decide +kernel) rfl ⟨Nat.le_of_ble_eq_true rfl, Nat.le_of_ble_eq_true rfl⟩ hE trivial hK hP (ci := 4) (q0 := 0) rfl rfl hl.1 rfl (Nat.le_of_ble_eq_true rfl) dX4_player_17 ⟨Nat.zero_le _, Nat.zero_le _⟩ hS (fun _ h => h) (fun H1 locs hz hfr hB hS => ?_)
      have hP := hB
      have hP : va_P D vwCl (wN ci am (toF X (inc X.2.2.2.1 0)) kr q0 q1 q2 q3 q4 q5 iw kn y0 y1 y2 y3 y4 y5 y6) H1 := hP
      generalize H1 = H at hP hS ⊢
      have hD : va_D (aM am) (wN ci am (toF X (inc X.2.2.2.1 0)) kr q0 q1 q2 q3 q4 q5 iw kn y0 y1 y2 y3 y4 y5 y6) := wN_D hI
      have hp : p_player X (nI kdn) sv = (fnd 0, toF X (inc X.2.2.2.1 0)) := by first | (simp [p_player, bk, fl_eq, c1, c2, t_kdn]; done) | (simp [p_player, bk, fl_eq, show ¬ X.1 7 0 < 8 by omega, c1, c2, t_kdn]; done) | (simp [p_player, bk, fl_eq, engS, comeS, show X.1 7 0 < 8 by omega, c1, c2, t_kdn]; done)
      refine nv_cv (show fnd 0 = (p_player X (nI kdn) sv).1 from by rw [hp]) ?_
      exact mu_iret hx hb hr hlocks hS ((by rw [hp]; exact ⟨_, _, _, _, _, _, _, _, _, _, _, _, _, _, _, hkr, hP⟩)) dX4_player_20

set_option maxHeartbeats 4000000 in
set_option maxRecDepth 100000 in
/-- X4_of -/
theorem c_X4_of (l : Launch) (D : va_G) (ci : Nat → ClassId) (am : Nat → Nat) (X : AS) (kr : Nat → Int32) (q0 q1 q2 q3 q4 q5 : Int32) (iw : Bool) (kn : Nat → Option Nat) (y0 y1 y2 y3 y4 y5 y6 : Nat → Int32) (hI : injA am 16) (q w : Int32) (hWX : WFX X) (hkr : kOK X kr) : Met l yX4_of wsX4_of ({ frames := 8, cells := 0, slots := 0, locals := 185 } : Room) (va_Pc [.ref (am 0), .int (q), .int (w)] (ro_B D (tyL ci) (wN ci am X kr q0 q1 q2 q3 q4 q5 iw kn y0 y1 y2 y3 y4 y5 y6) (enT))) (mu_Q (aM am) (some (.int ((p_of X q w).1))) (fun H => ∃ (kr : Nat → Int32) (q0 : Int32) (q1 : Int32) (q2 : Int32) (q3 : Int32) (q4 : Int32) (q5 : Int32) (iw : Bool) (y0 : Nat → Int32) (y1 : Nat → Int32) (y2 : Nat → Int32) (y3 : Nat → Int32) (y4 : Nat → Int32) (y5 : Nat → Int32) (y6 : Nat → Int32), kOK (p_of X q w).2 kr ∧ va_P D vwCl (wN ci am ((p_of X q w).2) kr q0 q1 q2 q3 q4 q5 iw kn y0 y1 y2 y3 y4 y5 y6) H)) 0 0 (aM am) := by
  refine mu_Met (cc := cX4_of) (maxL := 3) (ret := (some .int)) [(0, .ref (am 0)), (1, .int (q)), (2, .int (w))] (wN_D hI) (by decide) rfl (Nat.le_of_ble_eq_true rfl) rfl ?_
  intro p e s m below meth c H locs hx hb hml hr hlocks hts hown hP hK hs0 hD hS ls hl
  have hown : s.vm.findClass RX4 = some m.cls := hown
  have hE := hE_T
  have hWF := hWX.w
  have f_n := hWF.n
  have f_e := hWX.e
  have f_tl := hWX.t
  refine lv_aload_n hx hb dX4_of_0 rfl (lv_at hl 0 rfl) ?_
  refine lv_iload_n hx hb dX4_of_1 rfl (lv_at hl 1 rfl) ?_
  refine ro_V (n := 1) (As := [.int (q)]) (rest := []) ⟨hx, hb, hml, hown, hts⟩ (c_X4_isPlayer l D ci am X kr q0 q1 q2 q3 q4 q5 iw kn y0 y1 y2 y3 y4 y5 y6 (q) hWF) gX4_of_X4_isPlayer rfl ⟨rfl, rfl⟩ (by decide +kernel) rfl ⟨Nat.le_of_ble_eq_true rfl, Nat.le_of_ble_eq_true rfl⟩ hE trivial hK hP (ci := 4) (q0 := 0) rfl rfl hl.1 rfl (Nat.le_of_ble_eq_true rfl) dX4_of_2 ⟨Nat.zero_le _, Nat.zero_le _⟩ ?_
  refine nv_ifeq_b (tgt := 18) hx hb dX4_of_5 (by decide) (fun c1 => ?_) (fun c1 => ?_)
  · refine lv_aload_n hx hb dX4_of_18 rfl (lv_at hl 0 rfl) ?_
    refine lv_ldc (v := -1000001) hx hb hown (hts (.constant RX4 72 (-1000001)) (List.mem_of_getElem? (i := 1) rfl)) dX4_of_19 ?_
    refine mu_V (n := 1) (As := [.int (-1000001)]) (rest := []) ⟨hx, hb, hml, hown, hts⟩ (c_X4_finding l D ci am X kr q0 q1 q2 q3 q4 q5 iw kn y0 y1 y2 y3 y4 y5 y6 hI (-1000001) (0) (by omega) (by decide)) gX4_of_X4_finding rfl ⟨rfl, rfl⟩ (by decide +kernel) rfl ⟨Nat.le_of_ble_eq_true rfl, Nat.le_of_ble_eq_true rfl⟩ hE trivial hK hP (ci := 4) (q0 := 0) rfl rfl hl.1 rfl (Nat.le_of_ble_eq_true rfl) dX4_of_21 ⟨Nat.zero_le _, Nat.zero_le _⟩ hS (fun _ h => h) (fun H1 locs hz hfr hB hS => ?_)
    have hP := hB
    have hP : va_P D vwCl (wN ci am (toF X (inc X.2.2.2.1 0)) kr q0 q1 q2 q3 q4 q5 iw kn y0 y1 y2 y3 y4 y5 y6) H1 := hP
    generalize H1 = H at hP hS ⊢
    have hD : va_D (aM am) (wN ci am (toF X (inc X.2.2.2.1 0)) kr q0 q1 q2 q3 q4 q5 iw kn y0 y1 y2 y3 y4 y5 y6) := wN_D hI
    have hp : p_of X q w = (fnd 0, toF X (inc X.2.2.2.1 0)) := by first | (simp [p_of, inP, bk, fl_eq, c1]; done) | ((obtain rfl : wn = 5 := by omega); simp [p_of, bk, fl_eq, inP, c1]; done) | ((obtain rfl : wn = 6 := by omega); simp [p_of, bk, fl_eq, inP, c1]; done) | ((rcases (show wn = 0 ∨ wn = 1 ∨ wn = 2 ∨ wn = 3 ∨ wn = 4 by omega) with rfl | rfl | rfl | rfl | rfl <;> simp [p_of, bk, fl_eq, inP, c1]); done)
    refine nv_cv (show fnd 0 = (p_of X q w).1 from by rw [hp]) ?_
    exact mu_iret hx hb hr hlocks hS ((by rw [hp]; exact ⟨_, _, _, _, _, _, _, _, _, _, _, _, _, _, _, hkr, hP⟩)) dX4_of_24
  · obtain ⟨qn, h_qn, rfl⟩ := in_ex c1 (by omega)
    have t_qn : tn (nI qn) = qn := tn_nI (by omega)
    refine lv_iload_n hx hb dX4_of_8 rfl (lv_at hl 2 rfl) ?_
    refine lv_iconst (v := nI (0)) hx hb dX4_of_9 (by decide) ?_
    refine lv_bipush (v := nI (6)) hx hb dX4_of_10 (by decide) ?_
    refine ro_S (n := 3) (As := [.int (w), .int (nI 0), .int (nI 6)]) (rest := []) ⟨hx, hb, hml, hown, hts⟩ (c_X4_within l D ci (wN ci am X kr q0 q1 q2 q3 q4 q5 iw kn y0 y1 y2 y3 y4 y5 y6) (w) (nI (0)) (nI (6)) ) gX4_of_X4_within rfl ⟨rfl, rfl⟩ (by decide +kernel) rfl ⟨Nat.le_of_ble_eq_true rfl, Nat.le_of_ble_eq_true rfl⟩ hE trivial hK hP hl.1 rfl (Nat.le_of_ble_eq_true rfl) dX4_of_12 ⟨Nat.zero_le _, Nat.zero_le _⟩ ?_
    refine nv_cv (congrArg bI (wth_in w 6 (by decide))) ?_
    refine nv_ifne_b (tgt := 25) hx hb dX4_of_15 (by decide) (fun c2 => ?_) (fun c2 => ?_)
    · obtain ⟨wn, h_wn, rfl⟩ := in_ex c2 (by omega)
      have t_wn : tn (nI wn) = wn := tn_nI (by omega)
      refine lv_iload_n hx hb dX4_of_25 rfl (lv_at hl 2 rfl) ?_
      refine lv_iconst (v := nI (5)) hx hb dX4_of_26 (by decide) ?_
      refine nv_icmp_ne (tgt := 38) hx hb (by omega) (by omega) dX4_of_27 (by decide) (fun c3 => ?_) (fun c3 => ?_)
      · refine lv_iload_n hx hb dX4_of_38 rfl (lv_at hl 2 rfl) ?_
        refine lv_bipush (v := nI (6)) hx hb dX4_of_39 (by decide) ?_
        refine nv_icmp_ne (tgt := 52) hx hb (by omega) (by omega) dX4_of_41 (by decide) (fun c4 => ?_) (fun c4 => ?_)
        · refine lv_aload_n hx hb dX4_of_52 rfl (lv_at hl 0 rfl) ?_
          refine lv_iload_n hx hb dX4_of_53 rfl (lv_at hl 1 rfl) ?_
          refine lv_iload_n hx hb dX4_of_54 rfl (lv_at hl 2 rfl) ?_
          refine ro_V (n := 2) (As := [.int (nI qn), .int (nI wn)]) (rest := []) ⟨hx, hb, hml, hown, hts⟩ (c_X4_playerIs l D ci am X kr q0 q1 q2 q3 q4 q5 iw kn y0 y1 y2 y3 y4 y5 y6 (qn) (wn) hWF (by omega) (by omega)) gX4_of_X4_playerIs rfl ⟨rfl, rfl⟩ (by decide +kernel) rfl ⟨Nat.le_of_ble_eq_true rfl, Nat.le_of_ble_eq_true rfl⟩ hE trivial hK hP (ci := 4) (q0 := 0) rfl rfl hl.1 rfl (Nat.le_of_ble_eq_true rfl) dX4_of_55 ⟨Nat.zero_le _, Nat.zero_le _⟩ ?_
          have hp : p_of X (nI qn) (nI wn) = (nI (X.1 (wn + 1) qn), X) := by first | (simp [p_of, inP, bk, fl_eq, c1, c2, c3, c4, t_qn, t_wn]; done) | ((obtain rfl : wn = 5 := by omega); simp [p_of, bk, fl_eq, inP, c1, c2, c3, c4, t_qn, t_wn]; done) | ((obtain rfl : wn = 6 := by omega); simp [p_of, bk, fl_eq, inP, c1, c2, c3, c4, t_qn, t_wn]; done) | ((rcases (show wn = 0 ∨ wn = 1 ∨ wn = 2 ∨ wn = 3 ∨ wn = 4 by omega) with rfl | rfl | rfl | rfl | rfl <;> simp [p_of, bk, fl_eq, inP, c1, c2, c3, c4, t_qn, t_wn]); done)
          refine nv_cv (show nI (X.1 (wn + 1) qn) = (p_of X (nI qn) (nI wn)).1 from by rw [hp]) ?_
          exact mu_iret hx hb hr hlocks hS ((by rw [hp]; exact ⟨_, _, _, _, _, _, _, _, _, _, _, _, _, _, _, hkr, hP⟩)) dX4_of_58
        · refine lv_aload_n hx hb dX4_of_44 rfl (lv_at hl 0 rfl) ?_
          refine lv_iload_n hx hb dX4_of_45 rfl (lv_at hl 1 rfl) ?_
          refine ro_V (n := 1) (As := [.int (nI qn)]) (rest := []) ⟨hx, hb, hml, hown, hts⟩ (c_X4_aloneIn l D ci am X kr q0 q1 q2 q3 q4 q5 iw kn y0 y1 y2 y3 y4 y5 y6 (qn) hWF (by omega)) gX4_of_X4_aloneIn rfl ⟨rfl, rfl⟩ (by decide +kernel) rfl ⟨Nat.le_of_ble_eq_true rfl, Nat.le_of_ble_eq_true rfl⟩ hE trivial hK hP (ci := 4) (q0 := 0) rfl rfl hl.1 rfl (Nat.le_of_ble_eq_true rfl) dX4_of_46 ⟨Nat.zero_le _, Nat.zero_le _⟩ ?_
          refine lv_goto (tgt := 58) hx hb dX4_of_49 (by decide) ?_
          have hp : p_of X (nI qn) (nI wn) = (nI (bAlone X.1 qn), X) := by first | (simp [p_of, inP, bk, fl_eq, c1, c2, c3, c4, t_qn, t_wn]; done) | ((obtain rfl : wn = 5 := by omega); simp [p_of, bk, fl_eq, inP, c1, c2, c3, c4, t_qn, t_wn]; done) | ((obtain rfl : wn = 6 := by omega); simp [p_of, bk, fl_eq, inP, c1, c2, c3, c4, t_qn, t_wn]; done) | ((rcases (show wn = 0 ∨ wn = 1 ∨ wn = 2 ∨ wn = 3 ∨ wn = 4 by omega) with rfl | rfl | rfl | rfl | rfl <;> simp [p_of, bk, fl_eq, inP, c1, c2, c3, c4, t_qn, t_wn]); done)
          refine nv_cv (show nI (bAlone X.1 qn) = (p_of X (nI qn) (nI wn)).1 from by rw [hp]) ?_
          exact mu_iret hx hb hr hlocks hS ((by rw [hp]; exact ⟨_, _, _, _, _, _, _, _, _, _, _, _, _, _, _, hkr, hP⟩)) dX4_of_58
      · refine lv_aload_n hx hb dX4_of_30 rfl (lv_at hl 0 rfl) ?_
        refine lv_iload_n hx hb dX4_of_31 rfl (lv_at hl 1 rfl) ?_
        refine ro_V (n := 1) (As := [.int (nI qn)]) (rest := []) ⟨hx, hb, hml, hown, hts⟩ (c_X4_barsOf l D ci am X kr q0 q1 q2 q3 q4 q5 iw kn y0 y1 y2 y3 y4 y5 y6 (qn) hWF (by omega)) gX4_of_X4_barsOf rfl ⟨rfl, rfl⟩ (by decide +kernel) rfl ⟨Nat.le_of_ble_eq_true rfl, Nat.le_of_ble_eq_true rfl⟩ hE trivial hK hP (ci := 4) (q0 := 0) rfl rfl hl.1 rfl (Nat.le_of_ble_eq_true rfl) dX4_of_32 ⟨Nat.zero_le _, Nat.zero_le _⟩ ?_
        have f5 := bPlay_lt X.1 (qn)
        refine lv_goto (tgt := 58) hx hb dX4_of_35 (by decide) ?_
        have hp : p_of X (nI qn) (nI wn) = (nI (bPlay X.1 qn), X) := by first | (simp [p_of, inP, bk, fl_eq, c1, c2, c3, t_qn, t_wn]; done) | ((obtain rfl : wn = 5 := by omega); simp [p_of, bk, fl_eq, inP, c1, c2, c3, t_qn, t_wn]; done) | ((obtain rfl : wn = 6 := by omega); simp [p_of, bk, fl_eq, inP, c1, c2, c3, t_qn, t_wn]; done) | ((rcases (show wn = 0 ∨ wn = 1 ∨ wn = 2 ∨ wn = 3 ∨ wn = 4 by omega) with rfl | rfl | rfl | rfl | rfl <;> simp [p_of, bk, fl_eq, inP, c1, c2, c3, t_qn, t_wn]); done)
        refine nv_cv (show nI (bPlay X.1 qn) = (p_of X (nI qn) (nI wn)).1 from by rw [hp]) ?_
        exact mu_iret hx hb hr hlocks hS ((by rw [hp]; exact ⟨_, _, _, _, _, _, _, _, _, _, _, _, _, _, _, hkr, hP⟩)) dX4_of_58
    · refine lv_aload_n hx hb dX4_of_18 rfl (lv_at hl 0 rfl) ?_
      refine lv_ldc (v := -1000001) hx hb hown (hts (.constant RX4 72 (-1000001)) (List.mem_of_getElem? (i := 1) rfl)) dX4_of_19 ?_
      refine mu_V (n := 1) (As := [.int (-1000001)]) (rest := []) ⟨hx, hb, hml, hown, hts⟩ (c_X4_finding l D ci am X kr q0 q1 q2 q3 q4 q5 iw kn y0 y1 y2 y3 y4 y5 y6 hI (-1000001) (0) (by omega) (by decide)) gX4_of_X4_finding rfl ⟨rfl, rfl⟩ (by decide +kernel) rfl ⟨Nat.le_of_ble_eq_true rfl, Nat.le_of_ble_eq_true rfl⟩ hE trivial hK hP (ci := 4) (q0 := 0) rfl rfl hl.1 rfl (Nat.le_of_ble_eq_true rfl) dX4_of_21 ⟨Nat.zero_le _, Nat.zero_le _⟩ hS (fun _ h => h) (fun H1 locs hz hfr hB hS => ?_)
      have hP := hB
      have hP : va_P D vwCl (wN ci am (toF X (inc X.2.2.2.1 0)) kr q0 q1 q2 q3 q4 q5 iw kn y0 y1 y2 y3 y4 y5 y6) H1 := hP
      generalize H1 = H at hP hS ⊢
      have hD : va_D (aM am) (wN ci am (toF X (inc X.2.2.2.1 0)) kr q0 q1 q2 q3 q4 q5 iw kn y0 y1 y2 y3 y4 y5 y6) := wN_D hI
      have hp : p_of X (nI qn) w = (fnd 0, toF X (inc X.2.2.2.1 0)) := by first | (simp [p_of, inP, bk, fl_eq, c1, c2, t_qn]; done) | ((obtain rfl : wn = 5 := by omega); simp [p_of, bk, fl_eq, inP, c1, c2, t_qn]; done) | ((obtain rfl : wn = 6 := by omega); simp [p_of, bk, fl_eq, inP, c1, c2, t_qn]; done) | ((rcases (show wn = 0 ∨ wn = 1 ∨ wn = 2 ∨ wn = 3 ∨ wn = 4 by omega) with rfl | rfl | rfl | rfl | rfl <;> simp [p_of, bk, fl_eq, inP, c1, c2, t_qn]); done)
      refine nv_cv (show fnd 0 = (p_of X (nI qn) w).1 from by rw [hp]) ?_
      exact mu_iret hx hb hr hlocks hS ((by rw [hp]; exact ⟨_, _, _, _, _, _, _, _, _, _, _, _, _, _, _, hkr, hP⟩)) dX4_of_24

set_option maxHeartbeats 4000000 in
set_option maxRecDepth 100000 in
/-- X4_change -/
theorem c_X4_change (l : Launch) (D : va_G) (ci : Nat → ClassId) (am : Nat → Nat) (X : AS) (kr : Nat → Int32) (q0 q1 q2 q3 q4 q5 : Int32) (iw : Bool) (kn : Nat → Option Nat) (y0 y1 y2 y3 y4 y5 y6 : Nat → Int32) (hI : injA am 16) (q w v : Int32) (hWX : WFX X) (hkr : kOK X kr) : Met l yX4_change wsX4_change ({ frames := 3, cells := 0, slots := 0, locals := 63 } : Room) (va_Pc [.ref (am 0), .int (q), .int (w), .int (v)] (ro_B D (tyL ci) (wN ci am X kr q0 q1 q2 q3 q4 q5 iw kn y0 y1 y2 y3 y4 y5 y6) (enT))) (mu_Q (aM am) (some (.int ((p_change X q w v).1))) (fun H => ∃ (kr : Nat → Int32) (q0 : Int32) (q1 : Int32) (q2 : Int32) (q3 : Int32) (q4 : Int32) (q5 : Int32) (iw : Bool) (y0 : Nat → Int32) (y1 : Nat → Int32) (y2 : Nat → Int32) (y3 : Nat → Int32) (y4 : Nat → Int32) (y5 : Nat → Int32) (y6 : Nat → Int32), kOK (p_change X q w v).2 kr ∧ va_P D vwCl (wN ci am ((p_change X q w v).2) kr q0 q1 q2 q3 q4 q5 iw kn y0 y1 y2 y3 y4 y5 y6) H)) 0 0 (aM am) := by
  refine mu_Met (cc := cX4_change) (maxL := 4) (ret := (some .int)) [(0, .ref (am 0)), (1, .int (q)), (2, .int (w)), (3, .int (v))] (wN_D hI) (by decide) rfl (Nat.le_of_ble_eq_true rfl) rfl ?_
  intro p e s m below meth c H locs hx hb hml hr hlocks hts hown hP hK hs0 hD hS ls hl
  have hown : s.vm.findClass RX4 = some m.cls := hown
  have hE := hE_T
  have hWF := hWX.w
  have f_n := hWF.n
  have f_e := hWX.e
  have f_tl := hWX.t
  refine lv_aload_n hx hb dX4_change_0 rfl (lv_at hl 0 rfl) ?_
  refine lv_iload_n hx hb dX4_change_1 rfl (lv_at hl 1 rfl) ?_
  refine ro_V (n := 1) (As := [.int (q)]) (rest := []) ⟨hx, hb, hml, hown, hts⟩ (c_X4_isPlayer l D ci am X kr q0 q1 q2 q3 q4 q5 iw kn y0 y1 y2 y3 y4 y5 y6 (q) hWF) gX4_change_X4_isPlayer rfl ⟨rfl, rfl⟩ (by decide +kernel) rfl ⟨Nat.le_of_ble_eq_true rfl, Nat.le_of_ble_eq_true rfl⟩ hE trivial hK hP (ci := 4) (q0 := 0) rfl rfl hl.1 rfl (Nat.le_of_ble_eq_true rfl) dX4_change_2 ⟨Nat.zero_le _, Nat.zero_le _⟩ ?_
  refine nv_ifeq_b (tgt := 29) hx hb dX4_change_5 (by decide) (fun c1 => ?_) (fun c1 => ?_)
  · refine lv_aload_n hx hb dX4_change_29 rfl (lv_at hl 0 rfl) ?_
    refine lv_ldc (v := -1000001) hx hb hown (hts (.constant RX4 72 (-1000001)) (List.mem_of_getElem? (i := 1) rfl)) dX4_change_30 ?_
    refine mu_V (n := 1) (As := [.int (-1000001)]) (rest := []) ⟨hx, hb, hml, hown, hts⟩ (c_X4_finding l D ci am X kr q0 q1 q2 q3 q4 q5 iw kn y0 y1 y2 y3 y4 y5 y6 hI (-1000001) (0) (by omega) (by decide)) gX4_change_X4_finding rfl ⟨rfl, rfl⟩ (by decide +kernel) rfl ⟨Nat.le_of_ble_eq_true rfl, Nat.le_of_ble_eq_true rfl⟩ hE trivial hK hP (ci := 4) (q0 := 0) rfl rfl hl.1 rfl (Nat.le_of_ble_eq_true rfl) dX4_change_32 ⟨Nat.zero_le _, Nat.zero_le _⟩ hS (fun _ h => h) (fun H1 locs hz hfr hB hS => ?_)
    have hP := hB
    have hP : va_P D vwCl (wN ci am (toF X (inc X.2.2.2.1 0)) kr q0 q1 q2 q3 q4 q5 iw kn y0 y1 y2 y3 y4 y5 y6) H1 := hP
    generalize H1 = H at hP hS ⊢
    have hD : va_D (aM am) (wN ci am (toF X (inc X.2.2.2.1 0)) kr q0 q1 q2 q3 q4 q5 iw kn y0 y1 y2 y3 y4 y5 y6) := wN_D hI
    have hp : p_change X q w v = (fnd 0, toF X (inc X.2.2.2.1 0)) := by simp [p_change, inP, bk, fl_eq, c1]
    refine nv_cv (show fnd 0 = (p_change X q w v).1 from by rw [hp]) ?_
    exact mu_iret hx hb hr hlocks hS ((by rw [hp]; exact ⟨_, _, _, _, _, _, _, _, _, _, _, _, _, _, _, hkr, hP⟩)) dX4_change_35
  · obtain ⟨qn, h_qn, rfl⟩ := in_ex c1 (by omega)
    have t_qn : tn (nI qn) = qn := tn_nI (by omega)
    refine lv_iload_n hx hb dX4_change_8 rfl (lv_at hl 2 rfl) ?_
    refine lv_iload_n hx hb dX4_change_9 rfl (lv_at hl 3 rfl) ?_
    refine ro_S (n := 2) (As := [.int (w), .int (v)]) (rest := []) ⟨hx, hb, hml, hown, hts⟩ (c_X4_mayBe l D ci (wN ci am X kr q0 q1 q2 q3 q4 q5 iw kn y0 y1 y2 y3 y4 y5 y6) (w) (v) ) gX4_change_X4_mayBe rfl ⟨rfl, rfl⟩ (by decide +kernel) rfl ⟨Nat.le_of_ble_eq_true rfl, Nat.le_of_ble_eq_true rfl⟩ hE trivial hK hP hl.1 rfl (Nat.le_of_ble_eq_true rfl) dX4_change_10 ⟨Nat.zero_le _, Nat.zero_le _⟩ ?_
    refine nv_ifeq_b (tgt := 29) hx hb dX4_change_13 (by decide) (fun c2 => ?_) (fun c2 => ?_)
    · refine lv_aload_n hx hb dX4_change_29 rfl (lv_at hl 0 rfl) ?_
      refine lv_ldc (v := -1000001) hx hb hown (hts (.constant RX4 72 (-1000001)) (List.mem_of_getElem? (i := 1) rfl)) dX4_change_30 ?_
      refine mu_V (n := 1) (As := [.int (-1000001)]) (rest := []) ⟨hx, hb, hml, hown, hts⟩ (c_X4_finding l D ci am X kr q0 q1 q2 q3 q4 q5 iw kn y0 y1 y2 y3 y4 y5 y6 hI (-1000001) (0) (by omega) (by decide)) gX4_change_X4_finding rfl ⟨rfl, rfl⟩ (by decide +kernel) rfl ⟨Nat.le_of_ble_eq_true rfl, Nat.le_of_ble_eq_true rfl⟩ hE trivial hK hP (ci := 4) (q0 := 0) rfl rfl hl.1 rfl (Nat.le_of_ble_eq_true rfl) dX4_change_32 ⟨Nat.zero_le _, Nat.zero_le _⟩ hS (fun _ h => h) (fun H1 locs hz hfr hB hS => ?_)
      have hP := hB
      have hP : va_P D vwCl (wN ci am (toF X (inc X.2.2.2.1 0)) kr q0 q1 q2 q3 q4 q5 iw kn y0 y1 y2 y3 y4 y5 y6) H1 := hP
      generalize H1 = H at hP hS ⊢
      have hD : va_D (aM am) (wN ci am (toF X (inc X.2.2.2.1 0)) kr q0 q1 q2 q3 q4 q5 iw kn y0 y1 y2 y3 y4 y5 y6) := wN_D hI
      have hp : p_change X (nI qn) w v = (fnd 0, toF X (inc X.2.2.2.1 0)) := by simp [p_change, inP, bk, fl_eq, c1, c2, t_qn]
      refine nv_cv (show fnd 0 = (p_change X (nI qn) w v).1 from by rw [hp]) ?_
      exact mu_iret hx hb hr hlocks hS ((by rw [hp]; exact ⟨_, _, _, _, _, _, _, _, _, _, _, _, _, _, _, hkr, hP⟩)) dX4_change_35
    · have h_ab := Bool.and_eq_true_iff.mp c2
      obtain ⟨h_a, h_b⟩ := h_ab
      obtain ⟨wn, h_wn, rfl⟩ := in_ex h_a (by decide)
      have t_wn : tn (nI wn) = wn := tn_nI (by omega)
      rw [t_wn] at h_b
      have f_l := lim_le wn
      obtain ⟨vn, h_vn, rfl⟩ := in_ex h_b (by omega)
      have t_vn : tn (nI vn) = vn := tn_nI (by omega)
      refine lv_aload_n hx hb dX4_change_16 rfl (lv_at hl 0 rfl) ?_
      refine lv_iload_n hx hb dX4_change_17 rfl (lv_at hl 1 rfl) ?_
      refine lv_iload_n hx hb dX4_change_18 rfl (lv_at hl 2 rfl) ?_
      refine ro_S (n := 2) (As := [.int (nI qn), .int (nI wn)]) (rest := [.ref (am 0)]) ⟨hx, hb, hml, hown, hts⟩ (c_X4_at l D ci (wN ci am X kr q0 q1 q2 q3 q4 q5 iw kn y0 y1 y2 y3 y4 y5 y6) (qn) (wn) ) gX4_change_X4_at rfl ⟨rfl, rfl⟩ (by decide +kernel) rfl ⟨Nat.le_of_ble_eq_true rfl, Nat.le_of_ble_eq_true rfl⟩ hE trivial hK hP hl.1 rfl (Nat.le_of_ble_eq_true rfl) dX4_change_19 ⟨Nat.zero_le _, Nat.zero_le _⟩ ?_
      refine lv_iload_n hx hb dX4_change_22 rfl (lv_at hl 3 rfl) ?_
      refine mu_V (n := 2) (As := [.int (nI (25 + 5 * qn + wn)), .int (nI vn)]) (rest := []) ⟨hx, hb, hml, hown, hts⟩ (c_X4_become l D ci am X kr q0 q1 q2 q3 q4 q5 iw kn y0 y1 y2 y3 y4 y5 y6 hI (25 + 5 * qn + wn) (nI (vn)) (st X.1 (wn + 1) qn vn) (nI (X.1 (wn + 1) qn)) (by omega) (pk_f X.1 qn (by omega)) (pku_f X.1 qn (by omega))) gX4_change_X4_become rfl ⟨rfl, rfl⟩ (by decide +kernel) rfl ⟨Nat.le_of_ble_eq_true rfl, Nat.le_of_ble_eq_true rfl⟩ hE trivial hK hP (ci := 4) (q0 := 0) rfl rfl hl.1 rfl (Nat.le_of_ble_eq_true rfl) dX4_change_23 ⟨Nat.zero_le _, Nat.zero_le _⟩ hS (fun _ h => h) (fun H1 locs hz hfr hB hS => ?_)
      have hP := hB
      have hP : va_P D vwCl (wN ci am (toS X (st X.1 (wn + 1) qn vn)) kr q0 q1 q2 q3 q4 q5 iw kn y0 y1 y2 y3 y4 y5 y6) H1 := hP
      generalize H1 = H at hP hS ⊢
      have hD : va_D (aM am) (wN ci am (toS X (st X.1 (wn + 1) qn vn)) kr q0 q1 q2 q3 q4 q5 iw kn y0 y1 y2 y3 y4 y5 y6) := wN_D hI
      refine lv_goto (tgt := 35) hx hb dX4_change_26 (by decide) ?_
      have hp : p_change X (nI qn) (nI wn) (nI vn) = (nI (X.1 (wn + 1) qn), toS X (st X.1 (wn + 1) qn vn)) := by rw [p_change, inP, c1, h_a, t_wn, h_b, t_qn, t_vn]; rfl
      refine nv_cv (show nI (X.1 (wn + 1) qn) = (p_change X (nI qn) (nI wn) (nI vn)).1 from by rw [hp]) ?_
      exact mu_iret hx hb hr hlocks hS ((by rw [hp]; exact ⟨_, _, _, _, _, _, _, _, _, _, _, _, _, _, _, hkr, hP⟩)) dX4_change_35

set_option maxHeartbeats 4000000 in
set_option maxRecDepth 100000 in
/-- X4_swap -/
theorem c_X4_swap (l : Launch) (D : va_G) (ci : Nat → ClassId) (am : Nat → Nat) (X : AS) (kr : Nat → Int32) (q0 q1 q2 q3 q4 q5 : Int32) (iw : Bool) (kn : Nat → Option Nat) (y0 y1 y2 y3 y4 y5 y6 : Nat → Int32) (hI : injA am 16) (x y : Int32) (hWX : WFX X) (hkr : kOK X kr) : Met l yX4_swap wsX4_swap ({ frames := 3, cells := 0, slots := 0, locals := 66 } : Room) (va_Pc [.ref (am 0), .int (x), .int (y)] (ro_B D (tyL ci) (wN ci am X kr q0 q1 q2 q3 q4 q5 iw kn y0 y1 y2 y3 y4 y5 y6) (enT))) (mu_Q (aM am) (some (.int ((p_swap X x y).1))) (fun H => ∃ (kr : Nat → Int32) (q0 : Int32) (q1 : Int32) (q2 : Int32) (q3 : Int32) (q4 : Int32) (q5 : Int32) (iw : Bool) (y0 : Nat → Int32) (y1 : Nat → Int32) (y2 : Nat → Int32) (y3 : Nat → Int32) (y4 : Nat → Int32) (y5 : Nat → Int32) (y6 : Nat → Int32), kOK (p_swap X x y).2 kr ∧ va_P D vwCl (wN ci am ((p_swap X x y).2) kr q0 q1 q2 q3 q4 q5 iw kn y0 y1 y2 y3 y4 y5 y6) H)) 0 0 (aM am) := by
  refine mu_Met (cc := cX4_swap) (maxL := 3) (ret := (some .int)) [(0, .ref (am 0)), (1, .int (x)), (2, .int (y))] (wN_D hI) (by decide) rfl (Nat.le_of_ble_eq_true rfl) rfl ?_
  intro p e s m below meth c H locs hx hb hml hr hlocks hts hown hP hK hs0 hD hS ls hl
  have hown : s.vm.findClass RX4 = some m.cls := hown
  have hE := hE_T
  have hWF := hWX.w
  have f_n := hWF.n
  have f_e := hWX.e
  have f_tl := hWX.t
  refine lv_aload_n hx hb dX4_swap_0 rfl (lv_at hl 0 rfl) ?_
  refine lv_iload_n hx hb dX4_swap_1 rfl (lv_at hl 1 rfl) ?_
  refine lv_iload_n hx hb dX4_swap_2 rfl (lv_at hl 2 rfl) ?_
  refine ro_V (n := 2) (As := [.int (x), .int (y)]) (rest := []) ⟨hx, hb, hml, hown, hts⟩ (c_X4_areTwo l D ci am X kr q0 q1 q2 q3 q4 q5 iw kn y0 y1 y2 y3 y4 y5 y6 (x) (y) hWF) gX4_swap_X4_areTwo rfl ⟨rfl, rfl⟩ (by decide +kernel) rfl ⟨Nat.le_of_ble_eq_true rfl, Nat.le_of_ble_eq_true rfl⟩ hE trivial hK hP (ci := 4) (q0 := 0) rfl rfl hl.1 rfl (Nat.le_of_ble_eq_true rfl) dX4_swap_3 ⟨Nat.zero_le _, Nat.zero_le _⟩ ?_
  refine nv_ifeq_b (tgt := 18) hx hb dX4_swap_6 (by decide) (fun c1 => ?_) (fun c1 => ?_)
  · refine lv_aload_n hx hb dX4_swap_18 rfl (lv_at hl 0 rfl) ?_
    refine lv_ldc (v := -1000001) hx hb hown (hts (.constant RX4 72 (-1000001)) (List.mem_of_getElem? (i := 1) rfl)) dX4_swap_19 ?_
    refine mu_V (n := 1) (As := [.int (-1000001)]) (rest := []) ⟨hx, hb, hml, hown, hts⟩ (c_X4_finding l D ci am X kr q0 q1 q2 q3 q4 q5 iw kn y0 y1 y2 y3 y4 y5 y6 hI (-1000001) (0) (by omega) (by decide)) gX4_swap_X4_finding rfl ⟨rfl, rfl⟩ (by decide +kernel) rfl ⟨Nat.le_of_ble_eq_true rfl, Nat.le_of_ble_eq_true rfl⟩ hE trivial hK hP (ci := 4) (q0 := 0) rfl rfl hl.1 rfl (Nat.le_of_ble_eq_true rfl) dX4_swap_21 ⟨Nat.zero_le _, Nat.zero_le _⟩ hS (fun _ h => h) (fun H1 locs hz hfr hB hS => ?_)
    have hP := hB
    have hP : va_P D vwCl (wN ci am (toF X (inc X.2.2.2.1 0)) kr q0 q1 q2 q3 q4 q5 iw kn y0 y1 y2 y3 y4 y5 y6) H1 := hP
    generalize H1 = H at hP hS ⊢
    have hD : va_D (aM am) (wN ci am (toF X (inc X.2.2.2.1 0)) kr q0 q1 q2 q3 q4 q5 iw kn y0 y1 y2 y3 y4 y5 y6) := wN_D hI
    have hp : p_swap X x y = (fnd 0, toF X (inc X.2.2.2.1 0)) := by first | (simp [p_swap, bk, fl_eq, c1]; done) | (rcases Decidable.em (X.1 2 xn = X.1 2 yn) with h9 | h9 <;> first | (simp [p_swap, bk, h9, toS_swS h9, c1]; done) | (simp [p_swap, bk, h9, c1]; done))
    refine nv_cv (show fnd 0 = (p_swap X x y).1 from by rw [hp]) ?_
    exact mu_iret hx hb hr hlocks hS ((by rw [hp]; exact ⟨_, _, _, _, _, _, _, _, _, _, _, _, _, _, _, hkr, hP⟩)) dX4_swap_24
  · obtain ⟨xn, yn, h_xn, h_yn, h_ne, rfl, rfl⟩ := pair_ex c1 f_n
    have t_xn : tn (nI xn) = xn := tn_nI (by omega)
    have t_yn : tn (nI yn) = yn := tn_nI (by omega)
    refine lv_aload_n hx hb dX4_swap_9 rfl (lv_at hl 0 rfl) ?_
    refine lv_iload_n hx hb dX4_swap_10 rfl (lv_at hl 1 rfl) ?_
    refine lv_iload_n hx hb dX4_swap_11 rfl (lv_at hl 2 rfl) ?_
    refine mu_V (n := 2) (As := [.int (nI xn), .int (nI yn)]) (rest := []) ⟨hx, hb, hml, hown, hts⟩ (c_X4_swapped l D ci am X kr q0 q1 q2 q3 q4 q5 iw kn y0 y1 y2 y3 y4 y5 y6 hI (xn) (yn) hWF (by omega) (by omega) (by omega)) gX4_swap_X4_swapped rfl ⟨rfl, rfl⟩ (by decide +kernel) rfl ⟨Nat.le_of_ble_eq_true rfl, Nat.le_of_ble_eq_true rfl⟩ hE trivial hK hP (ci := 4) (q0 := 0) rfl rfl hl.1 rfl (Nat.le_of_ble_eq_true rfl) dX4_swap_12 ⟨Nat.zero_le _, Nat.zero_le _⟩ hS (fun _ h => h) (fun H1 locs hz hfr hB hS => ?_)
    have hP := hB
    have hP : va_P D vwCl (wN ci am (toS X (swS X.1 xn yn)) kr q0 q1 q2 q3 q4 q5 iw kn y0 y1 y2 y3 y4 y5 y6) H1 := hP
    generalize H1 = H at hP hS ⊢
    have hD : va_D (aM am) (wN ci am (toS X (swS X.1 xn yn)) kr q0 q1 q2 q3 q4 q5 iw kn y0 y1 y2 y3 y4 y5 y6) := wN_D hI
    refine lv_goto (tgt := 24) hx hb dX4_swap_15 (by decide) ?_
    have hp : p_swap X (nI xn) (nI yn) = (nI ((if X.1 2 xn = X.1 2 yn then 0 else 1)), toS X (swS X.1 xn yn)) := by first | (simp [p_swap, bk, fl_eq, c1, t_xn, t_yn]; done) | (rcases Decidable.em (X.1 2 xn = X.1 2 yn) with h9 | h9 <;> first | (simp [p_swap, bk, h9, toS_swS h9, c1, t_xn, t_yn]; done) | (simp [p_swap, bk, h9, c1, t_xn, t_yn]; done))
    refine nv_cv (show nI ((if X.1 2 xn = X.1 2 yn then 0 else 1)) = (p_swap X (nI xn) (nI yn)).1 from by rw [hp]) ?_
    exact mu_iret hx hb hr hlocks hS ((by rw [hp]; exact ⟨_, _, _, _, _, _, _, _, _, _, _, _, _, _, _, hkr, hP⟩)) dX4_swap_24

set_option maxHeartbeats 4000000 in
set_option maxRecDepth 100000 in
/-- X4_sound -/
theorem c_X4_sound (l : Launch) (D : va_G) (ci : Nat → ClassId) (am : Nat → Nat) (X : AS) (kr : Nat → Int32) (q0 q1 q2 q3 q4 q5 : Int32) (iw : Bool) (kn : Nat → Option Nat) (y0 y1 y2 y3 y4 y5 y6 : Nat → Int32) (hI : injA am 16) (q sv b : Int32) (hWX : WFX X) (hkr : kOK X kr) : Met l yX4_sound wsX4_sound ({ frames := 5, cells := 0, slots := 0, locals := 114 } : Room) (va_Pc [.ref (am 0), .int (q), .int (sv), .int (b)] (ro_B D (tyL ci) (wN ci am X kr q0 q1 q2 q3 q4 q5 iw kn y0 y1 y2 y3 y4 y5 y6) (enT))) (mu_Q (aM am) (some (.int ((p_sound X q sv b).1))) (fun H => ∃ (kr : Nat → Int32) (q0 : Int32) (q1 : Int32) (q2 : Int32) (q3 : Int32) (q4 : Int32) (q5 : Int32) (iw : Bool) (y0 : Nat → Int32) (y1 : Nat → Int32) (y2 : Nat → Int32) (y3 : Nat → Int32) (y4 : Nat → Int32) (y5 : Nat → Int32) (y6 : Nat → Int32), kOK (p_sound X q sv b).2 kr ∧ va_P D vwCl (wN ci am ((p_sound X q sv b).2) kr q0 q1 q2 q3 q4 q5 iw kn y0 y1 y2 y3 y4 y5 y6) H)) 0 0 (aM am) := by
  refine mu_Met (cc := cX4_sound) (maxL := 4) (ret := (some .int)) [(0, .ref (am 0)), (1, .int (q)), (2, .int (sv)), (3, .int (b))] (wN_D hI) (by decide) rfl (Nat.le_of_ble_eq_true rfl) rfl ?_
  intro p e s m below meth c H locs hx hb hml hr hlocks hts hown hP hK hs0 hD hS ls hl
  have hown : s.vm.findClass RX4 = some m.cls := hown
  have hE := hE_T
  have hWF := hWX.w
  have f_n := hWF.n
  have f_e := hWX.e
  have f_tl := hWX.t
  refine lv_aload_n hx hb dX4_sound_0 rfl (lv_at hl 0 rfl) ?_
  refine lv_iload_n hx hb dX4_sound_1 rfl (lv_at hl 1 rfl) ?_
  refine ro_V (n := 1) (As := [.int (q)]) (rest := []) ⟨hx, hb, hml, hown, hts⟩ (c_X4_isPlayer l D ci am X kr q0 q1 q2 q3 q4 q5 iw kn y0 y1 y2 y3 y4 y5 y6 (q) hWF) gX4_sound_X4_isPlayer rfl ⟨rfl, rfl⟩ (by decide +kernel) rfl ⟨Nat.le_of_ble_eq_true rfl, Nat.le_of_ble_eq_true rfl⟩ hE trivial hK hP (ci := 4) (q0 := 0) rfl rfl hl.1 rfl (Nat.le_of_ble_eq_true rfl) dX4_sound_2 ⟨Nat.zero_le _, Nat.zero_le _⟩ ?_
  refine nv_ifeq_b (tgt := 32) hx hb dX4_sound_5 (by decide) (fun c1 => ?_) (fun c1 => ?_)
  · refine lv_aload_n hx hb dX4_sound_32 rfl (lv_at hl 0 rfl) ?_
    refine lv_ldc (v := -1000001) hx hb hown (hts (.constant RX4 72 (-1000001)) (List.mem_of_getElem? (i := 1) rfl)) dX4_sound_33 ?_
    refine mu_V (n := 1) (As := [.int (-1000001)]) (rest := []) ⟨hx, hb, hml, hown, hts⟩ (c_X4_finding l D ci am X kr q0 q1 q2 q3 q4 q5 iw kn y0 y1 y2 y3 y4 y5 y6 hI (-1000001) (0) (by omega) (by decide)) gX4_sound_X4_finding rfl ⟨rfl, rfl⟩ (by decide +kernel) rfl ⟨Nat.le_of_ble_eq_true rfl, Nat.le_of_ble_eq_true rfl⟩ hE trivial hK hP (ci := 4) (q0 := 0) rfl rfl hl.1 rfl (Nat.le_of_ble_eq_true rfl) dX4_sound_35 ⟨Nat.zero_le _, Nat.zero_le _⟩ hS (fun _ h => h) (fun H1 locs hz hfr hB hS => ?_)
    have hP := hB
    have hP : va_P D vwCl (wN ci am (toF X (inc X.2.2.2.1 0)) kr q0 q1 q2 q3 q4 q5 iw kn y0 y1 y2 y3 y4 y5 y6) H1 := hP
    generalize H1 = H at hP hS ⊢
    have hD : va_D (aM am) (wN ci am (toF X (inc X.2.2.2.1 0)) kr q0 q1 q2 q3 q4 q5 iw kn y0 y1 y2 y3 y4 y5 y6) := wN_D hI
    have hp : p_sound X q sv b = (fnd 0, toF X (inc X.2.2.2.1 0)) := by first | (simp [p_sound, inP, bk, fl_eq, c1]; done) | ((cases h9 : plays X.1 qn bn <;> simp [p_sound, sndO, inP, bk, h9, c1]); done)
    refine nv_cv (show fnd 0 = (p_sound X q sv b).1 from by rw [hp]) ?_
    exact mu_iret hx hb hr hlocks hS ((by rw [hp]; exact ⟨_, _, _, _, _, _, _, _, _, _, _, _, _, _, _, hkr, hP⟩)) dX4_sound_38
  · obtain ⟨qn, h_qn, rfl⟩ := in_ex c1 (by omega)
    have t_qn : tn (nI qn) = qn := tn_nI (by omega)
    refine lv_iload_n hx hb dX4_sound_8 rfl (lv_at hl 2 rfl) ?_
    refine ro_S (n := 1) (As := [.int (sv)]) (rest := []) ⟨hx, hb, hml, hown, hts⟩ (c_X4_isSeat l D ci (wN ci am X kr q0 q1 q2 q3 q4 q5 iw kn y0 y1 y2 y3 y4 y5 y6) (sv) ) gX4_sound_X4_isSeat rfl ⟨rfl, rfl⟩ (by decide +kernel) rfl ⟨Nat.le_of_ble_eq_true rfl, Nat.le_of_ble_eq_true rfl⟩ hE trivial hK hP hl.1 rfl (Nat.le_of_ble_eq_true rfl) dX4_sound_9 ⟨Nat.zero_le _, Nat.zero_le _⟩ ?_
    refine nv_ifeq_b (tgt := 32) hx hb dX4_sound_12 (by decide) (fun c2 => ?_) (fun c2 => ?_)
    · refine lv_aload_n hx hb dX4_sound_32 rfl (lv_at hl 0 rfl) ?_
      refine lv_ldc (v := -1000001) hx hb hown (hts (.constant RX4 72 (-1000001)) (List.mem_of_getElem? (i := 1) rfl)) dX4_sound_33 ?_
      refine mu_V (n := 1) (As := [.int (-1000001)]) (rest := []) ⟨hx, hb, hml, hown, hts⟩ (c_X4_finding l D ci am X kr q0 q1 q2 q3 q4 q5 iw kn y0 y1 y2 y3 y4 y5 y6 hI (-1000001) (0) (by omega) (by decide)) gX4_sound_X4_finding rfl ⟨rfl, rfl⟩ (by decide +kernel) rfl ⟨Nat.le_of_ble_eq_true rfl, Nat.le_of_ble_eq_true rfl⟩ hE trivial hK hP (ci := 4) (q0 := 0) rfl rfl hl.1 rfl (Nat.le_of_ble_eq_true rfl) dX4_sound_35 ⟨Nat.zero_le _, Nat.zero_le _⟩ hS (fun _ h => h) (fun H1 locs hz hfr hB hS => ?_)
      have hP := hB
      have hP : va_P D vwCl (wN ci am (toF X (inc X.2.2.2.1 0)) kr q0 q1 q2 q3 q4 q5 iw kn y0 y1 y2 y3 y4 y5 y6) H1 := hP
      generalize H1 = H at hP hS ⊢
      have hD : va_D (aM am) (wN ci am (toF X (inc X.2.2.2.1 0)) kr q0 q1 q2 q3 q4 q5 iw kn y0 y1 y2 y3 y4 y5 y6) := wN_D hI
      have hp : p_sound X (nI qn) sv b = (fnd 0, toF X (inc X.2.2.2.1 0)) := by first | (simp [p_sound, inP, bk, fl_eq, c1, c2, t_qn]; done) | ((cases h9 : plays X.1 qn bn <;> simp [p_sound, sndO, inP, bk, h9, c1, c2, t_qn]); done)
      refine nv_cv (show fnd 0 = (p_sound X (nI qn) sv b).1 from by rw [hp]) ?_
      exact mu_iret hx hb hr hlocks hS ((by rw [hp]; exact ⟨_, _, _, _, _, _, _, _, _, _, _, _, _, _, _, hkr, hP⟩)) dX4_sound_38
    · obtain ⟨svn, h_svn, rfl⟩ := in_ex c2 (by omega)
      have t_svn : tn (nI svn) = svn := tn_nI (by omega)
      refine lv_iload_n hx hb dX4_sound_15 rfl (lv_at hl 3 rfl) ?_
      refine ro_S (n := 1) (As := [.int (b)]) (rest := []) ⟨hx, hb, hml, hown, hts⟩ (c_X4_isBar l D ci (wN ci am X kr q0 q1 q2 q3 q4 q5 iw kn y0 y1 y2 y3 y4 y5 y6) (b) ) gX4_sound_X4_isBar rfl ⟨rfl, rfl⟩ (by decide +kernel) rfl ⟨Nat.le_of_ble_eq_true rfl, Nat.le_of_ble_eq_true rfl⟩ hE trivial hK hP hl.1 rfl (Nat.le_of_ble_eq_true rfl) dX4_sound_16 ⟨Nat.zero_le _, Nat.zero_le _⟩ ?_
      refine nv_ifeq_b (tgt := 32) hx hb dX4_sound_19 (by decide) (fun c3 => ?_) (fun c3 => ?_)
      · refine lv_aload_n hx hb dX4_sound_32 rfl (lv_at hl 0 rfl) ?_
        refine lv_ldc (v := -1000001) hx hb hown (hts (.constant RX4 72 (-1000001)) (List.mem_of_getElem? (i := 1) rfl)) dX4_sound_33 ?_
        refine mu_V (n := 1) (As := [.int (-1000001)]) (rest := []) ⟨hx, hb, hml, hown, hts⟩ (c_X4_finding l D ci am X kr q0 q1 q2 q3 q4 q5 iw kn y0 y1 y2 y3 y4 y5 y6 hI (-1000001) (0) (by omega) (by decide)) gX4_sound_X4_finding rfl ⟨rfl, rfl⟩ (by decide +kernel) rfl ⟨Nat.le_of_ble_eq_true rfl, Nat.le_of_ble_eq_true rfl⟩ hE trivial hK hP (ci := 4) (q0 := 0) rfl rfl hl.1 rfl (Nat.le_of_ble_eq_true rfl) dX4_sound_35 ⟨Nat.zero_le _, Nat.zero_le _⟩ hS (fun _ h => h) (fun H1 locs hz hfr hB hS => ?_)
        have hP := hB
        have hP : va_P D vwCl (wN ci am (toF X (inc X.2.2.2.1 0)) kr q0 q1 q2 q3 q4 q5 iw kn y0 y1 y2 y3 y4 y5 y6) H1 := hP
        generalize H1 = H at hP hS ⊢
        have hD : va_D (aM am) (wN ci am (toF X (inc X.2.2.2.1 0)) kr q0 q1 q2 q3 q4 q5 iw kn y0 y1 y2 y3 y4 y5 y6) := wN_D hI
        have hp : p_sound X (nI qn) (nI svn) b = (fnd 0, toF X (inc X.2.2.2.1 0)) := by first | (simp [p_sound, inP, bk, fl_eq, c1, c2, c3, t_qn, t_svn]; done) | ((cases h9 : plays X.1 qn bn <;> simp [p_sound, sndO, inP, bk, h9, c1, c2, c3, t_qn, t_svn]); done)
        refine nv_cv (show fnd 0 = (p_sound X (nI qn) (nI svn) b).1 from by rw [hp]) ?_
        exact mu_iret hx hb hr hlocks hS ((by rw [hp]; exact ⟨_, _, _, _, _, _, _, _, _, _, _, _, _, _, _, hkr, hP⟩)) dX4_sound_38
      · obtain ⟨bn, h_bn, rfl⟩ := in_ex c3 (by omega)
        have t_bn : tn (nI bn) = bn := tn_nI (by omega)
        refine lv_aload_n hx hb dX4_sound_22 rfl (lv_at hl 0 rfl) ?_
        refine lv_iload_n hx hb dX4_sound_23 rfl (lv_at hl 1 rfl) ?_
        refine lv_iload_n hx hb dX4_sound_24 rfl (lv_at hl 2 rfl) ?_
        refine lv_iload_n hx hb dX4_sound_25 rfl (lv_at hl 3 rfl) ?_
        refine ro_V (n := 3) (As := [.int (nI qn), .int (nI svn), .int (nI bn)]) (rest := []) ⟨hx, hb, hml, hown, hts⟩ (c_X4_soundOf l D ci am X kr q0 q1 q2 q3 q4 q5 iw kn y0 y1 y2 y3 y4 y5 y6 (qn) (svn) (bn) hWF (by omega) (by omega) (by omega)) gX4_sound_X4_soundOf rfl ⟨rfl, rfl⟩ (by decide +kernel) rfl ⟨Nat.le_of_ble_eq_true rfl, Nat.le_of_ble_eq_true rfl⟩ hE trivial hK hP (ci := 4) (q0 := 0) rfl rfl hl.1 rfl (Nat.le_of_ble_eq_true rfl) dX4_sound_26 ⟨Nat.zero_le _, Nat.zero_le _⟩ ?_
        have f4 := sndO_lt hWF (qn) (svn) (bn)
        refine lv_goto (tgt := 38) hx hb dX4_sound_29 (by decide) ?_
        have hp : p_sound X (nI qn) (nI svn) (nI bn) = (nI (sndO X.1 qn svn bn), X) := by first | (simp [p_sound, inP, bk, fl_eq, c1, c2, c3, t_qn, t_svn, t_bn]; done) | ((cases h9 : plays X.1 qn bn <;> simp [p_sound, sndO, inP, bk, h9, c1, c2, c3, t_qn, t_svn, t_bn]); done)
        refine nv_cv (show nI (sndO X.1 qn svn bn) = (p_sound X (nI qn) (nI svn) (nI bn)).1 from by rw [hp]) ?_
        exact mu_iret hx hb hr hlocks hS ((by rw [hp]; exact ⟨_, _, _, _, _, _, _, _, _, _, _, _, _, _, _, hkr, hP⟩)) dX4_sound_38

set_option maxHeartbeats 4000000 in
set_option maxRecDepth 100000 in
/-- X4_heard -/
theorem c_X4_heard (l : Launch) (D : va_G) (ci : Nat → ClassId) (am : Nat → Nat) (X : AS) (kr : Nat → Int32) (q0 q1 q2 q3 q4 q5 : Int32) (iw : Bool) (kn : Nat → Option Nat) (y0 y1 y2 y3 y4 y5 y6 : Nat → Int32) (hI : injA am 16) (sv b : Int32) (hWX : WFX X) (hkr : kOK X kr) : Met l yX4_heard wsX4_heard ({ frames := 6, cells := 0, slots := 0, locals := 139 } : Room) (va_Pc [.ref (am 0), .int (sv), .int (b)] (ro_B D (tyL ci) (wN ci am X kr q0 q1 q2 q3 q4 q5 iw kn y0 y1 y2 y3 y4 y5 y6) (enT))) (mu_Q (aM am) (some (.int ((p_heard X sv b).1))) (fun H => ∃ (kr : Nat → Int32) (q0 : Int32) (q1 : Int32) (q2 : Int32) (q3 : Int32) (q4 : Int32) (q5 : Int32) (iw : Bool) (y0 : Nat → Int32) (y1 : Nat → Int32) (y2 : Nat → Int32) (y3 : Nat → Int32) (y4 : Nat → Int32) (y5 : Nat → Int32) (y6 : Nat → Int32), kOK (p_heard X sv b).2 kr ∧ va_P D vwCl (wN ci am ((p_heard X sv b).2) kr q0 q1 q2 q3 q4 q5 iw kn y0 y1 y2 y3 y4 y5 y6) H)) 0 0 (aM am) := by
  refine mu_Met (cc := cX4_heard) (maxL := 3) (ret := (some .int)) [(0, .ref (am 0)), (1, .int (sv)), (2, .int (b))] (wN_D hI) (by decide) rfl (Nat.le_of_ble_eq_true rfl) rfl ?_
  intro p e s m below meth c H locs hx hb hml hr hlocks hts hown hP hK hs0 hD hS ls hl
  have hown : s.vm.findClass RX4 = some m.cls := hown
  have hE := hE_T
  have hWF := hWX.w
  have f_n := hWF.n
  have f_e := hWX.e
  have f_tl := hWX.t
  refine lv_iload_n hx hb dX4_heard_0 rfl (lv_at hl 1 rfl) ?_
  refine ro_S (n := 1) (As := [.int (sv)]) (rest := []) ⟨hx, hb, hml, hown, hts⟩ (c_X4_isSeat l D ci (wN ci am X kr q0 q1 q2 q3 q4 q5 iw kn y0 y1 y2 y3 y4 y5 y6) (sv) ) gX4_heard_X4_isSeat rfl ⟨rfl, rfl⟩ (by decide +kernel) rfl ⟨Nat.le_of_ble_eq_true rfl, Nat.le_of_ble_eq_true rfl⟩ hE trivial hK hP hl.1 rfl (Nat.le_of_ble_eq_true rfl) dX4_heard_1 ⟨Nat.zero_le _, Nat.zero_le _⟩ ?_
  refine nv_ifeq_b (tgt := 27) hx hb dX4_heard_4 (by decide) (fun c1 => ?_) (fun c1 => ?_)
  · refine lv_aload_n hx hb dX4_heard_27 rfl (lv_at hl 0 rfl) ?_
    refine lv_ldc (v := -1000001) hx hb hown (hts (.constant RX4 72 (-1000001)) (List.mem_of_getElem? (i := 1) rfl)) dX4_heard_28 ?_
    refine mu_V (n := 1) (As := [.int (-1000001)]) (rest := []) ⟨hx, hb, hml, hown, hts⟩ (c_X4_finding l D ci am X kr q0 q1 q2 q3 q4 q5 iw kn y0 y1 y2 y3 y4 y5 y6 hI (-1000001) (0) (by omega) (by decide)) gX4_heard_X4_finding rfl ⟨rfl, rfl⟩ (by decide +kernel) rfl ⟨Nat.le_of_ble_eq_true rfl, Nat.le_of_ble_eq_true rfl⟩ hE trivial hK hP (ci := 4) (q0 := 0) rfl rfl hl.1 rfl (Nat.le_of_ble_eq_true rfl) dX4_heard_30 ⟨Nat.zero_le _, Nat.zero_le _⟩ hS (fun _ h => h) (fun H1 locs hz hfr hB hS => ?_)
    have hP := hB
    have hP : va_P D vwCl (wN ci am (toF X (inc X.2.2.2.1 0)) kr q0 q1 q2 q3 q4 q5 iw kn y0 y1 y2 y3 y4 y5 y6) H1 := hP
    generalize H1 = H at hP hS ⊢
    have hD : va_D (aM am) (wN ci am (toF X (inc X.2.2.2.1 0)) kr q0 q1 q2 q3 q4 q5 iw kn y0 y1 y2 y3 y4 y5 y6) := wN_D hI
    have hp : p_heard X sv b = (fnd 0, toF X (inc X.2.2.2.1 0)) := by first | (simp [p_heard, bk, fl_eq, inP, c1]; done) | (simp only [evb_and]; simp [p_heard, bk, fl_eq, inP, c1]; done)
    refine nv_cv (show fnd 0 = (p_heard X sv b).1 from by rw [hp]) ?_
    exact mu_iret hx hb hr hlocks hS ((by rw [hp]; exact ⟨_, _, _, _, _, _, _, _, _, _, _, _, _, _, _, hkr, hP⟩)) dX4_heard_33
  · obtain ⟨svn, h_svn, rfl⟩ := in_ex c1 (by omega)
    have t_svn : tn (nI svn) = svn := tn_nI (by omega)
    refine lv_iload_n hx hb dX4_heard_7 rfl (lv_at hl 2 rfl) ?_
    refine ro_S (n := 1) (As := [.int (b)]) (rest := []) ⟨hx, hb, hml, hown, hts⟩ (c_X4_isBar l D ci (wN ci am X kr q0 q1 q2 q3 q4 q5 iw kn y0 y1 y2 y3 y4 y5 y6) (b) ) gX4_heard_X4_isBar rfl ⟨rfl, rfl⟩ (by decide +kernel) rfl ⟨Nat.le_of_ble_eq_true rfl, Nat.le_of_ble_eq_true rfl⟩ hE trivial hK hP hl.1 rfl (Nat.le_of_ble_eq_true rfl) dX4_heard_8 ⟨Nat.zero_le _, Nat.zero_le _⟩ ?_
    refine nv_ifeq_b (tgt := 27) hx hb dX4_heard_11 (by decide) (fun c2 => ?_) (fun c2 => ?_)
    · refine lv_aload_n hx hb dX4_heard_27 rfl (lv_at hl 0 rfl) ?_
      refine lv_ldc (v := -1000001) hx hb hown (hts (.constant RX4 72 (-1000001)) (List.mem_of_getElem? (i := 1) rfl)) dX4_heard_28 ?_
      refine mu_V (n := 1) (As := [.int (-1000001)]) (rest := []) ⟨hx, hb, hml, hown, hts⟩ (c_X4_finding l D ci am X kr q0 q1 q2 q3 q4 q5 iw kn y0 y1 y2 y3 y4 y5 y6 hI (-1000001) (0) (by omega) (by decide)) gX4_heard_X4_finding rfl ⟨rfl, rfl⟩ (by decide +kernel) rfl ⟨Nat.le_of_ble_eq_true rfl, Nat.le_of_ble_eq_true rfl⟩ hE trivial hK hP (ci := 4) (q0 := 0) rfl rfl hl.1 rfl (Nat.le_of_ble_eq_true rfl) dX4_heard_30 ⟨Nat.zero_le _, Nat.zero_le _⟩ hS (fun _ h => h) (fun H1 locs hz hfr hB hS => ?_)
      have hP := hB
      have hP : va_P D vwCl (wN ci am (toF X (inc X.2.2.2.1 0)) kr q0 q1 q2 q3 q4 q5 iw kn y0 y1 y2 y3 y4 y5 y6) H1 := hP
      generalize H1 = H at hP hS ⊢
      have hD : va_D (aM am) (wN ci am (toF X (inc X.2.2.2.1 0)) kr q0 q1 q2 q3 q4 q5 iw kn y0 y1 y2 y3 y4 y5 y6) := wN_D hI
      have hp : p_heard X (nI svn) b = (fnd 0, toF X (inc X.2.2.2.1 0)) := by first | (simp [p_heard, bk, fl_eq, inP, c1, c2, t_svn]; done) | (simp only [evb_and]; simp [p_heard, bk, fl_eq, inP, c1, c2, t_svn]; done)
      refine nv_cv (show fnd 0 = (p_heard X (nI svn) b).1 from by rw [hp]) ?_
      exact mu_iret hx hb hr hlocks hS ((by rw [hp]; exact ⟨_, _, _, _, _, _, _, _, _, _, _, _, _, _, _, hkr, hP⟩)) dX4_heard_33
    · obtain ⟨bn, h_bn, rfl⟩ := in_ex c2 (by omega)
      have t_bn : tn (nI bn) = bn := tn_nI (by omega)
      refine lv_aload_n hx hb dX4_heard_14 rfl (lv_at hl 0 rfl) ?_
      refine lv_aload_n hx hb dX4_heard_15 rfl (lv_at hl 0 rfl) ?_
      refine ro_V (n := 0) (As := []) (rest := [.ref (am 0)]) ⟨hx, hb, hml, hown, hts⟩ (c_X4_everybody l D ci am X kr q0 q1 q2 q3 q4 q5 iw kn y0 y1 y2 y3 y4 y5 y6  hWF) gX4_heard_X4_everybody rfl ⟨rfl, rfl⟩ (by decide +kernel) rfl ⟨Nat.le_of_ble_eq_true rfl, Nat.le_of_ble_eq_true rfl⟩ hE trivial hK hP (ci := 4) (q0 := 0) rfl rfl hl.1 rfl (Nat.le_of_ble_eq_true rfl) dX4_heard_16 ⟨Nat.zero_le _, Nat.zero_le _⟩ ?_
      have f3 := evb_lt hWF.n
      refine lv_iload_n hx hb dX4_heard_19 rfl (lv_at hl 1 rfl) ?_
      refine lv_iload_n hx hb dX4_heard_20 rfl (lv_at hl 2 rfl) ?_
      refine ro_V (n := 3) (As := [.int (nI ((1 * 2 ^ X.1 7 0 - 1))), .int (nI svn), .int (nI bn)]) (rest := []) ⟨hx, hb, hml, hown, hts⟩ (c_X4_heardOf l D ci am X kr q0 q1 q2 q3 q4 q5 iw kn y0 y1 y2 y3 y4 y5 y6 ((1 * 2 ^ X.1 7 0 - 1)) (svn) (bn) hWF (by omega) (by omega) (by omega)) gX4_heard_X4_heardOf rfl ⟨rfl, rfl⟩ (by decide +kernel) rfl ⟨Nat.le_of_ble_eq_true rfl, Nat.le_of_ble_eq_true rfl⟩ hE trivial hK hP (ci := 4) (q0 := 0) rfl rfl hl.1 rfl (Nat.le_of_ble_eq_true rfl) dX4_heard_21 ⟨Nat.zero_le _, Nat.zero_le _⟩ ?_
      have f4 := great_lt' hWF (svn) ((1 * 2 ^ X.1 7 0 - 1) &&& playIn X.1 (bn))
      refine lv_goto (tgt := 33) hx hb dX4_heard_24 (by decide) ?_
      have hp : p_heard X (nI svn) (nI bn) = (nI (great X.1 svn ((1 * 2 ^ X.1 7 0 - 1) &&& playIn X.1 bn)), X) := by first | (simp [p_heard, bk, fl_eq, inP, c1, c2, t_svn, t_bn]; done) | (simp only [evb_and]; simp [p_heard, bk, fl_eq, inP, c1, c2, t_svn, t_bn]; done)
      refine nv_cv (show nI (great X.1 svn ((1 * 2 ^ X.1 7 0 - 1) &&& playIn X.1 bn)) = (p_heard X (nI svn) (nI bn)).1 from by rw [hp]) ?_
      exact mu_iret hx hb hr hlocks hS ((by rw [hp]; exact ⟨_, _, _, _, _, _, _, _, _, _, _, _, _, _, _, hkr, hP⟩)) dX4_heard_33

set_option maxHeartbeats 4000000 in
set_option maxRecDepth 100000 in
/-- X4_hears -/
theorem c_X4_hears (l : Launch) (D : va_G) (ci : Nat → ClassId) (am : Nat → Nat) (X : AS) (kr : Nat → Int32) (q0 q1 q2 q3 q4 q5 : Int32) (iw : Bool) (kn : Nat → Option Nat) (y0 y1 y2 y3 y4 y5 y6 : Nat → Int32) (hI : injA am 16) (x y : Int32) (hWX : WFX X) (hkr : kOK X kr) : Met l yX4_hears wsX4_hears ({ frames := 7, cells := 0, slots := 0, locals := 162 } : Room) (va_Pc [.ref (am 0), .int (x), .int (y)] (ro_B D (tyL ci) (wN ci am X kr q0 q1 q2 q3 q4 q5 iw kn y0 y1 y2 y3 y4 y5 y6) (enT))) (mu_Q (aM am) (some (.int ((p_hears X x y).1))) (fun H => ∃ (kr : Nat → Int32) (q0 : Int32) (q1 : Int32) (q2 : Int32) (q3 : Int32) (q4 : Int32) (q5 : Int32) (iw : Bool) (y0 : Nat → Int32) (y1 : Nat → Int32) (y2 : Nat → Int32) (y3 : Nat → Int32) (y4 : Nat → Int32) (y5 : Nat → Int32) (y6 : Nat → Int32), kOK (p_hears X x y).2 kr ∧ va_P D vwCl (wN ci am ((p_hears X x y).2) kr q0 q1 q2 q3 q4 q5 iw kn y0 y1 y2 y3 y4 y5 y6) H)) 0 0 (aM am) := by
  refine mu_Met (cc := cX4_hears) (maxL := 3) (ret := (some .int)) [(0, .ref (am 0)), (1, .int (x)), (2, .int (y))] (wN_D hI) (by decide) rfl (Nat.le_of_ble_eq_true rfl) rfl ?_
  intro p e s m below meth c H locs hx hb hml hr hlocks hts hown hP hK hs0 hD hS ls hl
  have hown : s.vm.findClass RX4 = some m.cls := hown
  have hE := hE_T
  have hWF := hWX.w
  have f_n := hWF.n
  have f_e := hWX.e
  have f_tl := hWX.t
  refine lv_aload_n hx hb dX4_hears_0 rfl (lv_at hl 0 rfl) ?_
  refine lv_iload_n hx hb dX4_hears_1 rfl (lv_at hl 1 rfl) ?_
  refine lv_iload_n hx hb dX4_hears_2 rfl (lv_at hl 2 rfl) ?_
  refine ro_V (n := 2) (As := [.int (x), .int (y)]) (rest := []) ⟨hx, hb, hml, hown, hts⟩ (c_X4_areTwo l D ci am X kr q0 q1 q2 q3 q4 q5 iw kn y0 y1 y2 y3 y4 y5 y6 (x) (y) hWF) gX4_hears_X4_areTwo rfl ⟨rfl, rfl⟩ (by decide +kernel) rfl ⟨Nat.le_of_ble_eq_true rfl, Nat.le_of_ble_eq_true rfl⟩ hE trivial hK hP (ci := 4) (q0 := 0) rfl rfl hl.1 rfl (Nat.le_of_ble_eq_true rfl) dX4_hears_3 ⟨Nat.zero_le _, Nat.zero_le _⟩ ?_
  refine nv_ifeq_b (tgt := 18) hx hb dX4_hears_6 (by decide) (fun c1 => ?_) (fun c1 => ?_)
  · refine lv_aload_n hx hb dX4_hears_18 rfl (lv_at hl 0 rfl) ?_
    refine lv_ldc (v := -1000001) hx hb hown (hts (.constant RX4 72 (-1000001)) (List.mem_of_getElem? (i := 1) rfl)) dX4_hears_19 ?_
    refine mu_V (n := 1) (As := [.int (-1000001)]) (rest := []) ⟨hx, hb, hml, hown, hts⟩ (c_X4_finding l D ci am X kr q0 q1 q2 q3 q4 q5 iw kn y0 y1 y2 y3 y4 y5 y6 hI (-1000001) (0) (by omega) (by decide)) gX4_hears_X4_finding rfl ⟨rfl, rfl⟩ (by decide +kernel) rfl ⟨Nat.le_of_ble_eq_true rfl, Nat.le_of_ble_eq_true rfl⟩ hE trivial hK hP (ci := 4) (q0 := 0) rfl rfl hl.1 rfl (Nat.le_of_ble_eq_true rfl) dX4_hears_21 ⟨Nat.zero_le _, Nat.zero_le _⟩ hS (fun _ h => h) (fun H1 locs hz hfr hB hS => ?_)
    have hP := hB
    have hP : va_P D vwCl (wN ci am (toF X (inc X.2.2.2.1 0)) kr q0 q1 q2 q3 q4 q5 iw kn y0 y1 y2 y3 y4 y5 y6) H1 := hP
    generalize H1 = H at hP hS ⊢
    have hD : va_D (aM am) (wN ci am (toF X (inc X.2.2.2.1 0)) kr q0 q1 q2 q3 q4 q5 iw kn y0 y1 y2 y3 y4 y5 y6) := wN_D hI
    have hp : p_hears X x y = (fnd 0, toF X (inc X.2.2.2.1 0)) := by first | (simp [p_hears, bk, fl_eq, inP, c1]; done) | (simp [p_hears, bk, fl_eq, inP, c1] <;> omega)
    refine nv_cv (show fnd 0 = (p_hears X x y).1 from by rw [hp]) ?_
    exact mu_iret hx hb hr hlocks hS ((by rw [hp]; exact ⟨_, _, _, _, _, _, _, _, _, _, _, _, _, _, _, hkr, hP⟩)) dX4_hears_24
  · obtain ⟨xn, yn, h_xn, h_yn, h_ne, rfl, rfl⟩ := pair_ex c1 f_n
    have t_xn : tn (nI xn) = xn := tn_nI (by omega)
    have t_yn : tn (nI yn) = yn := tn_nI (by omega)
    refine lv_aload_n hx hb dX4_hears_9 rfl (lv_at hl 0 rfl) ?_
    refine lv_iload_n hx hb dX4_hears_10 rfl (lv_at hl 1 rfl) ?_
    refine lv_iload_n hx hb dX4_hears_11 rfl (lv_at hl 2 rfl) ?_
    refine ro_V (n := 2) (As := [.int (nI xn), .int (nI yn)]) (rest := []) ⟨hx, hb, hml, hown, hts⟩ (c_X4_hearsIn l D ci am X kr q0 q1 q2 q3 q4 q5 iw kn y0 y1 y2 y3 y4 y5 y6 (xn) (yn) hWF (by omega) (by omega) (by omega)) gX4_hears_X4_hearsIn rfl ⟨rfl, rfl⟩ (by decide +kernel) rfl ⟨Nat.le_of_ble_eq_true rfl, Nat.le_of_ble_eq_true rfl⟩ hE trivial hK hP (ci := 4) (q0 := 0) rfl rfl hl.1 rfl (Nat.le_of_ble_eq_true rfl) dX4_hears_12 ⟨Nat.zero_le _, Nat.zero_le _⟩ ?_
    have f2 := bHear_lt X.1 (xn) (yn)
    refine lv_goto (tgt := 24) hx hb dX4_hears_15 (by decide) ?_
    have hp : p_hears X (nI xn) (nI yn) = (nI (bHear X.1 xn yn), X) := by first | (simp [p_hears, bk, fl_eq, inP, c1, t_xn, t_yn]; done) | (simp [p_hears, bk, fl_eq, inP, c1, t_xn, t_yn] <;> omega)
    refine nv_cv (show nI (bHear X.1 xn yn) = (p_hears X (nI xn) (nI yn)).1 from by rw [hp]) ?_
    exact mu_iret hx hb hr hlocks hS ((by rw [hp]; exact ⟨_, _, _, _, _, _, _, _, _, _, _, _, _, _, _, hkr, hP⟩)) dX4_hears_24

set_option maxHeartbeats 4000000 in
set_option maxRecDepth 100000 in
/-- X4_hearing -/
theorem c_X4_hearing (l : Launch) (D : va_G) (ci : Nat → ClassId) (am : Nat → Nat) (X : AS) (kr : Nat → Int32) (q0 q1 q2 q3 q4 q5 : Int32) (iw : Bool) (kn : Nat → Option Nat) (y0 y1 y2 y3 y4 y5 y6 : Nat → Int32) (hI : injA am 16) (q b : Int32) (hWX : WFX X) (hkr : kOK X kr) : Met l yX4_hearing wsX4_hearing ({ frames := 7, cells := 0, slots := 0, locals := 162 } : Room) (va_Pc [.ref (am 0), .int (q), .int (b)] (ro_B D (tyL ci) (wN ci am X kr q0 q1 q2 q3 q4 q5 iw kn y0 y1 y2 y3 y4 y5 y6) (enT))) (mu_Q (aM am) (some (.int ((p_hearing X q b).1))) (fun H => ∃ (kr : Nat → Int32) (q0 : Int32) (q1 : Int32) (q2 : Int32) (q3 : Int32) (q4 : Int32) (q5 : Int32) (iw : Bool) (y0 : Nat → Int32) (y1 : Nat → Int32) (y2 : Nat → Int32) (y3 : Nat → Int32) (y4 : Nat → Int32) (y5 : Nat → Int32) (y6 : Nat → Int32), kOK (p_hearing X q b).2 kr ∧ va_P D vwCl (wN ci am ((p_hearing X q b).2) kr q0 q1 q2 q3 q4 q5 iw kn y0 y1 y2 y3 y4 y5 y6) H)) 0 0 (aM am) := by
  refine mu_Met (cc := cX4_hearing) (maxL := 3) (ret := (some .int)) [(0, .ref (am 0)), (1, .int (q)), (2, .int (b))] (wN_D hI) (by decide) rfl (Nat.le_of_ble_eq_true rfl) rfl ?_
  intro p e s m below meth c H locs hx hb hml hr hlocks hts hown hP hK hs0 hD hS ls hl
  have hown : s.vm.findClass RX4 = some m.cls := hown
  have hE := hE_T
  have hWF := hWX.w
  have f_n := hWF.n
  have f_e := hWX.e
  have f_tl := hWX.t
  refine lv_aload_n hx hb dX4_hearing_0 rfl (lv_at hl 0 rfl) ?_
  refine lv_iload_n hx hb dX4_hearing_1 rfl (lv_at hl 1 rfl) ?_
  refine ro_V (n := 1) (As := [.int (q)]) (rest := []) ⟨hx, hb, hml, hown, hts⟩ (c_X4_isPlayer l D ci am X kr q0 q1 q2 q3 q4 q5 iw kn y0 y1 y2 y3 y4 y5 y6 (q) hWF) gX4_hearing_X4_isPlayer rfl ⟨rfl, rfl⟩ (by decide +kernel) rfl ⟨Nat.le_of_ble_eq_true rfl, Nat.le_of_ble_eq_true rfl⟩ hE trivial hK hP (ci := 4) (q0 := 0) rfl rfl hl.1 rfl (Nat.le_of_ble_eq_true rfl) dX4_hearing_2 ⟨Nat.zero_le _, Nat.zero_le _⟩ ?_
  refine nv_ifeq_b (tgt := 24) hx hb dX4_hearing_5 (by decide) (fun c1 => ?_) (fun c1 => ?_)
  · refine lv_aload_n hx hb dX4_hearing_24 rfl (lv_at hl 0 rfl) ?_
    refine lv_ldc (v := -1000001) hx hb hown (hts (.constant RX4 72 (-1000001)) (List.mem_of_getElem? (i := 1) rfl)) dX4_hearing_25 ?_
    refine mu_V (n := 1) (As := [.int (-1000001)]) (rest := []) ⟨hx, hb, hml, hown, hts⟩ (c_X4_finding l D ci am X kr q0 q1 q2 q3 q4 q5 iw kn y0 y1 y2 y3 y4 y5 y6 hI (-1000001) (0) (by omega) (by decide)) gX4_hearing_X4_finding rfl ⟨rfl, rfl⟩ (by decide +kernel) rfl ⟨Nat.le_of_ble_eq_true rfl, Nat.le_of_ble_eq_true rfl⟩ hE trivial hK hP (ci := 4) (q0 := 0) rfl rfl hl.1 rfl (Nat.le_of_ble_eq_true rfl) dX4_hearing_27 ⟨Nat.zero_le _, Nat.zero_le _⟩ hS (fun _ h => h) (fun H1 locs hz hfr hB hS => ?_)
    have hP := hB
    have hP : va_P D vwCl (wN ci am (toF X (inc X.2.2.2.1 0)) kr q0 q1 q2 q3 q4 q5 iw kn y0 y1 y2 y3 y4 y5 y6) H1 := hP
    generalize H1 = H at hP hS ⊢
    have hD : va_D (aM am) (wN ci am (toF X (inc X.2.2.2.1 0)) kr q0 q1 q2 q3 q4 q5 iw kn y0 y1 y2 y3 y4 y5 y6) := wN_D hI
    have hp : p_hearing X q b = (fnd 0, toF X (inc X.2.2.2.1 0)) := by first | (simp [p_hearing, bk, fl_eq, inP, c1]; done) | (simp [p_hearing, bk, fl_eq, inP, c1] <;> omega)
    refine nv_cv (show fnd 0 = (p_hearing X q b).1 from by rw [hp]) ?_
    exact mu_iret hx hb hr hlocks hS ((by rw [hp]; exact ⟨_, _, _, _, _, _, _, _, _, _, _, _, _, _, _, hkr, hP⟩)) dX4_hearing_30
  · obtain ⟨qn, h_qn, rfl⟩ := in_ex c1 (by omega)
    have t_qn : tn (nI qn) = qn := tn_nI (by omega)
    refine lv_iload_n hx hb dX4_hearing_8 rfl (lv_at hl 2 rfl) ?_
    refine ro_S (n := 1) (As := [.int (b)]) (rest := []) ⟨hx, hb, hml, hown, hts⟩ (c_X4_isBar l D ci (wN ci am X kr q0 q1 q2 q3 q4 q5 iw kn y0 y1 y2 y3 y4 y5 y6) (b) ) gX4_hearing_X4_isBar rfl ⟨rfl, rfl⟩ (by decide +kernel) rfl ⟨Nat.le_of_ble_eq_true rfl, Nat.le_of_ble_eq_true rfl⟩ hE trivial hK hP hl.1 rfl (Nat.le_of_ble_eq_true rfl) dX4_hearing_9 ⟨Nat.zero_le _, Nat.zero_le _⟩ ?_
    refine nv_ifeq_b (tgt := 24) hx hb dX4_hearing_12 (by decide) (fun c2 => ?_) (fun c2 => ?_)
    · refine lv_aload_n hx hb dX4_hearing_24 rfl (lv_at hl 0 rfl) ?_
      refine lv_ldc (v := -1000001) hx hb hown (hts (.constant RX4 72 (-1000001)) (List.mem_of_getElem? (i := 1) rfl)) dX4_hearing_25 ?_
      refine mu_V (n := 1) (As := [.int (-1000001)]) (rest := []) ⟨hx, hb, hml, hown, hts⟩ (c_X4_finding l D ci am X kr q0 q1 q2 q3 q4 q5 iw kn y0 y1 y2 y3 y4 y5 y6 hI (-1000001) (0) (by omega) (by decide)) gX4_hearing_X4_finding rfl ⟨rfl, rfl⟩ (by decide +kernel) rfl ⟨Nat.le_of_ble_eq_true rfl, Nat.le_of_ble_eq_true rfl⟩ hE trivial hK hP (ci := 4) (q0 := 0) rfl rfl hl.1 rfl (Nat.le_of_ble_eq_true rfl) dX4_hearing_27 ⟨Nat.zero_le _, Nat.zero_le _⟩ hS (fun _ h => h) (fun H1 locs hz hfr hB hS => ?_)
      have hP := hB
      have hP : va_P D vwCl (wN ci am (toF X (inc X.2.2.2.1 0)) kr q0 q1 q2 q3 q4 q5 iw kn y0 y1 y2 y3 y4 y5 y6) H1 := hP
      generalize H1 = H at hP hS ⊢
      have hD : va_D (aM am) (wN ci am (toF X (inc X.2.2.2.1 0)) kr q0 q1 q2 q3 q4 q5 iw kn y0 y1 y2 y3 y4 y5 y6) := wN_D hI
      have hp : p_hearing X (nI qn) b = (fnd 0, toF X (inc X.2.2.2.1 0)) := by first | (simp [p_hearing, bk, fl_eq, inP, c1, c2, t_qn]; done) | (simp [p_hearing, bk, fl_eq, inP, c1, c2, t_qn] <;> omega)
      refine nv_cv (show fnd 0 = (p_hearing X (nI qn) b).1 from by rw [hp]) ?_
      exact mu_iret hx hb hr hlocks hS ((by rw [hp]; exact ⟨_, _, _, _, _, _, _, _, _, _, _, _, _, _, _, hkr, hP⟩)) dX4_hearing_30
    · obtain ⟨bn, h_bn, rfl⟩ := in_ex c2 (by omega)
      have t_bn : tn (nI bn) = bn := tn_nI (by omega)
      refine lv_aload_n hx hb dX4_hearing_15 rfl (lv_at hl 0 rfl) ?_
      refine lv_iload_n hx hb dX4_hearing_16 rfl (lv_at hl 1 rfl) ?_
      refine lv_iload_n hx hb dX4_hearing_17 rfl (lv_at hl 2 rfl) ?_
      refine ro_V (n := 2) (As := [.int (nI qn), .int (nI bn)]) (rest := []) ⟨hx, hb, hml, hown, hts⟩ (c_X4_hearingOf l D ci am X kr q0 q1 q2 q3 q4 q5 iw kn y0 y1 y2 y3 y4 y5 y6 (qn) (bn) hWF (by omega) (by omega)) gX4_hearing_X4_hearingOf rfl ⟨rfl, rfl⟩ (by decide +kernel) rfl ⟨Nat.le_of_ble_eq_true rfl, Nat.le_of_ble_eq_true rfl⟩ hE trivial hK hP (ci := 4) (q0 := 0) rfl rfl hl.1 rfl (Nat.le_of_ble_eq_true rfl) dX4_hearing_18 ⟨Nat.zero_le _, Nat.zero_le _⟩ ?_
      have f3 := hearP_lt X.1 (qn) (bn) hWF.n
      refine lv_goto (tgt := 30) hx hb dX4_hearing_21 (by decide) ?_
      have hp : p_hearing X (nI qn) (nI bn) = (nI ((reachS X.1 qn &&& playIn X.1 bn)), X) := by first | (simp [p_hearing, bk, fl_eq, inP, c1, c2, t_qn, t_bn]; done) | (simp [p_hearing, bk, fl_eq, inP, c1, c2, t_qn, t_bn] <;> omega)
      refine nv_cv (show nI ((reachS X.1 qn &&& playIn X.1 bn)) = (p_hearing X (nI qn) (nI bn)).1 from by rw [hp]) ?_
      exact mu_iret hx hb hr hlocks hS ((by rw [hp]; exact ⟨_, _, _, _, _, _, _, _, _, _, _, _, _, _, _, hkr, hP⟩)) dX4_hearing_30

set_option maxHeartbeats 4000000 in
set_option maxRecDepth 100000 in
/-- X4_go -/
theorem c_X4_go (l : Launch) (D : va_G) (ci : Nat → ClassId) (am : Nat → Nat) (X : AS) (kr : Nat → Int32) (q0 q1 q2 q3 q4 q5 : Int32) (iw : Bool) (kn : Nat → Option Nat) (y0 y1 y2 y3 y4 y5 y6 : Nat → Int32) (hI : injA am 16) (n : Int32) (hWX : WFX X) (hkr : kOK X kr) : Met l yX4_go wsX4_go ({ frames := 10, cells := 0, slots := 0, locals := 228 } : Room) (va_Pc [.ref (am 0), .int (n)] (ro_B D (tyL ci) (wN ci am X kr q0 q1 q2 q3 q4 q5 iw kn y0 y1 y2 y3 y4 y5 y6) (enT))) (mu_Q (aM am) (some (.int ((p_go X n).1))) (fun H => ∃ (kr : Nat → Int32) (q0 : Int32) (q1 : Int32) (q2 : Int32) (q3 : Int32) (q4 : Int32) (q5 : Int32) (iw : Bool) (y0 : Nat → Int32) (y1 : Nat → Int32) (y2 : Nat → Int32) (y3 : Nat → Int32) (y4 : Nat → Int32) (y5 : Nat → Int32) (y6 : Nat → Int32), kOK (p_go X n).2 kr ∧ va_P D vwCl (wN ci am ((p_go X n).2) kr q0 q1 q2 q3 q4 q5 iw kn y0 y1 y2 y3 y4 y5 y6) H)) 0 0 (aM am) := by
  refine mu_Met (cc := cX4_go) (maxL := 2) (ret := (some .int)) [(0, .ref (am 0)), (1, .int (n))] (wN_D hI) (by decide) rfl (Nat.le_of_ble_eq_true rfl) rfl ?_
  intro p e s m below meth c H locs hx hb hml hr hlocks hts hown hP hK hs0 hD hS ls hl
  have hown : s.vm.findClass RX4 = some m.cls := hown
  have hinX4 : ∀ w ∈ wsX40, w ∈ wsX4_go := by decide +kernel
  have hE := hE_T
  have hWF := hWX.w
  have f_n := hWF.n
  have f_e := hWX.e
  have f_tl := hWX.t
  refine lv_iload_n hx hb dX4_go_0 rfl (lv_at hl 1 rfl) ?_
  refine lv_iconst (v := nI (1)) hx hb dX4_go_1 (by decide) ?_
  refine lv_bipush (v := nI (20)) hx hb dX4_go_2 (by decide) ?_
  refine ro_S (n := 3) (As := [.int (n), .int (nI 1), .int (nI 20)]) (rest := []) ⟨hx, hb, hml, hown, hts⟩ (c_X4_within l D ci (wN ci am X kr q0 q1 q2 q3 q4 q5 iw kn y0 y1 y2 y3 y4 y5 y6) (n) (nI (1)) (nI (20)) ) gX4_go_X4_within rfl ⟨rfl, rfl⟩ (by decide +kernel) rfl ⟨Nat.le_of_ble_eq_true rfl, Nat.le_of_ble_eq_true rfl⟩ hE trivial hK hP hl.1 rfl (Nat.le_of_ble_eq_true rfl) dX4_go_4 ⟨Nat.zero_le _, Nat.zero_le _⟩ ?_
  refine nv_cv (congrArg bI (wth_inR n 1 20 (by decide) (by decide))) ?_
  refine nv_ifne_b (tgt := 17) hx hb dX4_go_7 (by decide) (fun c1 => ?_) (fun c1 => ?_)
  · obtain ⟨nn, h_nn, h_nn2, rfl⟩ := inR_ex c1 (by decide)
    have t_nn : tn (nI nn) = nn := tn_nI (by omega)
    refine lv_aload_n hx hb dX4_go_17 rfl (lv_at hl 0 rfl) ?_
    refine va_get (D := D) (ci := 4) (v := .ref (am 1)) (C := RX4) (T := TX4) (N := 24) hx hb hts hinX4 hown hK hP 0 rfl rfl 0 (by decide) (hts (.fieldLink RX4 9 "OneShortModel" "now" "[I") (List.mem_of_getElem? (i := 2) rfl)) (fun _ h9 => h9) rfl dX4_go_18 ?_
    refine lv_iconst (v := nI (0)) hx hb dX4_go_21 (by decide) ?_
    refine nv_iald (v := nI (X.1 8 0)) hx hb hK hP 1 0 rfl rfl (by omega) (by decide) (pk_ev X.1) dX4_go_22 ?_
    refine lv_iload_n hx hb dX4_go_23 rfl (lv_at hl 1 rfl) ?_
    refine nv_iadd hx hb dX4_go_24 ?_
    refine lv_ldc (v := nI (99999)) hx hb hown (hts (.constant RX4 183 (99999)) (List.mem_of_getElem? (i := 3) rfl)) dX4_go_25 ?_
    refine nv_icmp_le (tgt := 37) hx hb (by omega) (by omega) dX4_go_27 (by decide) (fun c2 => ?_) (fun c2 => ?_)
    · refine lv_aload_n hx hb dX4_go_37 rfl (lv_at hl 0 rfl) ?_
      refine lv_iload_n hx hb dX4_go_38 rfl (lv_at hl 1 rfl) ?_
      refine mu_V (n := 1) (As := [.int (nI nn)]) (rest := []) ⟨hx, hb, hml, hown, hts⟩ (c_X4_evenings l D ci am X kr q0 q1 q2 q3 q4 q5 iw kn y0 y1 y2 y3 y4 y5 y6 hI (nn) hWF (by omega) (by omega)) gX4_go_X4_evenings rfl ⟨rfl, rfl⟩ (by decide +kernel) rfl ⟨Nat.le_of_ble_eq_true rfl, Nat.le_of_ble_eq_true rfl⟩ hE trivial hK hP (ci := 4) (q0 := 0) rfl rfl hl.1 rfl (Nat.le_of_ble_eq_true rfl) dX4_go_39 ⟨Nat.zero_le _, Nat.zero_le _⟩ hS (fun _ h => h) (fun H1 locs hz hfr hB hS => ?_)
      obtain ⟨y1_3, hP⟩ := hB
      have hP : va_P D vwCl (wN ci am (toS X (evMn X.1 nn)) kr q0 q1 q2 q3 q4 q5 iw kn y0 y1_3 y2 y3 y4 y5 y6) H1 := hP
      generalize H1 = H at hP hS ⊢
      have hD : va_D (aM am) (wN ci am (toS X (evMn X.1 nn)) kr q0 q1 q2 q3 q4 q5 iw kn y0 y1_3 y2 y3 y4 y5 y6) := wN_D hI
      refine lv_aload_n hx hb dX4_go_42 rfl (lv_at hl 0 rfl) ?_
      refine lv_iconst (v := nI (4)) hx hb dX4_go_43 (by decide) ?_
      refine ro_V (n := 1) (As := [.int (nI 4)]) (rest := []) ⟨hx, hb, hml, hown, hts⟩ (c_X4_sumOf l D ci am (toS X (evMn X.1 nn)) kr q0 q1 q2 q3 q4 q5 iw kn y0 y1_3 y2 y3 y4 y5 y6 (4) (WF_evMn hWF nn (by omega)) (by omega)) gX4_go_X4_sumOf rfl ⟨rfl, rfl⟩ (by decide +kernel) rfl ⟨Nat.le_of_ble_eq_true rfl, Nat.le_of_ble_eq_true rfl⟩ hE trivial hK hP (ci := 4) (q0 := 0) rfl rfl hl.1 rfl (Nat.le_of_ble_eq_true rfl) dX4_go_44 ⟨Nat.zero_le _, Nat.zero_le _⟩ ?_
      refine nv_cv (show nI (sumTo (fun q => (toS X (evMn X.1 nn)).1 (4 + 1) q) ((toS X (evMn X.1 nn)).1 7 0)) = nI (sumTo (fun q => (evMn X.1 nn) 5 q) ((evMn X.1 nn) 7 0)) from rfl) ?_
      have hp : p_go X (nI nn) = (nI (sumTo (fun q => (evMn X.1 nn) 5 q) ((evMn X.1 nn) 7 0)), toS X (evMn X.1 nn)) := by first | (simp [p_go, bk, fl_eq, c1, c2, t_nn]; done) | (simp [p_go, bk, fl_eq, show ¬ X.1 8 0 + nn ≤ 99999 by omega, c1, c2, t_nn]; done) | (rw [← evC_lt nn (by omega)]; simp [p_go, bk, fl_eq, sNerve, show X.1 8 0 + nn ≤ 99999 by omega, c1, c2, t_nn]; done)
      refine nv_cv (show nI (sumTo (fun q => (evMn X.1 nn) 5 q) ((evMn X.1 nn) 7 0)) = (p_go X (nI nn)).1 from by rw [hp]) ?_
      exact mu_iret hx hb hr hlocks hS ((by rw [hp]; exact ⟨_, _, _, _, _, _, _, _, _, _, _, _, _, _, _, hkr, hP⟩)) dX4_go_47
    · refine lv_aload_n hx hb dX4_go_30 rfl (lv_at hl 0 rfl) ?_
      refine lv_ldc (v := -1000005) hx hb hown (hts (.constant RX4 184 (-1000005)) (List.mem_of_getElem? (i := 4) rfl)) dX4_go_31 ?_
      refine mu_V (n := 1) (As := [.int (-1000005)]) (rest := []) ⟨hx, hb, hml, hown, hts⟩ (c_X4_finding l D ci am X kr q0 q1 q2 q3 q4 q5 iw kn y0 y1 y2 y3 y4 y5 y6 hI (-1000005) (4) (by omega) (by decide)) gX4_go_X4_finding rfl ⟨rfl, rfl⟩ (by decide +kernel) rfl ⟨Nat.le_of_ble_eq_true rfl, Nat.le_of_ble_eq_true rfl⟩ hE trivial hK hP (ci := 4) (q0 := 0) rfl rfl hl.1 rfl (Nat.le_of_ble_eq_true rfl) dX4_go_33 ⟨Nat.zero_le _, Nat.zero_le _⟩ hS (fun _ h => h) (fun H1 locs hz hfr hB hS => ?_)
      have hP := hB
      have hP : va_P D vwCl (wN ci am (toF X (inc X.2.2.2.1 4)) kr q0 q1 q2 q3 q4 q5 iw kn y0 y1 y2 y3 y4 y5 y6) H1 := hP
      generalize H1 = H at hP hS ⊢
      have hD : va_D (aM am) (wN ci am (toF X (inc X.2.2.2.1 4)) kr q0 q1 q2 q3 q4 q5 iw kn y0 y1 y2 y3 y4 y5 y6) := wN_D hI
      have hp : p_go X (nI nn) = (fnd 4, toF X (inc X.2.2.2.1 4)) := by first | (simp [p_go, bk, fl_eq, c1, c2, t_nn]; done) | (simp [p_go, bk, fl_eq, show ¬ X.1 8 0 + nn ≤ 99999 by omega, c1, c2, t_nn]; done) | (rw [← evC_lt nn (by omega)]; simp [p_go, bk, fl_eq, sNerve, show X.1 8 0 + nn ≤ 99999 by omega, c1, c2, t_nn]; done)
      refine nv_cv (show fnd 4 = (p_go X (nI nn)).1 from by rw [hp]) ?_
      exact mu_iret hx hb hr hlocks hS ((by rw [hp]; exact ⟨_, _, _, _, _, _, _, _, _, _, _, _, _, _, _, hkr, hP⟩)) dX4_go_36
  · refine lv_aload_n hx hb dX4_go_10 rfl (lv_at hl 0 rfl) ?_
    refine lv_ldc (v := -1000001) hx hb hown (hts (.constant RX4 72 (-1000001)) (List.mem_of_getElem? (i := 1) rfl)) dX4_go_11 ?_
    refine mu_V (n := 1) (As := [.int (-1000001)]) (rest := []) ⟨hx, hb, hml, hown, hts⟩ (c_X4_finding l D ci am X kr q0 q1 q2 q3 q4 q5 iw kn y0 y1 y2 y3 y4 y5 y6 hI (-1000001) (0) (by omega) (by decide)) gX4_go_X4_finding rfl ⟨rfl, rfl⟩ (by decide +kernel) rfl ⟨Nat.le_of_ble_eq_true rfl, Nat.le_of_ble_eq_true rfl⟩ hE trivial hK hP (ci := 4) (q0 := 0) rfl rfl hl.1 rfl (Nat.le_of_ble_eq_true rfl) dX4_go_13 ⟨Nat.zero_le _, Nat.zero_le _⟩ hS (fun _ h => h) (fun H1 locs hz hfr hB hS => ?_)
    have hP := hB
    have hP : va_P D vwCl (wN ci am (toF X (inc X.2.2.2.1 0)) kr q0 q1 q2 q3 q4 q5 iw kn y0 y1 y2 y3 y4 y5 y6) H1 := hP
    generalize H1 = H at hP hS ⊢
    have hD : va_D (aM am) (wN ci am (toF X (inc X.2.2.2.1 0)) kr q0 q1 q2 q3 q4 q5 iw kn y0 y1 y2 y3 y4 y5 y6) := wN_D hI
    have hp : p_go X n = (fnd 0, toF X (inc X.2.2.2.1 0)) := by first | (simp [p_go, bk, fl_eq, c1]; done) | (simp [p_go, bk, fl_eq, show ¬ X.1 8 0 + nn ≤ 99999 by omega, c1]; done) | (rw [← evC_lt nn (by omega)]; simp [p_go, bk, fl_eq, sNerve, show X.1 8 0 + nn ≤ 99999 by omega, c1]; done)
    refine nv_cv (show fnd 0 = (p_go X n).1 from by rw [hp]) ?_
    exact mu_iret hx hb hr hlocks hS ((by rw [hp]; exact ⟨_, _, _, _, _, _, _, _, _, _, _, _, _, _, _, hkr, hP⟩)) dX4_go_16

set_option maxHeartbeats 4000000 in
set_option maxRecDepth 100000 in
/-- X4_now -/
theorem c_X4_now (l : Launch) (D : va_G) (ci : Nat → ClassId) (am : Nat → Nat) (X : AS) (kr : Nat → Int32) (q0 q1 q2 q3 q4 q5 : Int32) (iw : Bool) (kn : Nat → Option Nat) (y0 y1 y2 y3 y4 y5 y6 : Nat → Int32) (hI : injA am 16) (w : Int32) (hWX : WFX X) (hkr : kOK X kr) : Met l yX4_now wsX4_now ({ frames := 7, cells := 0, slots := 0, locals := 162 } : Room) (va_Pc [.ref (am 0), .int (w)] (ro_B D (tyL ci) (wN ci am X kr q0 q1 q2 q3 q4 q5 iw kn y0 y1 y2 y3 y4 y5 y6) (enT))) (mu_Q (aM am) (some (.int ((p_now X w).1))) (fun H => ∃ (kr : Nat → Int32) (q0 : Int32) (q1 : Int32) (q2 : Int32) (q3 : Int32) (q4 : Int32) (q5 : Int32) (iw : Bool) (y0 : Nat → Int32) (y1 : Nat → Int32) (y2 : Nat → Int32) (y3 : Nat → Int32) (y4 : Nat → Int32) (y5 : Nat → Int32) (y6 : Nat → Int32), kOK (p_now X w).2 kr ∧ va_P D vwCl (wN ci am ((p_now X w).2) kr q0 q1 q2 q3 q4 q5 iw kn y0 y1 y2 y3 y4 y5 y6) H)) 0 0 (aM am) := by
  refine mu_Met (cc := cX4_now) (maxL := 2) (ret := (some .int)) [(0, .ref (am 0)), (1, .int (w))] (wN_D hI) (by decide) rfl (Nat.le_of_ble_eq_true rfl) rfl ?_
  intro p e s m below meth c H locs hx hb hml hr hlocks hts hown hP hK hs0 hD hS ls hl
  have hown : s.vm.findClass RX4 = some m.cls := hown
  have hinX4 : ∀ w ∈ wsX40, w ∈ wsX4_now := by decide +kernel
  have hE := hE_T
  have hWF := hWX.w
  have f_n := hWF.n
  have f_e := hWX.e
  have f_tl := hWX.t
  refine lv_iload_n hx hb dX4_now_0 rfl (lv_at hl 1 rfl) ?_
  rcases Bool.eq_false_or_eq_true (inN w 5) with i1 | i1
  · obtain ⟨wn, h_wn, rfl⟩ := in_ex i1 (by decide)
    rcases (show wn = 0 ∨ wn = 1 ∨ wn = 2 ∨ wn = 3 ∨ wn = 4 by omega) with rfl | rfl | rfl | rfl | rfl
    · have t_w : tn (nI 0) = 0 := tn_nI (by decide)
      refine lv_tableIn (x := nI 0) (off := 35) (tgt := 36) hx hb dX4_now_1 (by decide) (by decide) (by decide) (by decide) ?_
      refine lv_aload_n hx hb dX4_now_36 rfl (lv_at hl 0 rfl) ?_
      refine va_get (D := D) (ci := 4) (v := .ref (am 1)) (C := RX4) (T := TX4) (N := 24) hx hb hts hinX4 hown hK hP 0 rfl rfl 0 (by decide) (hts (.fieldLink RX4 9 "OneShortModel" "now" "[I") (List.mem_of_getElem? (i := 1) rfl)) (fun _ h9 => h9) rfl dX4_now_37 ?_
      refine lv_iconst (v := nI (0)) hx hb dX4_now_40 (by decide) ?_
      refine nv_iald (v := nI (X.1 8 0)) hx hb hK hP 1 0 rfl rfl (by omega) (by decide) (pk_ev X.1) dX4_now_41 ?_
      have hp : p_now X (nI 0) = (nI (X.1 8 0), X) := by first | (simp [p_now, sNerve, sLoud, bk, fl_eq, inP, i1, t_w]; done) | (simp [p_now, sNerve, sLoud, bk, fl_eq, inP, i1, t_w] <;> omega)
      refine nv_cv (show nI (X.1 8 0) = (p_now X (nI 0)).1 from by rw [hp]) ?_
      exact mu_iret hx hb hr hlocks hS ((by rw [hp]; exact ⟨_, _, _, _, _, _, _, _, _, _, _, _, _, _, _, hkr, hP⟩)) dX4_now_42
    · have t_w : tn (nI 1) = 1 := tn_nI (by decide)
      refine lv_tableIn (x := nI 1) (off := 42) (tgt := 43) hx hb dX4_now_1 (by decide) (by decide) (by decide) (by decide) ?_
      refine lv_aload_n hx hb dX4_now_43 rfl (lv_at hl 0 rfl) ?_
      refine lv_iconst (v := nI (4)) hx hb dX4_now_44 (by decide) ?_
      refine ro_V (n := 1) (As := [.int (nI 4)]) (rest := []) ⟨hx, hb, hml, hown, hts⟩ (c_X4_sumOf l D ci am X kr q0 q1 q2 q3 q4 q5 iw kn y0 y1 y2 y3 y4 y5 y6 (4) hWF (by omega)) gX4_now_X4_sumOf rfl ⟨rfl, rfl⟩ (by decide +kernel) rfl ⟨Nat.le_of_ble_eq_true rfl, Nat.le_of_ble_eq_true rfl⟩ hE trivial hK hP (ci := 4) (q0 := 0) rfl rfl hl.1 rfl (Nat.le_of_ble_eq_true rfl) dX4_now_45 ⟨Nat.zero_le _, Nat.zero_le _⟩ ?_
      refine nv_cv (show nI (sumTo (fun q => X.1 (4 + 1) q) (X.1 7 0)) = nI (sumTo (fun q => X.1 5 q) (X.1 7 0)) from rfl) ?_
      have hp : p_now X (nI 1) = (nI (sumTo (fun q => X.1 5 q) (X.1 7 0)), X) := by first | (simp [p_now, sNerve, sLoud, bk, fl_eq, inP, i1, t_w]; done) | (simp [p_now, sNerve, sLoud, bk, fl_eq, inP, i1, t_w] <;> omega)
      refine nv_cv (show nI (sumTo (fun q => X.1 5 q) (X.1 7 0)) = (p_now X (nI 1)).1 from by rw [hp]) ?_
      exact mu_iret hx hb hr hlocks hS ((by rw [hp]; exact ⟨_, _, _, _, _, _, _, _, _, _, _, _, _, _, _, hkr, hP⟩)) dX4_now_48
    · have t_w : tn (nI 2) = 2 := tn_nI (by decide)
      refine lv_tableIn (x := nI 2) (off := 48) (tgt := 49) hx hb dX4_now_1 (by decide) (by decide) (by decide) (by decide) ?_
      refine lv_aload_n hx hb dX4_now_49 rfl (lv_at hl 0 rfl) ?_
      refine ro_V (n := 0) (As := []) (rest := []) ⟨hx, hb, hml, hown, hts⟩ (c_X4_downNow l D ci am X kr q0 q1 q2 q3 q4 q5 iw kn y0 y1 y2 y3 y4 y5 y6  hWF) gX4_now_X4_downNow rfl ⟨rfl, rfl⟩ (by decide +kernel) rfl ⟨Nat.le_of_ble_eq_true rfl, Nat.le_of_ble_eq_true rfl⟩ hE trivial hK hP (ci := 4) (q0 := 0) rfl rfl hl.1 rfl (Nat.le_of_ble_eq_true rfl) dX4_now_50 ⟨Nat.zero_le _, Nat.zero_le _⟩ ?_
      have f2 := unner_lt hWF
      have hp : p_now X (nI 2) = (nI (unner X.1), X) := by first | (simp [p_now, sNerve, sLoud, bk, fl_eq, inP, i1, t_w]; done) | (simp [p_now, sNerve, sLoud, bk, fl_eq, inP, i1, t_w] <;> omega)
      refine nv_cv (show nI (unner X.1) = (p_now X (nI 2)).1 from by rw [hp]) ?_
      exact mu_iret hx hb hr hlocks hS ((by rw [hp]; exact ⟨_, _, _, _, _, _, _, _, _, _, _, _, _, _, _, hkr, hP⟩)) dX4_now_53
    · have t_w : tn (nI 3) = 3 := tn_nI (by decide)
      refine lv_tableIn (x := nI 3) (off := 53) (tgt := 54) hx hb dX4_now_1 (by decide) (by decide) (by decide) (by decide) ?_
      refine lv_aload_n hx hb dX4_now_54 rfl (lv_at hl 0 rfl) ?_
      refine lv_iconst (v := nI (3)) hx hb dX4_now_55 (by decide) ?_
      refine ro_V (n := 1) (As := [.int (nI 3)]) (rest := []) ⟨hx, hb, hml, hown, hts⟩ (c_X4_sumOf l D ci am X kr q0 q1 q2 q3 q4 q5 iw kn y0 y1 y2 y3 y4 y5 y6 (3) hWF (by omega)) gX4_now_X4_sumOf rfl ⟨rfl, rfl⟩ (by decide +kernel) rfl ⟨Nat.le_of_ble_eq_true rfl, Nat.le_of_ble_eq_true rfl⟩ hE trivial hK hP (ci := 4) (q0 := 0) rfl rfl hl.1 rfl (Nat.le_of_ble_eq_true rfl) dX4_now_56 ⟨Nat.zero_le _, Nat.zero_le _⟩ ?_
      refine nv_cv (show nI (sumTo (fun q => X.1 (3 + 1) q) (X.1 7 0)) = nI (sumTo (fun q => X.1 4 q) (X.1 7 0)) from rfl) ?_
      have hp : p_now X (nI 3) = (nI (sumTo (fun q => X.1 4 q) (X.1 7 0)), X) := by first | (simp [p_now, sNerve, sLoud, bk, fl_eq, inP, i1, t_w]; done) | (simp [p_now, sNerve, sLoud, bk, fl_eq, inP, i1, t_w] <;> omega)
      refine nv_cv (show nI (sumTo (fun q => X.1 4 q) (X.1 7 0)) = (p_now X (nI 3)).1 from by rw [hp]) ?_
      exact mu_iret hx hb hr hlocks hS ((by rw [hp]; exact ⟨_, _, _, _, _, _, _, _, _, _, _, _, _, _, _, hkr, hP⟩)) dX4_now_59
    · have t_w : tn (nI 4) = 4 := tn_nI (by decide)
      refine lv_tableIn (x := nI 4) (off := 59) (tgt := 60) hx hb dX4_now_1 (by decide) (by decide) (by decide) (by decide) ?_
      refine lv_aload_n hx hb dX4_now_60 rfl (lv_at hl 0 rfl) ?_
      refine ro_V (n := 0) (As := []) (rest := []) ⟨hx, hb, hml, hown, hts⟩ (c_X4_heardNow l D ci am X kr q0 q1 q2 q3 q4 q5 iw kn y0 y1 y2 y3 y4 y5 y6  hWF) gX4_now_X4_heardNow rfl ⟨rfl, rfl⟩ (by decide +kernel) rfl ⟨Nat.le_of_ble_eq_true rfl, Nat.le_of_ble_eq_true rfl⟩ hE trivial hK hP (ci := 4) (q0 := 0) rfl rfl hl.1 rfl (Nat.le_of_ble_eq_true rfl) dX4_now_61 ⟨Nat.zero_le _, Nat.zero_le _⟩ ?_
      have hp : p_now X (nI 4) = (nI (heardAll X.1), X) := by first | (simp [p_now, sNerve, sLoud, bk, fl_eq, inP, i1, t_w]; done) | (simp [p_now, sNerve, sLoud, bk, fl_eq, inP, i1, t_w] <;> omega)
      refine nv_cv (show nI (heardAll X.1) = (p_now X (nI 4)).1 from by rw [hp]) ?_
      exact mu_iret hx hb hr hlocks hS ((by rw [hp]; exact ⟨_, _, _, _, _, _, _, _, _, _, _, _, _, _, _, hkr, hP⟩)) dX4_now_64
  · refine lv_tableOut (tgt := 65) hx hb dX4_now_1 (tsw_out i1) (by decide) ?_
    refine lv_aload_n hx hb dX4_now_65 rfl (lv_at hl 0 rfl) ?_
    refine lv_ldc (v := -1000001) hx hb hown (hts (.constant RX4 72 (-1000001)) (List.mem_of_getElem? (i := 2) rfl)) dX4_now_66 ?_
    refine mu_V (n := 1) (As := [.int (-1000001)]) (rest := []) ⟨hx, hb, hml, hown, hts⟩ (c_X4_finding l D ci am X kr q0 q1 q2 q3 q4 q5 iw kn y0 y1 y2 y3 y4 y5 y6 hI (-1000001) (0) (by omega) (by decide)) gX4_now_X4_finding rfl ⟨rfl, rfl⟩ (by decide +kernel) rfl ⟨Nat.le_of_ble_eq_true rfl, Nat.le_of_ble_eq_true rfl⟩ hE trivial hK hP (ci := 4) (q0 := 0) rfl rfl hl.1 rfl (Nat.le_of_ble_eq_true rfl) dX4_now_68 ⟨Nat.zero_le _, Nat.zero_le _⟩ hS (fun _ h => h) (fun H1 locs hz hfr hB hS => ?_)
    have hP := hB
    have hP : va_P D vwCl (wN ci am (toF X (inc X.2.2.2.1 0)) kr q0 q1 q2 q3 q4 q5 iw kn y0 y1 y2 y3 y4 y5 y6) H1 := hP
    generalize H1 = H at hP hS ⊢
    have hD : va_D (aM am) (wN ci am (toF X (inc X.2.2.2.1 0)) kr q0 q1 q2 q3 q4 q5 iw kn y0 y1 y2 y3 y4 y5 y6) := wN_D hI
    have hp : p_now X w = (fnd 0, toF X (inc X.2.2.2.1 0)) := by first | (simp [p_now, sNerve, sLoud, bk, fl_eq, inP, i1]; done) | (simp [p_now, sNerve, sLoud, bk, fl_eq, inP, i1] <;> omega)
    refine nv_cv (show fnd 0 = (p_now X w).1 from by rw [hp]) ?_
    exact mu_iret hx hb hr hlocks hS ((by rw [hp]; exact ⟨_, _, _, _, _, _, _, _, _, _, _, _, _, _, _, hkr, hP⟩)) dX4_now_71

set_option maxHeartbeats 4000000 in
set_option maxRecDepth 100000 in
/-- X4_parts -/
theorem c_X4_parts (l : Launch) (D : va_G) (ci : Nat → ClassId) (am : Nat → Nat) (X : AS) (kr : Nat → Int32) (q0 q1 q2 q3 q4 q5 : Int32) (iw : Bool) (kn : Nat → Option Nat) (y0 y1 y2 y3 y4 y5 y6 : Nat → Int32) (hI : injA am 16) (x y : Int32) (hWX : WFX X) (hkr : kOK X kr) : Met l yX4_parts wsX4_parts ({ frames := 5, cells := 0, slots := 0, locals := 114 } : Room) (va_Pc [.ref (am 0), .int (x), .int (y)] (ro_B D (tyL ci) (wN ci am X kr q0 q1 q2 q3 q4 q5 iw kn y0 y1 y2 y3 y4 y5 y6) (enT))) (mu_Q (aM am) (some (.int ((p_parts X x y).1))) (fun H => ∃ (kr : Nat → Int32) (q0 : Int32) (q1 : Int32) (q2 : Int32) (q3 : Int32) (q4 : Int32) (q5 : Int32) (iw : Bool) (y0 : Nat → Int32) (y1 : Nat → Int32) (y2 : Nat → Int32) (y3 : Nat → Int32) (y4 : Nat → Int32) (y5 : Nat → Int32) (y6 : Nat → Int32), kOK (p_parts X x y).2 kr ∧ va_P D vwCl (wN ci am ((p_parts X x y).2) kr q0 q1 q2 q3 q4 q5 iw kn y0 y1 y2 y3 y4 y5 y6) H)) 0 0 (aM am) := by
  refine mu_Met (cc := cX4_parts) (maxL := 3) (ret := (some .int)) [(0, .ref (am 0)), (1, .int (x)), (2, .int (y))] (wN_D hI) (by decide) rfl (Nat.le_of_ble_eq_true rfl) rfl ?_
  intro p e s m below meth c H locs hx hb hml hr hlocks hts hown hP hK hs0 hD hS ls hl
  have hown : s.vm.findClass RX4 = some m.cls := hown
  have hE := hE_T
  have hWF := hWX.w
  have f_n := hWF.n
  have f_e := hWX.e
  have f_tl := hWX.t
  refine lv_aload_n hx hb dX4_parts_0 rfl (lv_at hl 0 rfl) ?_
  refine lv_iload_n hx hb dX4_parts_1 rfl (lv_at hl 1 rfl) ?_
  refine lv_iload_n hx hb dX4_parts_2 rfl (lv_at hl 2 rfl) ?_
  refine ro_V (n := 2) (As := [.int (x), .int (y)]) (rest := []) ⟨hx, hb, hml, hown, hts⟩ (c_X4_areTwo l D ci am X kr q0 q1 q2 q3 q4 q5 iw kn y0 y1 y2 y3 y4 y5 y6 (x) (y) hWF) gX4_parts_X4_areTwo rfl ⟨rfl, rfl⟩ (by decide +kernel) rfl ⟨Nat.le_of_ble_eq_true rfl, Nat.le_of_ble_eq_true rfl⟩ hE trivial hK hP (ci := 4) (q0 := 0) rfl rfl hl.1 rfl (Nat.le_of_ble_eq_true rfl) dX4_parts_3 ⟨Nat.zero_le _, Nat.zero_le _⟩ ?_
  refine nv_ifeq_b (tgt := 23) hx hb dX4_parts_6 (by decide) (fun c1 => ?_) (fun c1 => ?_)
  · refine lv_aload_n hx hb dX4_parts_23 rfl (lv_at hl 0 rfl) ?_
    refine lv_ldc (v := -1000001) hx hb hown (hts (.constant RX4 72 (-1000001)) (List.mem_of_getElem? (i := 1) rfl)) dX4_parts_24 ?_
    refine mu_V (n := 1) (As := [.int (-1000001)]) (rest := []) ⟨hx, hb, hml, hown, hts⟩ (c_X4_finding l D ci am X kr q0 q1 q2 q3 q4 q5 iw kn y0 y1 y2 y3 y4 y5 y6 hI (-1000001) (0) (by omega) (by decide)) gX4_parts_X4_finding rfl ⟨rfl, rfl⟩ (by decide +kernel) rfl ⟨Nat.le_of_ble_eq_true rfl, Nat.le_of_ble_eq_true rfl⟩ hE trivial hK hP (ci := 4) (q0 := 0) rfl rfl hl.1 rfl (Nat.le_of_ble_eq_true rfl) dX4_parts_26 ⟨Nat.zero_le _, Nat.zero_le _⟩ hS (fun _ h => h) (fun H1 locs hz hfr hB hS => ?_)
    have hP := hB
    have hP : va_P D vwCl (wN ci am (toF X (inc X.2.2.2.1 0)) kr q0 q1 q2 q3 q4 q5 iw kn y0 y1 y2 y3 y4 y5 y6) H1 := hP
    generalize H1 = H at hP hS ⊢
    have hD : va_D (aM am) (wN ci am (toF X (inc X.2.2.2.1 0)) kr q0 q1 q2 q3 q4 q5 iw kn y0 y1 y2 y3 y4 y5 y6) := wN_D hI
    have hp : p_parts X x y = (fnd 0, toF X (inc X.2.2.2.1 0)) := by first | (simp [p_parts, bk, fl_eq, inP, c1]; done) | (simp [p_parts, bk, fl_eq, inP, c1] <;> omega)
    refine nv_cv (show fnd 0 = (p_parts X x y).1 from by rw [hp]) ?_
    exact mu_iret hx hb hr hlocks hS ((by rw [hp]; exact ⟨_, _, _, _, _, _, _, _, _, _, _, _, _, _, _, hkr, hP⟩)) dX4_parts_29
  · obtain ⟨xn, yn, h_xn, h_yn, h_ne, rfl, rfl⟩ := pair_ex c1 f_n
    have t_xn : tn (nI xn) = xn := tn_nI (by omega)
    have t_yn : tn (nI yn) = yn := tn_nI (by omega)
    refine lv_aload_n hx hb dX4_parts_9 rfl (lv_at hl 0 rfl) ?_
    refine lv_iload_n hx hb dX4_parts_10 rfl (lv_at hl 1 rfl) ?_
    refine ro_V (n := 1) (As := [.int (nI xn)]) (rest := []) ⟨hx, hb, hml, hown, hts⟩ (c_X4_barsOf l D ci am X kr q0 q1 q2 q3 q4 q5 iw kn y0 y1 y2 y3 y4 y5 y6 (xn) hWF (by omega)) gX4_parts_X4_barsOf rfl ⟨rfl, rfl⟩ (by decide +kernel) rfl ⟨Nat.le_of_ble_eq_true rfl, Nat.le_of_ble_eq_true rfl⟩ hE trivial hK hP (ci := 4) (q0 := 0) rfl rfl hl.1 rfl (Nat.le_of_ble_eq_true rfl) dX4_parts_11 ⟨Nat.zero_le _, Nat.zero_le _⟩ ?_
    have f2 := bPlay_lt X.1 (xn)
    refine lv_aload_n hx hb dX4_parts_14 rfl (lv_at hl 0 rfl) ?_
    refine lv_iload_n hx hb dX4_parts_15 rfl (lv_at hl 2 rfl) ?_
    refine ro_V (n := 1) (As := [.int (nI yn)]) (rest := [.int (nI (bPlay X.1 xn))]) ⟨hx, hb, hml, hown, hts⟩ (c_X4_barsOf l D ci am X kr q0 q1 q2 q3 q4 q5 iw kn y0 y1 y2 y3 y4 y5 y6 (yn) hWF (by omega)) gX4_parts_X4_barsOf rfl ⟨rfl, rfl⟩ (by decide +kernel) rfl ⟨Nat.le_of_ble_eq_true rfl, Nat.le_of_ble_eq_true rfl⟩ hE trivial hK hP (ci := 4) (q0 := 0) rfl rfl hl.1 rfl (Nat.le_of_ble_eq_true rfl) dX4_parts_16 ⟨Nat.zero_le _, Nat.zero_le _⟩ ?_
    have f3 := bPlay_lt X.1 (yn)
    refine nv_ixor hx hb dX4_parts_19 ?_
    refine lv_goto (tgt := 29) hx hb dX4_parts_20 (by decide) ?_
    have hp : p_parts X (nI xn) (nI yn) = (nI ((bPlay X.1 xn ^^^ bPlay X.1 yn)), X) := by first | (simp [p_parts, bk, fl_eq, inP, c1, t_xn, t_yn]; done) | (simp [p_parts, bk, fl_eq, inP, c1, t_xn, t_yn] <;> omega)
    refine nv_cv (show nI ((bPlay X.1 xn ^^^ bPlay X.1 yn)) = (p_parts X (nI xn) (nI yn)).1 from by rw [hp]) ?_
    exact mu_iret hx hb hr hlocks hS ((by rw [hp]; exact ⟨_, _, _, _, _, _, _, _, _, _, _, _, _, _, _, hkr, hP⟩)) dX4_parts_29

set_option maxHeartbeats 4000000 in
set_option maxRecDepth 100000 in
/-- X4_seed -/
theorem c_X4_seed (l : Launch) (D : va_G) (ci : Nat → ClassId) (am : Nat → Nat) (X : AS) (kr : Nat → Int32) (q0 q1 q2 q3 q4 q5 : Int32) (iw : Bool) (kn : Nat → Option Nat) (y0 y1 y2 y3 y4 y5 y6 : Nat → Int32) (hI : injA am 16) (v : Int32) (hWX : WFX X) (hkr : kOK X kr) : Met l yX4_seed wsX4_seed ({ frames := 1, cells := 0, slots := 0, locals := 23 } : Room) (va_Pc [.ref (am 0), .int (v)] (ro_B D (tyL ci) (wN ci am X kr q0 q1 q2 q3 q4 q5 iw kn y0 y1 y2 y3 y4 y5 y6) (enT))) (mu_Q (aM am) (some (.int ((p_seed X v).1))) (fun H => ∃ (kr : Nat → Int32) (q0 : Int32) (q1 : Int32) (q2 : Int32) (q3 : Int32) (q4 : Int32) (q5 : Int32) (iw : Bool) (y0 : Nat → Int32) (y1 : Nat → Int32) (y2 : Nat → Int32) (y3 : Nat → Int32) (y4 : Nat → Int32) (y5 : Nat → Int32) (y6 : Nat → Int32), kOK (p_seed X v).2 kr ∧ va_P D vwCl (wN ci am ((p_seed X v).2) kr q0 q1 q2 q3 q4 q5 iw kn y0 y1 y2 y3 y4 y5 y6) H)) 0 0 (aM am) := by
  refine mu_Met (cc := cX4_seed) (maxL := 2) (ret := (some .int)) [(0, .ref (am 0)), (1, .int (v))] (wN_D hI) (by decide) rfl (Nat.le_of_ble_eq_true rfl) rfl ?_
  intro p e s m below meth c H locs hx hb hml hr hlocks hts hown hP hK hs0 hD hS ls hl
  have hown : s.vm.findClass RX4 = some m.cls := hown
  have hE := hE_T
  have hWF := hWX.w
  have f_n := hWF.n
  have f_e := hWX.e
  have f_tl := hWX.t
  refine lv_aload_n hx hb dX4_seed_0 rfl (lv_at hl 0 rfl) ?_
  refine lv_iconst (v := nI (2)) hx hb dX4_seed_1 (by decide) ?_
  refine lv_iload_n hx hb dX4_seed_2 rfl (lv_at hl 1 rfl) ?_
  refine mu_V (n := 2) (As := [.int (nI 2), .int (v)]) (rest := []) ⟨hx, hb, hml, hown, hts⟩ (c_X4_become l D ci am X kr q0 q1 q2 q3 q4 q5 iw kn y0 y1 y2 y3 y4 y5 y6 hI (2) (v) (st X.1 9 0 (v).toBitVec.toNat) (nI (X.1 9 0)) (by omega) (pk_z X.1) (pku_zI X.1 (v))) gX4_seed_X4_become rfl ⟨rfl, rfl⟩ (by decide +kernel) rfl ⟨Nat.le_of_ble_eq_true rfl, Nat.le_of_ble_eq_true rfl⟩ hE trivial hK hP (ci := 4) (q0 := 0) rfl rfl hl.1 rfl (Nat.le_of_ble_eq_true rfl) dX4_seed_3 ⟨Nat.zero_le _, Nat.zero_le _⟩ hS (fun _ h => h) (fun H1 locs hz hfr hB hS => ?_)
  have hP := hB
  have hP : va_P D vwCl (wN ci am (toS X (st X.1 9 0 (v).toBitVec.toNat)) kr q0 q1 q2 q3 q4 q5 iw kn y0 y1 y2 y3 y4 y5 y6) H1 := hP
  generalize H1 = H at hP hS ⊢
  have hD : va_D (aM am) (wN ci am (toS X (st X.1 9 0 (v).toBitVec.toNat)) kr q0 q1 q2 q3 q4 q5 iw kn y0 y1 y2 y3 y4 y5 y6) := wN_D hI
  have hp : p_seed X v = (nI (X.1 9 0), toS X (st X.1 9 0 (v).toBitVec.toNat)) := rfl
  refine nv_cv (show nI (X.1 9 0) = (p_seed X v).1 from by rw [hp]) ?_
  exact mu_iret hx hb hr hlocks hS ((by rw [hp]; exact ⟨_, _, _, _, _, _, _, _, _, _, _, _, _, _, _, hkr, hP⟩)) dX4_seed_6

set_option maxHeartbeats 4000000 in
set_option maxRecDepth 100000 in
/-- X4_wipe -/
theorem c_X4_wipe (l : Launch) (D : va_G) (ci : Nat → ClassId) (am : Nat → Nat) (X : AS) (kr : Nat → Int32) (q0 q1 q2 q3 q4 q5 : Int32) (iw : Bool) (kn : Nat → Option Nat) (y0 y1 y2 y3 y4 y5 y6 : Nat → Int32) (hI : injA am 16)  (hWX : WFX X) (hkr : kOK X kr) : Met l yX4_wipe wsX4_wipe ({ frames := 0, cells := 0, slots := 0, locals := 0 } : Room) (va_Pc [.ref (am 0)] (ro_B D (tyL ci) (wN ci am X kr q0 q1 q2 q3 q4 q5 iw kn y0 y1 y2 y3 y4 y5 y6) (enT))) (mu_Q (aM am) (some (.int ((p_wipe X).1))) (fun H => ∃ (kr : Nat → Int32) (q0 : Int32) (q1 : Int32) (q2 : Int32) (q3 : Int32) (q4 : Int32) (q5 : Int32) (iw : Bool) (y0 : Nat → Int32) (y1 : Nat → Int32) (y2 : Nat → Int32) (y3 : Nat → Int32) (y4 : Nat → Int32) (y5 : Nat → Int32) (y6 : Nat → Int32), kOK (p_wipe X).2 kr ∧ va_P D vwCl (wN ci am ((p_wipe X).2) kr q0 q1 q2 q3 q4 q5 iw kn y0 y1 y2 y3 y4 y5 y6) H)) 0 0 (aM am) := by
  refine mu_Met (cc := cX4_wipe) (maxL := 2) (ret := (some .int)) [(0, .ref (am 0))] (wN_D hI) (by decide) rfl (Nat.le_of_ble_eq_true rfl) rfl ?_
  intro p e s m below meth c H locs hx hb hml hr hlocks hts hown hP hK hs0 hD hS ls hl
  have hown : s.vm.findClass RX4 = some m.cls := hown
  have hinX4 : ∀ w ∈ wsX40, w ∈ wsX4_wipe := by decide +kernel
  have hE := hE_T
  have hWF := hWX.w
  have f_n := hWF.n
  have f_e := hWX.e
  have f_tl := hWX.t
  refine lv_aload_n hx hb dX4_wipe_0 rfl (lv_at hl 0 rfl) ?_
  refine va_get (D := D) (ci := 4) (v := .int (nI (X.2.2.2.2.1))) (C := RX4) (T := TX4) (N := 24) hx hb hts hinX4 hown hK hP 0 rfl rfl 10 (by decide) (hts (.fieldLink RX4 246 "OneShortModel" "taped" "I") (List.mem_of_getElem? (i := 1) rfl)) (fun _ h9 => h9) rfl dX4_wipe_1 ?_
  refine lv_istore_n (lv' := [(1, .int (nI (X.2.2.2.2.1))), (0, .ref (am 0))]) hx hb dX4_wipe_4 rfl hl (by decide) rfl (fun ls hl => ?_)
  refine lv_aload_n hx hb dX4_wipe_5 rfl (lv_at hl 1 rfl) ?_
  refine lv_iconst (v := nI (0)) hx hb dX4_wipe_6 (by decide) ?_
  refine va_put (D := D) (ci := 4) (v := .int (nI 0)) (ty := .int) (C := RX4) (T := TX4) (N := 24) hx hb hts hinX4 tyX4 tyX4_ok nmX4 hown hK hP hD hS 0 rfl rfl 10 (by decide) (hts (.fieldLink RX4 246 "OneShortModel" "taped" "I") (List.mem_of_getElem? (i := 1) rfl)) (fun _ h9 => h9) rfl (by decide +kernel) rfl rfl (Nat.le_of_ble_eq_true rfl) dX4_wipe_7 (fun H locs hP hD hS => ?_)
  have hP : va_P D vwCl (wN ci am (toL X (0)) kr q0 q1 q2 q3 q4 q5 iw kn y0 y1 y2 y3 y4 y5 y6) H := va_P.re (wN_tl ci am X kr q0 q1 q2 q3 q4 q5 iw kn y0 y1 y2 y3 y4 y5 y6 (0)) hP
  have hD : va_D (aM am) (wN ci am (toL X (0)) kr q0 q1 q2 q3 q4 q5 iw kn y0 y1 y2 y3 y4 y5 y6) := wN_D hI
  refine lv_iload_n hx hb dX4_wipe_10 rfl (lv_at hl 0 rfl) ?_
  have hp : p_wipe X = (nI (X.2.2.2.2.1), toL X (0)) := rfl
  refine nv_cv (show nI (X.2.2.2.2.1) = (p_wipe X).1 from by rw [hp]) ?_
  exact mu_iret hx hb hr hlocks hS ((by rw [hp]; exact ⟨_, _, _, _, _, _, _, _, _, _, _, _, _, _, _, hkr, hP⟩)) dX4_wipe_11

set_option maxHeartbeats 4000000 in
set_option maxRecDepth 100000 in
/-- X4_tear -/
theorem c_X4_tear (l : Launch) (D : va_G) (ci : Nat → ClassId) (am : Nat → Nat) (X : AS) (kr : Nat → Int32) (q0 q1 q2 q3 q4 q5 : Int32) (iw : Bool) (kn : Nat → Option Nat) (y0 y1 y2 y3 y4 y5 y6 : Nat → Int32) (hI : injA am 16)  (hWX : WFX X) (hkr : kOK X kr) : Met l yX4_tear wsX4_tear ({ frames := 0, cells := 0, slots := 0, locals := 0 } : Room) (va_Pc [.ref (am 0)] (ro_B D (tyL ci) (wN ci am X kr q0 q1 q2 q3 q4 q5 iw kn y0 y1 y2 y3 y4 y5 y6) (enT))) (mu_Q (aM am) (some (.int ((p_tear X).1))) (fun H => ∃ (kr : Nat → Int32) (q0 : Int32) (q1 : Int32) (q2 : Int32) (q3 : Int32) (q4 : Int32) (q5 : Int32) (iw : Bool) (y0 : Nat → Int32) (y1 : Nat → Int32) (y2 : Nat → Int32) (y3 : Nat → Int32) (y4 : Nat → Int32) (y5 : Nat → Int32) (y6 : Nat → Int32), kOK (p_tear X).2 kr ∧ va_P D vwCl (wN ci am ((p_tear X).2) kr q0 q1 q2 q3 q4 q5 iw kn y0 y1 y2 y3 y4 y5 y6) H)) 0 0 (aM am) := by
  refine mu_Met (cc := cX4_tear) (maxL := 2) (ret := (some .int)) [(0, .ref (am 0))] (wN_D hI) (by decide) rfl (Nat.le_of_ble_eq_true rfl) rfl ?_
  intro p e s m below meth c H locs hx hb hml hr hlocks hts hown hP hK hs0 hD hS ls hl
  have hown : s.vm.findClass RX4 = some m.cls := hown
  have hinX4 : ∀ w ∈ wsX40, w ∈ wsX4_tear := by decide +kernel
  have hE := hE_T
  have hWF := hWX.w
  have f_n := hWF.n
  have f_e := hWX.e
  have f_tl := hWX.t
  refine lv_aload_n hx hb dX4_tear_0 rfl (lv_at hl 0 rfl) ?_
  refine va_get (D := D) (ci := 4) (v := .int (bI (X.2.2.1))) (C := RX4) (T := TX4) (N := 24) hx hb hts hinX4 hown hK hP 0 rfl rfl 3 (by decide) (hts (.fieldLink RX4 337 "OneShortModel" "isKept" "Z") (List.mem_of_getElem? (i := 1) rfl)) (fun _ h9 => h9) rfl dX4_tear_1 ?_
  refine nv_ifeq_b (tgt := 11) hx hb dX4_tear_4 (by decide) (fun c1 => ?_) (fun c1 => ?_)
  · refine lv_iconst (v := nI (0)) hx hb dX4_tear_11 (by decide) ?_
    refine lv_istore_n (lv' := [(1, .int (nI 0)), (0, .ref (am 0))]) hx hb dX4_tear_12 rfl hl (by decide) rfl (fun ls hl => ?_)
    refine lv_aload_n hx hb dX4_tear_13 rfl (lv_at hl 1 rfl) ?_
    refine lv_iconst (v := nI (0)) hx hb dX4_tear_14 (by decide) ?_
    refine nv_cv (show nI (0) = bI (false) from by rfl) ?_
    refine va_put (D := D) (ci := 4) (v := .int (bI (false))) (ty := .boolean) (C := RX4) (T := TX4) (N := 24) hx hb hts hinX4 tyX4 tyX4_ok nmX4 hown hK hP hD hS 0 rfl rfl 3 (by decide) (hts (.fieldLink RX4 337 "OneShortModel" "isKept" "Z") (List.mem_of_getElem? (i := 1) rfl)) (fun _ h9 => h9) rfl (by decide +kernel) (bI_nar _) (bI_fit _) (Nat.le_of_ble_eq_true rfl) dX4_tear_15 (fun H locs hP hD hS => ?_)
    have hP : va_P D vwCl (wN ci am (toK X X.2.1 false) kr q0 q1 q2 q3 q4 q5 iw kn y0 y1 y2 y3 y4 y5 y6) H := va_P.re (wN_kp ci am X kr q0 q1 q2 q3 q4 q5 iw kn y0 y1 y2 y3 y4 y5 y6 false) hP
    have hD : va_D (aM am) (wN ci am (toK X X.2.1 false) kr q0 q1 q2 q3 q4 q5 iw kn y0 y1 y2 y3 y4 y5 y6) := wN_D hI
    refine lv_iload_n hx hb dX4_tear_18 rfl (lv_at hl 0 rfl) ?_
    have hp : p_tear X = (nI (0), toK X X.2.1 false) := by simp [p_tear, c1]
    refine nv_cv (show nI (0) = (p_tear X).1 from by rw [hp]) ?_
    exact mu_iret hx hb hr hlocks hS ((by rw [hp]; exact ⟨_, _, _, _, _, _, _, _, _, _, _, _, _, _, _, (fun h => by cases h), hP⟩)) dX4_tear_19
  · refine lv_iconst (v := nI (1)) hx hb dX4_tear_7 (by decide) ?_
    refine lv_goto (tgt := 12) hx hb dX4_tear_8 (by decide) ?_
    refine lv_istore_n (lv' := [(1, .int (nI 1)), (0, .ref (am 0))]) hx hb dX4_tear_12 rfl hl (by decide) rfl (fun ls hl => ?_)
    refine lv_aload_n hx hb dX4_tear_13 rfl (lv_at hl 1 rfl) ?_
    refine lv_iconst (v := nI (0)) hx hb dX4_tear_14 (by decide) ?_
    refine nv_cv (show nI (0) = bI (false) from by rfl) ?_
    refine va_put (D := D) (ci := 4) (v := .int (bI (false))) (ty := .boolean) (C := RX4) (T := TX4) (N := 24) hx hb hts hinX4 tyX4 tyX4_ok nmX4 hown hK hP hD hS 0 rfl rfl 3 (by decide) (hts (.fieldLink RX4 337 "OneShortModel" "isKept" "Z") (List.mem_of_getElem? (i := 1) rfl)) (fun _ h9 => h9) rfl (by decide +kernel) (bI_nar _) (bI_fit _) (Nat.le_of_ble_eq_true rfl) dX4_tear_15 (fun H locs hP hD hS => ?_)
    have hP : va_P D vwCl (wN ci am (toK X X.2.1 false) kr q0 q1 q2 q3 q4 q5 iw kn y0 y1 y2 y3 y4 y5 y6) H := va_P.re (wN_kp ci am X kr q0 q1 q2 q3 q4 q5 iw kn y0 y1 y2 y3 y4 y5 y6 false) hP
    have hD : va_D (aM am) (wN ci am (toK X X.2.1 false) kr q0 q1 q2 q3 q4 q5 iw kn y0 y1 y2 y3 y4 y5 y6) := wN_D hI
    refine lv_iload_n hx hb dX4_tear_18 rfl (lv_at hl 0 rfl) ?_
    have hp : p_tear X = (nI (1), toK X X.2.1 false) := by simp [p_tear, c1]
    refine nv_cv (show nI (1) = (p_tear X).1 from by rw [hp]) ?_
    exact mu_iret hx hb hr hlocks hS ((by rw [hp]; exact ⟨_, _, _, _, _, _, _, _, _, _, _, _, _, _, _, (fun h => by cases h), hP⟩)) dX4_tear_19

set_option maxHeartbeats 4000000 in
set_option maxRecDepth 100000 in
/-- X4_image -/
theorem c_X4_image (l : Launch) (D : va_G) (ci : Nat → ClassId) (am : Nat → Nat) (X : AS) (kr : Nat → Int32) (q0 q1 q2 q3 q4 q5 : Int32) (iw : Bool) (kn : Nat → Option Nat) (y0 y1 y2 y3 y4 y5 y6 : Nat → Int32) (hI : injA am 16)  (hWX : WFX X) (hkr : kOK X kr) : Met l yX4_image wsX4_image ({ frames := 1, cells := 0, slots := 0, locals := 22 } : Room) (va_Pc [.ref (am 0)] (ro_B D (tyL ci) (wN ci am X kr q0 q1 q2 q3 q4 q5 iw kn y0 y1 y2 y3 y4 y5 y6) (enT))) (mu_Q (aM am) (some (.int ((p_image X).1))) (fun H => ∃ (kr : Nat → Int32) (q0 : Int32) (q1 : Int32) (q2 : Int32) (q3 : Int32) (q4 : Int32) (q5 : Int32) (iw : Bool) (y0 : Nat → Int32) (y1 : Nat → Int32) (y2 : Nat → Int32) (y3 : Nat → Int32) (y4 : Nat → Int32) (y5 : Nat → Int32) (y6 : Nat → Int32), kOK (p_image X).2 kr ∧ va_P D vwCl (wN ci am ((p_image X).2) kr q0 q1 q2 q3 q4 q5 iw kn y0 y1 y2 y3 y4 y5 y6) H)) 0 0 (aM am) := by
  refine mu_Met (cc := cX4_image) (maxL := 1) (ret := (some .int)) [(0, .ref (am 0))] (wN_D hI) (by decide) rfl (Nat.le_of_ble_eq_true rfl) rfl ?_
  intro p e s m below meth c H locs hx hb hml hr hlocks hts hown hP hK hs0 hD hS ls hl
  have hown : s.vm.findClass RX4 = some m.cls := hown
  have hinX4 : ∀ w ∈ wsX40, w ∈ wsX4_image := by decide +kernel
  have hE := hE_T
  have hWF := hWX.w
  have f_n := hWF.n
  have f_e := hWX.e
  have f_tl := hWX.t
  refine lv_aload_n hx hb dX4_image_0 rfl (lv_at hl 0 rfl) ?_
  refine va_get (D := D) (ci := 4) (v := .ref (am 1)) (C := RX4) (T := TX4) (N := 24) hx hb hts hinX4 hown hK hP 0 rfl rfl 0 (by decide) (hts (.fieldLink RX4 9 "OneShortModel" "now" "[I") (List.mem_of_getElem? (i := 1) rfl)) (fun _ h9 => h9) rfl dX4_image_1 ?_
  refine lv_aload_n hx hb dX4_image_4 rfl (lv_at hl 0 rfl) ?_
  refine va_get (D := D) (ci := 4) (v := .ref (am 2)) (C := RX4) (T := TX4) (N := 24) hx hb hts hinX4 hown hK hP 0 rfl rfl 1 (by decide) (hts (.fieldLink RX4 13 "OneShortModel" "kept" "[I") (List.mem_of_getElem? (i := 2) rfl)) (fun _ h9 => h9) rfl dX4_image_5 ?_
  refine mu_S (n := 2) (As := [.ref (am 1), .ref (am 2)]) (rest := []) ⟨hx, hb, hml, hown, hts⟩ (c_X4_copyRow l D ci (am 1) (am 2) (pk X.1) (kr) (am_ne hI (by decide) (by decide) (by decide))) gX4_image_X4_copyRow rfl ⟨rfl, rfl⟩ (by decide +kernel) rfl ⟨Nat.le_of_ble_eq_true rfl, Nat.le_of_ble_eq_true rfl⟩ hE trivial hK (va_P2 (k := 1) (k2 := 2) hP rfl rfl) hl.1 rfl (Nat.le_of_ble_eq_true rfl) dX4_image_8 ⟨Nat.zero_le _, Nat.zero_le _⟩ hS (fun q h => h.elim (aM_m (k := 1) (by decide) q) (aM_m (k := 2) (by decide) q)) (fun H1 locs hz hfr hB hS => ?_)
  have hP : va_P D vwCl (wN ci am X (pk X.1) q0 q1 q2 q3 q4 q5 iw kn y0 y1 y2 y3 y4 y5 y6) H1 := wN_c12 hI hP hfr hB
  generalize H1 = H at hP hS ⊢
  have hD : va_D (aM am) (wN ci am X (pk X.1) q0 q1 q2 q3 q4 q5 iw kn y0 y1 y2 y3 y4 y5 y6) := wN_D hI
  refine lv_aload_n hx hb dX4_image_11 rfl (lv_at hl 0 rfl) ?_
  refine lv_iconst (v := nI (1)) hx hb dX4_image_12 (by decide) ?_
  refine nv_cv (show nI (1) = bI (true) from by rfl) ?_
  refine va_put (D := D) (ci := 4) (v := .int (bI (true))) (ty := .boolean) (C := RX4) (T := TX4) (N := 24) hx hb hts hinX4 tyX4 tyX4_ok nmX4 hown hK hP hD hS 0 rfl rfl 3 (by decide) (hts (.fieldLink RX4 337 "OneShortModel" "isKept" "Z") (List.mem_of_getElem? (i := 3) rfl)) (fun _ h9 => h9) rfl (by decide +kernel) (bI_nar _) (bI_fit _) (Nat.le_of_ble_eq_true rfl) dX4_image_13 (fun H locs hP hD hS => ?_)
  have hP : va_P D vwCl (wN ci am (toK X X.1 true) (pk X.1) q0 q1 q2 q3 q4 q5 iw kn y0 y1 y2 y3 y4 y5 y6) H := va_P.re (wN_kp ci am X (pk X.1) q0 q1 q2 q3 q4 q5 iw kn y0 y1 y2 y3 y4 y5 y6 true) hP
  have hD : va_D (aM am) (wN ci am (toK X X.1 true) (pk X.1) q0 q1 q2 q3 q4 q5 iw kn y0 y1 y2 y3 y4 y5 y6) := wN_D hI
  refine lv_iconst (v := nI (1)) hx hb dX4_image_16 (by decide) ?_
  have hp : p_image X = (nI (1), toK X X.1 true) := rfl
  refine nv_cv (show nI (1) = (p_image X).1 from by rw [hp]) ?_
  exact mu_iret hx hb hr hlocks hS ((by rw [hp]; exact ⟨_, _, _, _, _, _, _, _, _, _, _, _, _, _, _, (fun _ _ _ => rfl), hP⟩)) dX4_image_17

set_option maxHeartbeats 4000000 in
set_option maxRecDepth 100000 in
/-- X4_undo -/
theorem c_X4_undo (l : Launch) (D : va_G) (ci : Nat → ClassId) (am : Nat → Nat) (X : AS) (kr : Nat → Int32) (q0 q1 q2 q3 q4 q5 : Int32) (iw : Bool) (kn : Nat → Option Nat) (y0 y1 y2 y3 y4 y5 y6 : Nat → Int32) (hI : injA am 16)  (hWX : WFX X) (hkr : kOK X kr) : Met l yX4_undo wsX4_undo ({ frames := 1, cells := 0, slots := 0, locals := 22 } : Room) (va_Pc [.ref (am 0)] (ro_B D (tyL ci) (wN ci am X kr q0 q1 q2 q3 q4 q5 iw kn y0 y1 y2 y3 y4 y5 y6) (enT))) (mu_Q (aM am) (some (.int ((p_undo X).1))) (fun H => ∃ (kr : Nat → Int32) (q0 : Int32) (q1 : Int32) (q2 : Int32) (q3 : Int32) (q4 : Int32) (q5 : Int32) (iw : Bool) (y0 : Nat → Int32) (y1 : Nat → Int32) (y2 : Nat → Int32) (y3 : Nat → Int32) (y4 : Nat → Int32) (y5 : Nat → Int32) (y6 : Nat → Int32), kOK (p_undo X).2 kr ∧ va_P D vwCl (wN ci am ((p_undo X).2) kr q0 q1 q2 q3 q4 q5 iw kn y0 y1 y2 y3 y4 y5 y6) H)) 0 0 (aM am) := by
  refine mu_Met (cc := cX4_undo) (maxL := 1) (ret := (some .int)) [(0, .ref (am 0))] (wN_D hI) (by decide) rfl (Nat.le_of_ble_eq_true rfl) rfl ?_
  intro p e s m below meth c H locs hx hb hml hr hlocks hts hown hP hK hs0 hD hS ls hl
  have hown : s.vm.findClass RX4 = some m.cls := hown
  have hinX4 : ∀ w ∈ wsX40, w ∈ wsX4_undo := by decide +kernel
  have hE := hE_T
  have hWF := hWX.w
  have f_n := hWF.n
  have f_e := hWX.e
  have f_tl := hWX.t
  refine lv_aload_n hx hb dX4_undo_0 rfl (lv_at hl 0 rfl) ?_
  refine va_get (D := D) (ci := 4) (v := .int (bI (X.2.2.1))) (C := RX4) (T := TX4) (N := 24) hx hb hts hinX4 hown hK hP 0 rfl rfl 3 (by decide) (hts (.fieldLink RX4 337 "OneShortModel" "isKept" "Z") (List.mem_of_getElem? (i := 1) rfl)) (fun _ h9 => h9) rfl dX4_undo_1 ?_
  refine nv_ifne_b (tgt := 14) hx hb dX4_undo_4 (by decide) (fun c1 => ?_) (fun c1 => ?_)
  · refine lv_aload_n hx hb dX4_undo_14 rfl (lv_at hl 0 rfl) ?_
    refine va_get (D := D) (ci := 4) (v := .ref (am 2)) (C := RX4) (T := TX4) (N := 24) hx hb hts hinX4 hown hK hP 0 rfl rfl 1 (by decide) (hts (.fieldLink RX4 13 "OneShortModel" "kept" "[I") (List.mem_of_getElem? (i := 3) rfl)) (fun _ h9 => h9) rfl dX4_undo_15 ?_
    refine lv_aload_n hx hb dX4_undo_18 rfl (lv_at hl 0 rfl) ?_
    refine va_get (D := D) (ci := 4) (v := .ref (am 1)) (C := RX4) (T := TX4) (N := 24) hx hb hts hinX4 hown hK hP 0 rfl rfl 0 (by decide) (hts (.fieldLink RX4 9 "OneShortModel" "now" "[I") (List.mem_of_getElem? (i := 4) rfl)) (fun _ h9 => h9) rfl dX4_undo_19 ?_
    refine mu_S (n := 2) (As := [.ref (am 2), .ref (am 1)]) (rest := []) ⟨hx, hb, hml, hown, hts⟩ (c_X4_copyRow l D ci (am 2) (am 1) (kr) (pk X.1) (am_ne hI (by decide) (by decide) (by decide))) gX4_undo_X4_copyRow rfl ⟨rfl, rfl⟩ (by decide +kernel) rfl ⟨Nat.le_of_ble_eq_true rfl, Nat.le_of_ble_eq_true rfl⟩ hE trivial hK (va_P2 (k := 2) (k2 := 1) hP rfl rfl) hl.1 rfl (Nat.le_of_ble_eq_true rfl) dX4_undo_22 ⟨Nat.zero_le _, Nat.zero_le _⟩ hS (fun q h => h.elim (aM_m (k := 2) (by decide) q) (aM_m (k := 1) (by decide) q)) (fun H1 locs hz hfr hB hS => ?_)
    have hP : va_P D vwCl (wN ci am (toS X X.2.1) kr q0 q1 q2 q3 q4 q5 iw kn y0 y1 y2 y3 y4 y5 y6) H1 := wN_c21 (X := X) (S0 := X.2.1) (hkr c1) hI hP hfr hB
    generalize H1 = H at hP hS ⊢
    have hD : va_D (aM am) (wN ci am (toS X X.2.1) kr q0 q1 q2 q3 q4 q5 iw kn y0 y1 y2 y3 y4 y5 y6) := wN_D hI
    refine lv_aload_n hx hb dX4_undo_25 rfl (lv_at hl 0 rfl) ?_
    refine va_get (D := D) (ci := 4) (v := .ref (am 1)) (C := RX4) (T := TX4) (N := 24) hx hb hts hinX4 hown hK hP 0 rfl rfl 0 (by decide) (hts (.fieldLink RX4 9 "OneShortModel" "now" "[I") (List.mem_of_getElem? (i := 4) rfl)) (fun _ h9 => h9) rfl dX4_undo_26 ?_
    refine lv_iconst (v := nI (0)) hx hb dX4_undo_29 (by decide) ?_
    refine nv_iald (v := nI (X.2.1 8 0)) hx hb hK hP 1 0 rfl rfl (by omega) (by decide) (pk_ev X.2.1) dX4_undo_30 ?_
    have hp : p_undo X = (nI (X.2.1 8 0), toS X X.2.1) := by first | (simp [p_undo, bk, fl_eq, inP, c1]; done) | (simp [p_undo, bk, fl_eq, inP, c1] <;> omega)
    refine nv_cv (show nI (X.2.1 8 0) = (p_undo X).1 from by rw [hp]) ?_
    exact mu_iret hx hb hr hlocks hS ((by rw [hp]; exact ⟨_, _, _, _, _, _, _, _, _, _, _, _, _, _, _, hkr, hP⟩)) dX4_undo_31
  · refine lv_aload_n hx hb dX4_undo_7 rfl (lv_at hl 0 rfl) ?_
    refine lv_ldc (v := -1000004) hx hb hown (hts (.constant RX4 77 (-1000004)) (List.mem_of_getElem? (i := 2) rfl)) dX4_undo_8 ?_
    refine mu_V (n := 1) (As := [.int (-1000004)]) (rest := []) ⟨hx, hb, hml, hown, hts⟩ (c_X4_finding l D ci am X kr q0 q1 q2 q3 q4 q5 iw kn y0 y1 y2 y3 y4 y5 y6 hI (-1000004) (3) (by omega) (by decide)) gX4_undo_X4_finding rfl ⟨rfl, rfl⟩ (by decide +kernel) rfl ⟨Nat.le_of_ble_eq_true rfl, Nat.le_of_ble_eq_true rfl⟩ hE trivial hK hP (ci := 4) (q0 := 0) rfl rfl hl.1 rfl (Nat.le_of_ble_eq_true rfl) dX4_undo_10 ⟨Nat.zero_le _, Nat.zero_le _⟩ hS (fun _ h => h) (fun H1 locs hz hfr hB hS => ?_)
    have hP := hB
    have hP : va_P D vwCl (wN ci am (toF X (inc X.2.2.2.1 3)) kr q0 q1 q2 q3 q4 q5 iw kn y0 y1 y2 y3 y4 y5 y6) H1 := hP
    generalize H1 = H at hP hS ⊢
    have hD : va_D (aM am) (wN ci am (toF X (inc X.2.2.2.1 3)) kr q0 q1 q2 q3 q4 q5 iw kn y0 y1 y2 y3 y4 y5 y6) := wN_D hI
    have hp : p_undo X = (fnd 3, toF X (inc X.2.2.2.1 3)) := by first | (simp [p_undo, bk, fl_eq, inP, c1]; done) | (simp [p_undo, bk, fl_eq, inP, c1] <;> omega)
    refine nv_cv (show fnd 3 = (p_undo X).1 from by rw [hp]) ?_
    exact mu_iret hx hb hr hlocks hS ((by rw [hp]; exact ⟨_, _, _, _, _, _, _, _, _, _, _, _, _, _, _, hkr, hP⟩)) dX4_undo_13

set_option maxHeartbeats 4000000 in
set_option maxRecDepth 100000 in
/-- X4_linksNow -/
theorem c_X4_linksNow (l : Launch) (D : va_G) (ci : Nat → ClassId) (am : Nat → Nat) (X : AS) (kr : Nat → Int32) (q0 q1 q2 q3 q4 q5 : Int32) (iw : Bool) (kn : Nat → Option Nat) (y0 y1 y2 y3 y4 y5 y6 : Nat → Int32)  (hWF : WF X.1) : Met l yX4_linksNow wsX4_linksNow ({ frames := 7, cells := 0, slots := 0, locals := 162 } : Room) (va_Pc [.ref (am 0)] (ro_B D (tyL ci) (wN ci am X kr q0 q1 q2 q3 q4 q5 iw kn y0 y1 y2 y3 y4 y5 y6) (enT))) (ro_Q (some (.int (nI (links X.1))))) 0 0 (fun _ => False) := by
  refine ro_Met (cc := cX4_linksNow) (maxL := 4) (ret := (some .int)) [(0, .ref (am 0))] (by decide) rfl (Nat.le_of_ble_eq_true rfl) rfl ?_
  intro p e s m below meth c hx hb hml hr hlocks hts hown hP hK hs ls hl
  have hown : s.vm.findClass RX4 = some m.cls := hown
  have hinX4 : ∀ w ∈ wsX40, w ∈ wsX4_linksNow := by decide +kernel
  have hE := hE_T
  have f_n := hWF.n
  refine lv_iconst (v := nI (0)) hx hb dX4_linksNow_0 (by decide) ?_
  refine lv_istore_n (lv' := [(1, .int (nI 0)), (0, .ref (am 0))]) hx hb dX4_linksNow_1 rfl hl (by decide) rfl (fun ls hl => ?_)
  refine lv_iconst (v := nI (0)) hx hb dX4_linksNow_2 (by decide) ?_
  refine lv_istore_n (lv' := [(2, .int (nI 0)), (1, .int (nI 0)), (0, .ref (am 0))]) hx hb dX4_linksNow_3 rfl hl (by decide) rfl (fun ls hl => ?_)
  have L4 : ∀ (k4 : Nat) (i : Nat), X.1 7 0 - i < k4 → (i ≤ X.1 7 0) → ∀ (x1 : Int32), ∀ (x2 : Int32), x1 = nI (sumTo (fun q => cntTo (fun o => lkP X.1 q o) (X.1 7 0)) (i)) → x2 = nI (i) → ∀ ls : Array Slot, lv_has ls 4 [(1, .int (x1)), (2, .int (x2)), (0, .ref (am 0))] → W p l e (headSpec wsX4_linksNow ({ frames := 7, cells := 0, slots := 0, locals := 162 } : Room)).room s m ([.ref (am 0)] : List Value).toArray below meth c s.heap [] 0 0 (MQ below (ro_Q (some (.int (nI (links X.1))))) ([.ref (am 0)] : List Value).toArray s 0 0 (fun _ => False)) (F0 m 4 ls []) := by
    intro k4
    induction k4 with
    | zero => intro i h0; exact absurd h0 (Nat.not_lt_zero _)
    | succ k4 ih4 =>
      intro i hk4 h_i x1 x2 e1 e2 ls hl
      subst e1
      subst e2
      have f_s := sumTo_le (f := fun q => cntTo (fun o => lkP X.1 q o) (X.1 7 0)) (b := 8) i (fun j _ => Nat.le_trans (cntTo_le _ _) f_n)
      refine lv_iload_n hx hb dX4_linksNow_4 rfl (lv_at hl 1 rfl) ?_
      refine lv_aload_n hx hb dX4_linksNow_5 rfl (lv_at hl 2 rfl) ?_
      refine va_get (D := D) (ci := 4) (v := .ref (am 1)) (C := RX4) (T := TX4) (N := 24) hx hb hts hinX4 hown hK hP 0 rfl rfl 0 (by decide) (hts (.fieldLink RX4 9 "OneShortModel" "now" "[I") (List.mem_of_getElem? (i := 1) rfl)) (fun _ h9 => h9) rfl dX4_linksNow_6 ?_
      refine lv_iconst (v := nI (1)) hx hb dX4_linksNow_9 (by decide) ?_
      refine nv_iald (v := nI (X.1 7 0)) hx hb hK hP 1 0 rfl rfl (by omega) (by decide) (pk_n X.1) dX4_linksNow_10 ?_
      refine nv_icmp_ge (tgt := 60) hx hb (by omega) (by omega) dX4_linksNow_11 (by decide) (fun c1 => ?_) (fun c1 => ?_)
      · refine lv_iload_n hx hb dX4_linksNow_60 rfl (lv_at hl 0 rfl) ?_
        refine nv_cv (show nI (sumTo (fun q => cntTo (fun o => lkP X.1 q o) (X.1 7 0)) (i)) = nI (links X.1) from nv_e (by rw [show i = X.1 7 0 by omega, links_M])) ?_
        exact ro_iret hx hb hr hlocks dX4_linksNow_61
      · refine lv_iconst (v := nI (0)) hx hb dX4_linksNow_14 (by decide) ?_
        refine lv_istore_n (lv' := [(3, .int (nI 0)), (1, .int (nI (sumTo (fun q => cntTo (fun o => lkP X.1 q o) (X.1 7 0)) (i)))), (2, .int (nI i)), (0, .ref (am 0))]) hx hb dX4_linksNow_15 rfl hl (by decide) rfl (fun ls hl => ?_)
        have L16 : ∀ (k16 : Nat) (j : Nat), X.1 7 0 - j < k16 → (j ≤ X.1 7 0) → ∀ (x1 : Int32), ∀ (x3 : Int32), x1 = nI ((sumTo (fun q => cntTo (fun o => lkP X.1 q o) (X.1 7 0)) (i) + cntTo (fun o => lkP X.1 i o) (j))) → x3 = nI (j) → ∀ ls : Array Slot, lv_has ls 4 [(1, .int (x1)), (3, .int (x3)), (2, .int (nI i)), (0, .ref (am 0))] → W p l e (headSpec wsX4_linksNow ({ frames := 7, cells := 0, slots := 0, locals := 162 } : Room)).room s m ([.ref (am 0)] : List Value).toArray below meth c s.heap [] 0 0 (MQ below (ro_Q (some (.int (nI (links X.1))))) ([.ref (am 0)] : List Value).toArray s 0 0 (fun _ => False)) (F0 m 16 ls []) := by
          intro k16
          induction k16 with
          | zero => intro j h0; exact absurd h0 (Nat.not_lt_zero _)
          | succ k16 ih16 =>
            intro j hk16 h_j x1 x3 e1 e3 ls hl
            subst e1
            subst e3
            refine lv_iload_n hx hb dX4_linksNow_16 rfl (lv_at hl 1 rfl) ?_
            refine lv_aload_n hx hb dX4_linksNow_17 rfl (lv_at hl 3 rfl) ?_
            refine va_get (D := D) (ci := 4) (v := .ref (am 1)) (C := RX4) (T := TX4) (N := 24) hx hb hts hinX4 hown hK hP 0 rfl rfl 0 (by decide) (hts (.fieldLink RX4 9 "OneShortModel" "now" "[I") (List.mem_of_getElem? (i := 1) rfl)) (fun _ h9 => h9) rfl dX4_linksNow_18 ?_
            refine lv_iconst (v := nI (1)) hx hb dX4_linksNow_21 (by decide) ?_
            refine nv_iald (v := nI (X.1 7 0)) hx hb hK hP 1 0 rfl rfl (by omega) (by decide) (pk_n X.1) dX4_linksNow_22 ?_
            refine nv_icmp_ge (tgt := 54) hx hb (by omega) (by omega) dX4_linksNow_23 (by decide) (fun c2 => ?_) (fun c2 => ?_)
            · refine nv_iinc1 (lv' := [(2, .int (nI (i + 1))), (1, .int (nI ((sumTo (fun q => cntTo (fun o => lkP X.1 q o) (X.1 7 0)) (i) + cntTo (fun o => lkP X.1 i o) (j))))), (3, .int (nI j)), (0, .ref (am 0))]) hx hb dX4_linksNow_54 hl (k := 2) rfl (by decide) rfl (fun ls hl => ?_)
              refine lv_goto (tgt := 4) hx hb dX4_linksNow_57 (by decide) ?_
              exact ih4 (i + 1) (by omega) (by omega) (nI ((sumTo (fun q => cntTo (fun o => lkP X.1 q o) (X.1 7 0)) (i) + cntTo (fun o => lkP X.1 i o) (j)))) (nI (i + 1)) (nv_e (by rw [show j = X.1 7 0 by omega]; rfl)) rfl ls (lv_sub hl [1, 0, 3] rfl)
            · refine lv_iload_n hx hb dX4_linksNow_26 rfl (lv_at hl 0 rfl) ?_
              refine lv_iload_n hx hb dX4_linksNow_27 rfl (lv_at hl 2 rfl) ?_
              refine lv_iload_n hx hb dX4_linksNow_28 rfl (lv_at hl 1 rfl) ?_
              refine nv_icmp_eq (tgt := 45) hx hb (by omega) (by omega) dX4_linksNow_29 (by decide) (fun c3 => ?_) (fun c3 => ?_)
              · refine lv_iconst (v := nI (0)) hx hb dX4_linksNow_45 (by decide) ?_
                refine nv_iadd hx hb dX4_linksNow_46 ?_
                refine lv_istore_n (lv' := [(1, .int (nI (((sumTo (fun q => cntTo (fun o => lkP X.1 q o) (X.1 7 0)) (i) + cntTo (fun o => lkP X.1 i o) (j)) + 0)))), (3, .int (nI j)), (2, .int (nI i)), (0, .ref (am 0))]) hx hb dX4_linksNow_47 rfl hl (by decide) rfl (fun ls hl => ?_)
                refine nv_iinc1 (lv' := [(3, .int (nI (j + 1))), (1, .int (nI (((sumTo (fun q => cntTo (fun o => lkP X.1 q o) (X.1 7 0)) (i) + cntTo (fun o => lkP X.1 i o) (j)) + 0)))), (2, .int (nI i)), (0, .ref (am 0))]) hx hb dX4_linksNow_48 hl (k := 1) rfl (by decide) rfl (fun ls hl => ?_)
                refine lv_goto (tgt := 16) hx hb dX4_linksNow_51 (by decide) ?_
                exact ih16 (j + 1) (by omega) (by omega) (nI (((sumTo (fun q => cntTo (fun o => lkP X.1 q o) (X.1 7 0)) (i) + cntTo (fun o => lkP X.1 i o) (j)) + 0))) (nI (j + 1)) (nv_e (by first | exact acc_t (by simp [lkP, c1, c2, c3]) | exact acc_f (by simp [lkP, c1, c2, c3]))) rfl ls (lv_sub hl [1, 0, 2, 3] rfl)
              · refine lv_aload_n hx hb dX4_linksNow_32 rfl (lv_at hl 3 rfl) ?_
                refine lv_iload_n hx hb dX4_linksNow_33 rfl (lv_at hl 2 rfl) ?_
                refine lv_iload_n hx hb dX4_linksNow_34 rfl (lv_at hl 1 rfl) ?_
                refine ro_V (n := 2) (As := [.int (nI i), .int (nI j)]) (rest := [.int (nI ((sumTo (fun q => cntTo (fun o => lkP X.1 q o) (X.1 7 0)) (i) + cntTo (fun o => lkP X.1 i o) (j))))]) ⟨hx, hb, hml, hown, hts⟩ (c_X4_hearsIn l D ci am X kr q0 q1 q2 q3 q4 q5 iw kn y0 y1 y2 y3 y4 y5 y6 (i) (j) hWF (by omega) (by omega) (by omega)) gX4_linksNow_X4_hearsIn rfl ⟨rfl, rfl⟩ (by decide +kernel) rfl ⟨Nat.le_of_ble_eq_true rfl, Nat.le_of_ble_eq_true rfl⟩ hE hs hK hP (ci := 4) (q0 := 0) rfl rfl hl.1 rfl (Nat.le_of_ble_eq_true rfl) dX4_linksNow_35 ⟨Nat.zero_le _, Nat.zero_le _⟩ ?_
                have f4 := bHear_lt X.1 (i) (j)
                refine nv_ifeq (tgt := 45) hx hb (by omega) dX4_linksNow_38 (by decide) (fun c5 => ?_) (fun c5 => ?_)
                · refine lv_iconst (v := nI (0)) hx hb dX4_linksNow_45 (by decide) ?_
                  refine nv_iadd hx hb dX4_linksNow_46 ?_
                  refine lv_istore_n (lv' := [(1, .int (nI (((sumTo (fun q => cntTo (fun o => lkP X.1 q o) (X.1 7 0)) (i) + cntTo (fun o => lkP X.1 i o) (j)) + 0)))), (3, .int (nI j)), (2, .int (nI i)), (0, .ref (am 0))]) hx hb dX4_linksNow_47 rfl hl (by decide) rfl (fun ls hl => ?_)
                  refine nv_iinc1 (lv' := [(3, .int (nI (j + 1))), (1, .int (nI (((sumTo (fun q => cntTo (fun o => lkP X.1 q o) (X.1 7 0)) (i) + cntTo (fun o => lkP X.1 i o) (j)) + 0)))), (2, .int (nI i)), (0, .ref (am 0))]) hx hb dX4_linksNow_48 hl (k := 1) rfl (by decide) rfl (fun ls hl => ?_)
                  refine lv_goto (tgt := 16) hx hb dX4_linksNow_51 (by decide) ?_
                  exact ih16 (j + 1) (by omega) (by omega) (nI (((sumTo (fun q => cntTo (fun o => lkP X.1 q o) (X.1 7 0)) (i) + cntTo (fun o => lkP X.1 i o) (j)) + 0))) (nI (j + 1)) (nv_e (by first | exact acc_t (by simp [lkP, c1, c2, c3, c5]) | exact acc_f (by simp [lkP, c1, c2, c3, c5]))) rfl ls (lv_sub hl [1, 0, 2, 3] rfl)
                · refine lv_iconst (v := nI (1)) hx hb dX4_linksNow_41 (by decide) ?_
                  refine lv_goto (tgt := 46) hx hb dX4_linksNow_42 (by decide) ?_
                  refine nv_iadd hx hb dX4_linksNow_46 ?_
                  refine lv_istore_n (lv' := [(1, .int (nI (((sumTo (fun q => cntTo (fun o => lkP X.1 q o) (X.1 7 0)) (i) + cntTo (fun o => lkP X.1 i o) (j)) + 1)))), (3, .int (nI j)), (2, .int (nI i)), (0, .ref (am 0))]) hx hb dX4_linksNow_47 rfl hl (by decide) rfl (fun ls hl => ?_)
                  refine nv_iinc1 (lv' := [(3, .int (nI (j + 1))), (1, .int (nI (((sumTo (fun q => cntTo (fun o => lkP X.1 q o) (X.1 7 0)) (i) + cntTo (fun o => lkP X.1 i o) (j)) + 1)))), (2, .int (nI i)), (0, .ref (am 0))]) hx hb dX4_linksNow_48 hl (k := 1) rfl (by decide) rfl (fun ls hl => ?_)
                  refine lv_goto (tgt := 16) hx hb dX4_linksNow_51 (by decide) ?_
                  exact ih16 (j + 1) (by omega) (by omega) (nI (((sumTo (fun q => cntTo (fun o => lkP X.1 q o) (X.1 7 0)) (i) + cntTo (fun o => lkP X.1 i o) (j)) + 1))) (nI (j + 1)) (nv_e (by first | exact acc_t (by simp [lkP, c1, c2, c3, c5]) | exact acc_f (by simp [lkP, c1, c2, c3, c5]))) rfl ls (lv_sub hl [1, 0, 2, 3] rfl)
        exact L16 _ (0) (Nat.lt_succ_self _) (by omega) (nI (sumTo (fun q => cntTo (fun o => lkP X.1 q o) (X.1 7 0)) (i))) (nI (0)) rfl rfl ls (lv_sub hl [1, 0, 2, 3] rfl)
  exact L4 _ (0) (Nat.lt_succ_self _) (by omega) (nI (0)) (nI (0)) rfl rfl ls (lv_sub hl [1, 0, 2] rfl)

set_option maxHeartbeats 4000000 in
set_option maxRecDepth 100000 in
/-- X4_links -/
theorem c_X4_links (l : Launch) (D : va_G) (ci : Nat → ClassId) (am : Nat → Nat) (X : AS) (kr : Nat → Int32) (q0 q1 q2 q3 q4 q5 : Int32) (iw : Bool) (kn : Nat → Option Nat) (y0 y1 y2 y3 y4 y5 y6 : Nat → Int32) (hI : injA am 16)  (hWX : WFX X) (hkr : kOK X kr) : Met l yX4_links wsX4_links ({ frames := 8, cells := 0, slots := 0, locals := 185 } : Room) (va_Pc [.ref (am 0)] (ro_B D (tyL ci) (wN ci am X kr q0 q1 q2 q3 q4 q5 iw kn y0 y1 y2 y3 y4 y5 y6) (enT))) (mu_Q (aM am) (some (.int ((p_links X).1))) (fun H => ∃ (kr : Nat → Int32) (q0 : Int32) (q1 : Int32) (q2 : Int32) (q3 : Int32) (q4 : Int32) (q5 : Int32) (iw : Bool) (y0 : Nat → Int32) (y1 : Nat → Int32) (y2 : Nat → Int32) (y3 : Nat → Int32) (y4 : Nat → Int32) (y5 : Nat → Int32) (y6 : Nat → Int32), kOK (p_links X).2 kr ∧ va_P D vwCl (wN ci am ((p_links X).2) kr q0 q1 q2 q3 q4 q5 iw kn y0 y1 y2 y3 y4 y5 y6) H)) 0 0 (aM am) := by
  refine mu_Met (cc := cX4_links) (maxL := 1) (ret := (some .int)) [(0, .ref (am 0))] (wN_D hI) (by decide) rfl (Nat.le_of_ble_eq_true rfl) rfl ?_
  intro p e s m below meth c H locs hx hb hml hr hlocks hts hown hP hK hs0 hD hS ls hl
  have hown : s.vm.findClass RX4 = some m.cls := hown
  have hE := hE_T
  have hWF := hWX.w
  have f_n := hWF.n
  have f_e := hWX.e
  have f_tl := hWX.t
  refine lv_aload_n hx hb dX4_links_0 rfl (lv_at hl 0 rfl) ?_
  refine ro_V (n := 0) (As := []) (rest := []) ⟨hx, hb, hml, hown, hts⟩ (c_X4_linksNow l D ci am X kr q0 q1 q2 q3 q4 q5 iw kn y0 y1 y2 y3 y4 y5 y6  hWF) gX4_links_X4_linksNow rfl ⟨rfl, rfl⟩ (by decide +kernel) rfl ⟨Nat.le_of_ble_eq_true rfl, Nat.le_of_ble_eq_true rfl⟩ hE trivial hK hP (ci := 4) (q0 := 0) rfl rfl hl.1 rfl (Nat.le_of_ble_eq_true rfl) dX4_links_1 ⟨Nat.zero_le _, Nat.zero_le _⟩ ?_
  have f1 := links_le hWF
  have hp : p_links X = (nI (links X.1), X) := rfl
  refine nv_cv (show nI (links X.1) = (p_links X).1 from by rw [hp]) ?_
  exact mu_iret hx hb hr hlocks hS ((by rw [hp]; exact ⟨_, _, _, _, _, _, _, _, _, _, _, _, _, _, _, hkr, hP⟩)) dX4_links_4

set_option maxHeartbeats 4000000 in
set_option maxRecDepth 100000 in
/-- X4_loudFor -/
theorem c_X4_loudFor (l : Launch) (D : va_G) (ci : Nat → ClassId) (am : Nat → Nat) (X : AS) (kr : Nat → Int32) (q0 q1 q2 q3 q4 q5 : Int32) (iw : Bool) (kn : Nat → Option Nat) (y0 y1 y2 y3 y4 y5 y6 : Nat → Int32) (hI : injA am 16) (q sv b : Int32) (hWX : WFX X) (hkr : kOK X kr) : Met l yX4_loudFor wsX4_loudFor ({ frames := 4, cells := 0, slots := 0, locals := 91 } : Room) (va_Pc [.ref (am 0), .int (q), .int (sv), .int (b)] (ro_B D (tyL ci) (wN ci am X kr q0 q1 q2 q3 q4 q5 iw kn y0 y1 y2 y3 y4 y5 y6) (enT))) (mu_Q (aM am) (some (.int ((p_loudFor X q sv b).1))) (fun H => ∃ (kr : Nat → Int32) (q0 : Int32) (q1 : Int32) (q2 : Int32) (q3 : Int32) (q4 : Int32) (q5 : Int32) (iw : Bool) (y0 : Nat → Int32) (y1 : Nat → Int32) (y2 : Nat → Int32) (y3 : Nat → Int32) (y4 : Nat → Int32) (y5 : Nat → Int32) (y6 : Nat → Int32), kOK (p_loudFor X q sv b).2 kr ∧ va_P D vwCl (wN ci am ((p_loudFor X q sv b).2) kr q0 q1 q2 q3 q4 q5 iw kn y0 y1 y2 y3 y4 y5 y6) H)) 0 0 (aM am) := by
  refine mu_Met (cc := cX4_loudFor) (maxL := 5) (ret := (some .int)) [(0, .ref (am 0)), (1, .int (q)), (2, .int (sv)), (3, .int (b))] (wN_D hI) (by decide) rfl (Nat.le_of_ble_eq_true rfl) rfl ?_
  intro p e s m below meth c H locs hx hb hml hr hlocks hts hown hP hK hs0 hD hS ls hl
  have hown : s.vm.findClass RX4 = some m.cls := hown
  have hE := hE_T
  have hWF := hWX.w
  have f_n := hWF.n
  have f_e := hWX.e
  have f_tl := hWX.t
  refine lv_aload_n hx hb dX4_loudFor_0 rfl (lv_at hl 0 rfl) ?_
  refine lv_iload_n hx hb dX4_loudFor_1 rfl (lv_at hl 1 rfl) ?_
  refine ro_V (n := 1) (As := [.int (q)]) (rest := []) ⟨hx, hb, hml, hown, hts⟩ (c_X4_isPlayer l D ci am X kr q0 q1 q2 q3 q4 q5 iw kn y0 y1 y2 y3 y4 y5 y6 (q) hWF) gX4_loudFor_X4_isPlayer rfl ⟨rfl, rfl⟩ (by decide +kernel) rfl ⟨Nat.le_of_ble_eq_true rfl, Nat.le_of_ble_eq_true rfl⟩ hE trivial hK hP (ci := 4) (q0 := 0) rfl rfl hl.1 rfl (Nat.le_of_ble_eq_true rfl) dX4_loudFor_2 ⟨Nat.zero_le _, Nat.zero_le _⟩ ?_
  refine nv_ifeq_b (tgt := 22) hx hb dX4_loudFor_5 (by decide) (fun c1 => ?_) (fun c1 => ?_)
  · refine lv_aload_n hx hb dX4_loudFor_22 rfl (lv_at hl 0 rfl) ?_
    refine lv_ldc (v := -1000001) hx hb hown (hts (.constant RX4 72 (-1000001)) (List.mem_of_getElem? (i := 1) rfl)) dX4_loudFor_23 ?_
    refine mu_V (n := 1) (As := [.int (-1000001)]) (rest := []) ⟨hx, hb, hml, hown, hts⟩ (c_X4_finding l D ci am X kr q0 q1 q2 q3 q4 q5 iw kn y0 y1 y2 y3 y4 y5 y6 hI (-1000001) (0) (by omega) (by decide)) gX4_loudFor_X4_finding rfl ⟨rfl, rfl⟩ (by decide +kernel) rfl ⟨Nat.le_of_ble_eq_true rfl, Nat.le_of_ble_eq_true rfl⟩ hE trivial hK hP (ci := 4) (q0 := 0) rfl rfl hl.1 rfl (Nat.le_of_ble_eq_true rfl) dX4_loudFor_25 ⟨Nat.zero_le _, Nat.zero_le _⟩ hS (fun _ h => h) (fun H1 locs hz hfr hB hS => ?_)
    have hP := hB
    have hP : va_P D vwCl (wN ci am (toF X (inc X.2.2.2.1 0)) kr q0 q1 q2 q3 q4 q5 iw kn y0 y1 y2 y3 y4 y5 y6) H1 := hP
    generalize H1 = H at hP hS ⊢
    have hD : va_D (aM am) (wN ci am (toF X (inc X.2.2.2.1 0)) kr q0 q1 q2 q3 q4 q5 iw kn y0 y1 y2 y3 y4 y5 y6) := wN_D hI
    have hp : p_loudFor X q sv b = (fnd 0, toF X (inc X.2.2.2.1 0)) := by first | (simp [p_loudFor, inP, bk, fl_eq, c1]; done) | (simp [p_loudFor, inP, bk, fl_eq, show ¬ dist (X.1 2 qn) svn ≤ 8 by omega, c1]; done) | (simp [p_loudFor, inP, bk, fl_eq, show dist (X.1 2 qn) svn ≤ 8 by omega, c1]; done) | (simp [p_loudFor, inP, bk, fl_eq, show dist (X.1 2 qn) svn ≤ 8 by omega, Nat.add_comm 1, c1]; done)
    refine nv_cv (show fnd 0 = (p_loudFor X q sv b).1 from by rw [hp]) ?_
    exact mu_iret hx hb hr hlocks hS ((by rw [hp]; exact ⟨_, _, _, _, _, _, _, _, _, _, _, _, _, _, _, hkr, hP⟩)) dX4_loudFor_28
  · obtain ⟨qn, h_qn, rfl⟩ := in_ex c1 (by omega)
    have t_qn : tn (nI qn) = qn := tn_nI (by omega)
    refine lv_iload_n hx hb dX4_loudFor_8 rfl (lv_at hl 2 rfl) ?_
    refine ro_S (n := 1) (As := [.int (sv)]) (rest := []) ⟨hx, hb, hml, hown, hts⟩ (c_X4_isSeat l D ci (wN ci am X kr q0 q1 q2 q3 q4 q5 iw kn y0 y1 y2 y3 y4 y5 y6) (sv) ) gX4_loudFor_X4_isSeat rfl ⟨rfl, rfl⟩ (by decide +kernel) rfl ⟨Nat.le_of_ble_eq_true rfl, Nat.le_of_ble_eq_true rfl⟩ hE trivial hK hP hl.1 rfl (Nat.le_of_ble_eq_true rfl) dX4_loudFor_9 ⟨Nat.zero_le _, Nat.zero_le _⟩ ?_
    refine nv_ifeq_b (tgt := 22) hx hb dX4_loudFor_12 (by decide) (fun c2 => ?_) (fun c2 => ?_)
    · refine lv_aload_n hx hb dX4_loudFor_22 rfl (lv_at hl 0 rfl) ?_
      refine lv_ldc (v := -1000001) hx hb hown (hts (.constant RX4 72 (-1000001)) (List.mem_of_getElem? (i := 1) rfl)) dX4_loudFor_23 ?_
      refine mu_V (n := 1) (As := [.int (-1000001)]) (rest := []) ⟨hx, hb, hml, hown, hts⟩ (c_X4_finding l D ci am X kr q0 q1 q2 q3 q4 q5 iw kn y0 y1 y2 y3 y4 y5 y6 hI (-1000001) (0) (by omega) (by decide)) gX4_loudFor_X4_finding rfl ⟨rfl, rfl⟩ (by decide +kernel) rfl ⟨Nat.le_of_ble_eq_true rfl, Nat.le_of_ble_eq_true rfl⟩ hE trivial hK hP (ci := 4) (q0 := 0) rfl rfl hl.1 rfl (Nat.le_of_ble_eq_true rfl) dX4_loudFor_25 ⟨Nat.zero_le _, Nat.zero_le _⟩ hS (fun _ h => h) (fun H1 locs hz hfr hB hS => ?_)
      have hP := hB
      have hP : va_P D vwCl (wN ci am (toF X (inc X.2.2.2.1 0)) kr q0 q1 q2 q3 q4 q5 iw kn y0 y1 y2 y3 y4 y5 y6) H1 := hP
      generalize H1 = H at hP hS ⊢
      have hD : va_D (aM am) (wN ci am (toF X (inc X.2.2.2.1 0)) kr q0 q1 q2 q3 q4 q5 iw kn y0 y1 y2 y3 y4 y5 y6) := wN_D hI
      have hp : p_loudFor X (nI qn) sv b = (fnd 0, toF X (inc X.2.2.2.1 0)) := by first | (simp [p_loudFor, inP, bk, fl_eq, c1, c2, t_qn]; done) | (simp [p_loudFor, inP, bk, fl_eq, show ¬ dist (X.1 2 qn) svn ≤ 8 by omega, c1, c2, t_qn]; done) | (simp [p_loudFor, inP, bk, fl_eq, show dist (X.1 2 qn) svn ≤ 8 by omega, c1, c2, t_qn]; done) | (simp [p_loudFor, inP, bk, fl_eq, show dist (X.1 2 qn) svn ≤ 8 by omega, Nat.add_comm 1, c1, c2, t_qn]; done)
      refine nv_cv (show fnd 0 = (p_loudFor X (nI qn) sv b).1 from by rw [hp]) ?_
      exact mu_iret hx hb hr hlocks hS ((by rw [hp]; exact ⟨_, _, _, _, _, _, _, _, _, _, _, _, _, _, _, hkr, hP⟩)) dX4_loudFor_28
    · obtain ⟨svn, h_svn, rfl⟩ := in_ex c2 (by omega)
      have t_svn : tn (nI svn) = svn := tn_nI (by omega)
      refine lv_iload_n hx hb dX4_loudFor_15 rfl (lv_at hl 3 rfl) ?_
      refine ro_S (n := 1) (As := [.int (b)]) (rest := []) ⟨hx, hb, hml, hown, hts⟩ (c_X4_isBar l D ci (wN ci am X kr q0 q1 q2 q3 q4 q5 iw kn y0 y1 y2 y3 y4 y5 y6) (b) ) gX4_loudFor_X4_isBar rfl ⟨rfl, rfl⟩ (by decide +kernel) rfl ⟨Nat.le_of_ble_eq_true rfl, Nat.le_of_ble_eq_true rfl⟩ hE trivial hK hP hl.1 rfl (Nat.le_of_ble_eq_true rfl) dX4_loudFor_16 ⟨Nat.zero_le _, Nat.zero_le _⟩ ?_
      refine nv_ifne_b (tgt := 29) hx hb dX4_loudFor_19 (by decide) (fun c3 => ?_) (fun c3 => ?_)
      · obtain ⟨bn, h_bn, rfl⟩ := in_ex c3 (by omega)
        have t_bn : tn (nI bn) = bn := tn_nI (by omega)
        refine lv_iconst (v := nI (1)) hx hb dX4_loudFor_29 (by decide) ?_
        refine lv_aload_n hx hb dX4_loudFor_30 rfl (lv_at hl 0 rfl) ?_
        refine lv_iload_n hx hb dX4_loudFor_31 rfl (lv_at hl 1 rfl) ?_
        refine lv_iconst (v := nI (1)) hx hb dX4_loudFor_32 (by decide) ?_
        refine ro_V (n := 2) (As := [.int (nI qn), .int (nI 1)]) (rest := [.int (nI 1)]) ⟨hx, hb, hml, hown, hts⟩ (c_X4_playerIs l D ci am X kr q0 q1 q2 q3 q4 q5 iw kn y0 y1 y2 y3 y4 y5 y6 (qn) (1) hWF (by omega) (by omega)) gX4_loudFor_X4_playerIs rfl ⟨rfl, rfl⟩ (by decide +kernel) rfl ⟨Nat.le_of_ble_eq_true rfl, Nat.le_of_ble_eq_true rfl⟩ hE trivial hK hP (ci := 4) (q0 := 0) rfl rfl hl.1 rfl (Nat.le_of_ble_eq_true rfl) dX4_loudFor_33 ⟨Nat.zero_le _, Nat.zero_le _⟩ ?_
        refine nv_cv (show nI (X.1 (1 + 1) qn) = nI (X.1 2 qn) from rfl) ?_
        have f4 := hWF.f2 qn
        refine lv_iload_n hx hb dX4_loudFor_36 rfl (lv_at hl 2 rfl) ?_
        refine lv_isub hx hb dX4_loudFor_37 ?_
        refine va_mabs hx hb (hml.trans hl.1.symm) hown (hts (.methodLink RX4 113 Lib.Math.abs.name) (List.mem_of_getElem? (i := 2) rfl)) (hts (.static Lib.Math.abs.name) (List.mem_of_getElem? (i := 3) rfl)) (hts (.initialized "java/lang/Math") (List.mem_of_getElem? (i := 4) rfl)) (hts (.code Lib.Math.abs.name Lib.Math.abs.code 1 (some .int)) (List.mem_of_getElem? (i := 5) rfl)) (Nat.le_of_ble_eq_true rfl) (Nat.le_of_ble_eq_true rfl) (Nat.zero_le _) (Nat.zero_le _) dX4_loudFor_38 (nv_cv (nv_abs (x := X.1 2 qn) (y := svn) (by omega) (by omega)) ?_)
        have f5 := dist_le (X.1 2 qn) (svn)
        refine nv_iadd hx hb dX4_loudFor_41 ?_
        refine lv_istore (lv' := [(4, .int (nI ((1 + dist (X.1 2 qn) (svn))))), (0, .ref (am 0)), (1, .int (nI qn)), (2, .int (nI svn)), (3, .int (nI bn))]) hx hb dX4_loudFor_42 hl (by decide) rfl (fun ls hl => ?_)
        refine lv_iload hx hb dX4_loudFor_44 (lv_at hl 0 rfl) ?_
        refine lv_bipush (v := nI (9)) hx hb dX4_loudFor_46 (by decide) ?_
        refine nv_icmp_gt (tgt := 60) hx hb (by omega) (by omega) dX4_loudFor_48 (by decide) (fun c6 => ?_) (fun c6 => ?_)
        · refine lv_aload_n hx hb dX4_loudFor_60 rfl (lv_at hl 1 rfl) ?_
          refine lv_ldc (v := -1000004) hx hb hown (hts (.constant RX4 77 (-1000004)) (List.mem_of_getElem? (i := 6) rfl)) dX4_loudFor_61 ?_
          refine mu_V (n := 1) (As := [.int (-1000004)]) (rest := []) ⟨hx, hb, hml, hown, hts⟩ (c_X4_finding l D ci am X kr q0 q1 q2 q3 q4 q5 iw kn y0 y1 y2 y3 y4 y5 y6 hI (-1000004) (3) (by omega) (by decide)) gX4_loudFor_X4_finding rfl ⟨rfl, rfl⟩ (by decide +kernel) rfl ⟨Nat.le_of_ble_eq_true rfl, Nat.le_of_ble_eq_true rfl⟩ hE trivial hK hP (ci := 4) (q0 := 0) rfl rfl hl.1 rfl (Nat.le_of_ble_eq_true rfl) dX4_loudFor_63 ⟨Nat.zero_le _, Nat.zero_le _⟩ hS (fun _ h => h) (fun H1 locs hz hfr hB hS => ?_)
          have hP := hB
          have hP : va_P D vwCl (wN ci am (toF X (inc X.2.2.2.1 3)) kr q0 q1 q2 q3 q4 q5 iw kn y0 y1 y2 y3 y4 y5 y6) H1 := hP
          generalize H1 = H at hP hS ⊢
          have hD : va_D (aM am) (wN ci am (toF X (inc X.2.2.2.1 3)) kr q0 q1 q2 q3 q4 q5 iw kn y0 y1 y2 y3 y4 y5 y6) := wN_D hI
          refine lv_goto (tgt := 71) hx hb dX4_loudFor_66 (by decide) ?_
          have hp : p_loudFor X (nI qn) (nI svn) (nI bn) = (fnd 3, toF X (inc X.2.2.2.1 3)) := by first | (simp [p_loudFor, inP, bk, fl_eq, c1, c2, c3, c6, t_qn, t_svn, t_bn]; done) | (simp [p_loudFor, inP, bk, fl_eq, show ¬ dist (X.1 2 qn) svn ≤ 8 by omega, c1, c2, c3, c6, t_qn, t_svn, t_bn]; done) | (simp [p_loudFor, inP, bk, fl_eq, show dist (X.1 2 qn) svn ≤ 8 by omega, c1, c2, c3, c6, t_qn, t_svn, t_bn]; done) | (simp [p_loudFor, inP, bk, fl_eq, show dist (X.1 2 qn) svn ≤ 8 by omega, Nat.add_comm 1, c1, c2, c3, c6, t_qn, t_svn, t_bn]; done)
          refine nv_cv (show fnd 3 = (p_loudFor X (nI qn) (nI svn) (nI bn)).1 from by rw [hp]) ?_
          exact mu_iret hx hb hr hlocks hS ((by rw [hp]; exact ⟨_, _, _, _, _, _, _, _, _, _, _, _, _, _, _, hkr, hP⟩)) dX4_loudFor_71
        · refine lv_aload_n hx hb dX4_loudFor_51 rfl (lv_at hl 1 rfl) ?_
          refine lv_iload_n hx hb dX4_loudFor_52 rfl (lv_at hl 2 rfl) ?_
          refine lv_iload_n hx hb dX4_loudFor_53 rfl (lv_at hl 4 rfl) ?_
          refine ro_V (n := 2) (As := [.int (nI qn), .int (nI bn)]) (rest := []) ⟨hx, hb, hml, hown, hts⟩ (c_X4_plays l D ci am X kr q0 q1 q2 q3 q4 q5 iw kn y0 y1 y2 y3 y4 y5 y6 (qn) (bn) hWF (by omega) (by omega)) gX4_loudFor_X4_plays rfl ⟨rfl, rfl⟩ (by decide +kernel) rfl ⟨Nat.le_of_ble_eq_true rfl, Nat.le_of_ble_eq_true rfl⟩ hE trivial hK hP (ci := 4) (q0 := 0) rfl rfl hl.1 rfl (Nat.le_of_ble_eq_true rfl) dX4_loudFor_54 ⟨Nat.zero_le _, Nat.zero_le _⟩ ?_
          refine nv_ifne_b (tgt := 69) hx hb dX4_loudFor_57 (by decide) (fun c7 => ?_) (fun c7 => ?_)
          · refine lv_iload hx hb dX4_loudFor_69 (lv_at hl 0 rfl) ?_
            have hp : p_loudFor X (nI qn) (nI svn) (nI bn) = (nI ((1 + dist (X.1 2 qn) (svn))), X) := by first | (simp [p_loudFor, inP, bk, fl_eq, c1, c2, c3, c6, c7, t_qn, t_svn, t_bn]; done) | (simp [p_loudFor, inP, bk, fl_eq, show ¬ dist (X.1 2 qn) svn ≤ 8 by omega, c1, c2, c3, c6, c7, t_qn, t_svn, t_bn]; done) | (simp [p_loudFor, inP, bk, fl_eq, show dist (X.1 2 qn) svn ≤ 8 by omega, c1, c2, c3, c6, c7, t_qn, t_svn, t_bn]; done) | (simp [p_loudFor, inP, bk, fl_eq, show dist (X.1 2 qn) svn ≤ 8 by omega, Nat.add_comm 1, c1, c2, c3, c6, c7, t_qn, t_svn, t_bn]; done)
            refine nv_cv (show nI ((1 + dist (X.1 2 qn) (svn))) = (p_loudFor X (nI qn) (nI svn) (nI bn)).1 from by rw [hp]) ?_
            exact mu_iret hx hb hr hlocks hS ((by rw [hp]; exact ⟨_, _, _, _, _, _, _, _, _, _, _, _, _, _, _, hkr, hP⟩)) dX4_loudFor_71
          · refine lv_aload_n hx hb dX4_loudFor_60 rfl (lv_at hl 1 rfl) ?_
            refine lv_ldc (v := -1000004) hx hb hown (hts (.constant RX4 77 (-1000004)) (List.mem_of_getElem? (i := 6) rfl)) dX4_loudFor_61 ?_
            refine mu_V (n := 1) (As := [.int (-1000004)]) (rest := []) ⟨hx, hb, hml, hown, hts⟩ (c_X4_finding l D ci am X kr q0 q1 q2 q3 q4 q5 iw kn y0 y1 y2 y3 y4 y5 y6 hI (-1000004) (3) (by omega) (by decide)) gX4_loudFor_X4_finding rfl ⟨rfl, rfl⟩ (by decide +kernel) rfl ⟨Nat.le_of_ble_eq_true rfl, Nat.le_of_ble_eq_true rfl⟩ hE trivial hK hP (ci := 4) (q0 := 0) rfl rfl hl.1 rfl (Nat.le_of_ble_eq_true rfl) dX4_loudFor_63 ⟨Nat.zero_le _, Nat.zero_le _⟩ hS (fun _ h => h) (fun H1 locs hz hfr hB hS => ?_)
            have hP := hB
            have hP : va_P D vwCl (wN ci am (toF X (inc X.2.2.2.1 3)) kr q0 q1 q2 q3 q4 q5 iw kn y0 y1 y2 y3 y4 y5 y6) H1 := hP
            generalize H1 = H at hP hS ⊢
            have hD : va_D (aM am) (wN ci am (toF X (inc X.2.2.2.1 3)) kr q0 q1 q2 q3 q4 q5 iw kn y0 y1 y2 y3 y4 y5 y6) := wN_D hI
            refine lv_goto (tgt := 71) hx hb dX4_loudFor_66 (by decide) ?_
            have hp : p_loudFor X (nI qn) (nI svn) (nI bn) = (fnd 3, toF X (inc X.2.2.2.1 3)) := by first | (simp [p_loudFor, inP, bk, fl_eq, c1, c2, c3, c6, c7, t_qn, t_svn, t_bn]; done) | (simp [p_loudFor, inP, bk, fl_eq, show ¬ dist (X.1 2 qn) svn ≤ 8 by omega, c1, c2, c3, c6, c7, t_qn, t_svn, t_bn]; done) | (simp [p_loudFor, inP, bk, fl_eq, show dist (X.1 2 qn) svn ≤ 8 by omega, c1, c2, c3, c6, c7, t_qn, t_svn, t_bn]; done) | (simp [p_loudFor, inP, bk, fl_eq, show dist (X.1 2 qn) svn ≤ 8 by omega, Nat.add_comm 1, c1, c2, c3, c6, c7, t_qn, t_svn, t_bn]; done)
            refine nv_cv (show fnd 3 = (p_loudFor X (nI qn) (nI svn) (nI bn)).1 from by rw [hp]) ?_
            exact mu_iret hx hb hr hlocks hS ((by rw [hp]; exact ⟨_, _, _, _, _, _, _, _, _, _, _, _, _, _, _, hkr, hP⟩)) dX4_loudFor_71
      · refine lv_aload_n hx hb dX4_loudFor_22 rfl (lv_at hl 0 rfl) ?_
        refine lv_ldc (v := -1000001) hx hb hown (hts (.constant RX4 72 (-1000001)) (List.mem_of_getElem? (i := 1) rfl)) dX4_loudFor_23 ?_
        refine mu_V (n := 1) (As := [.int (-1000001)]) (rest := []) ⟨hx, hb, hml, hown, hts⟩ (c_X4_finding l D ci am X kr q0 q1 q2 q3 q4 q5 iw kn y0 y1 y2 y3 y4 y5 y6 hI (-1000001) (0) (by omega) (by decide)) gX4_loudFor_X4_finding rfl ⟨rfl, rfl⟩ (by decide +kernel) rfl ⟨Nat.le_of_ble_eq_true rfl, Nat.le_of_ble_eq_true rfl⟩ hE trivial hK hP (ci := 4) (q0 := 0) rfl rfl hl.1 rfl (Nat.le_of_ble_eq_true rfl) dX4_loudFor_25 ⟨Nat.zero_le _, Nat.zero_le _⟩ hS (fun _ h => h) (fun H1 locs hz hfr hB hS => ?_)
        have hP := hB
        have hP : va_P D vwCl (wN ci am (toF X (inc X.2.2.2.1 0)) kr q0 q1 q2 q3 q4 q5 iw kn y0 y1 y2 y3 y4 y5 y6) H1 := hP
        generalize H1 = H at hP hS ⊢
        have hD : va_D (aM am) (wN ci am (toF X (inc X.2.2.2.1 0)) kr q0 q1 q2 q3 q4 q5 iw kn y0 y1 y2 y3 y4 y5 y6) := wN_D hI
        have hp : p_loudFor X (nI qn) (nI svn) b = (fnd 0, toF X (inc X.2.2.2.1 0)) := by first | (simp [p_loudFor, inP, bk, fl_eq, c1, c2, c3, t_qn, t_svn]; done) | (simp [p_loudFor, inP, bk, fl_eq, show ¬ dist (X.1 2 qn) svn ≤ 8 by omega, c1, c2, c3, t_qn, t_svn]; done) | (simp [p_loudFor, inP, bk, fl_eq, show dist (X.1 2 qn) svn ≤ 8 by omega, c1, c2, c3, t_qn, t_svn]; done) | (simp [p_loudFor, inP, bk, fl_eq, show dist (X.1 2 qn) svn ≤ 8 by omega, Nat.add_comm 1, c1, c2, c3, t_qn, t_svn]; done)
        refine nv_cv (show fnd 0 = (p_loudFor X (nI qn) (nI svn) b).1 from by rw [hp]) ?_
        exact mu_iret hx hb hr hlocks hS ((by rw [hp]; exact ⟨_, _, _, _, _, _, _, _, _, _, _, _, _, _, _, hkr, hP⟩)) dX4_loudFor_28
