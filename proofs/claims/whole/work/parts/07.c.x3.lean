/-! walks laid by program -/
set_option maxHeartbeats 4000000 in
set_option maxRecDepth 100000 in
/-- X3_of -/
theorem c_X3_of (l : Launch) (D : va_G) (ci : Nat → ClassId) (G : Nat → Prop) (ka : Nat) (ad : Nat → Nat) (X : AS) (T : OS) (tq la tt : Nat → Int32) (z : Nat → Nat → Int32) (hI : injA ad 48) (hG : ∀ k, k < 48 → G (ad k)) (q w : Int32) (hWX : WFX X) : Met l yX3_of wsX3_of ({ frames := 5, cells := 0, slots := 0, locals := 112 } : Room) (va_Pc [.ref (ad 0), .int (q), .int (w)] (ro_B D (tyL ci) (wX ci ad X T tq la tt z) (en D (ci 0) G ka))) (mu_Q (aX ad) (some (.int ((p_of X q w).1))) (fun H => ∃ T tq la tt z, va_P D vwCl (wX ci ad ((p_of X q w).2) T tq la tt z) H)) 0 0 (aX ad) := by
  refine mu_Met (cc := cX3_of) (maxL := 3) (ret := (some .int)) [(0, .ref (ad 0)), (1, .int (q)), (2, .int (w))] (wX_D hI) (by decide) rfl (Nat.le_of_ble_eq_true rfl) rfl ?_
  intro p e s m below meth c H locs hx hb hml hr hlocks hts hown hP hK hs0 hD hS ls hl
  have hown : s.vm.findClass RX3 = some m.cls := hown
  have hinX0 : ∀ w ∈ wsX00, w ∈ wsX3_of := by decide +kernel
  have hinX3 : ∀ w ∈ wsX30, w ∈ wsX3_of := by decide +kernel
  have hE := hE_en D (ci 0) G ka
  have hWF := hWX.w
  have f_n := hWF.n
  have f_e := hWX.e
  have f_tl := hWX.t
  have hGA := aX_G hG
  have hWK := hWX.k
  refine lv_aload_n hx hb dX3_of_0 rfl (lv_at hl 0 rfl) ?_
  refine lv_iload_n hx hb dX3_of_1 rfl (lv_at hl 1 rfl) ?_
  refine ro_V (n := 1) (As := [.int (q)]) (rest := []) ⟨hx, hb, hml, hown, hts⟩ (c_X3_isPlayer l D ci G ka ad X T tq la tt z (q) hWX) gX3_of_X3_isPlayer rfl ⟨rfl, rfl⟩ (by decide +kernel) rfl ⟨Nat.le_of_ble_eq_true rfl, Nat.le_of_ble_eq_true rfl⟩ hE (en_S hGA hs0 hS) hK hP (ci := 3) (q0 := 0) rfl rfl hl.1 rfl (Nat.le_of_ble_eq_true rfl) dX3_of_2 ⟨Nat.zero_le _, Nat.zero_le _⟩ ?_
  refine nv_ifne_b (tgt := 14) hx hb dX3_of_5 (by decide) (fun c1 => ?_) (fun c1 => ?_)
  · obtain ⟨qn, h_qn, rfl⟩ := in_ex c1 (by omega)
    have t_qn : tn (nI qn) = qn := tn_nI (by omega)
    refine lv_iload_n hx hb dX3_of_14 rfl (lv_at hl 2 rfl) ?_
    rcases Bool.eq_false_or_eq_true (inN w 7) with i2 | i2
    · obtain ⟨wn, h_wn, rfl⟩ := in_ex i2 (by decide)
      rcases (show wn = 0 ∨ wn = 1 ∨ wn = 2 ∨ wn = 3 ∨ wn = 4 ∨ wn = 5 ∨ wn = 6 by omega) with rfl | rfl | rfl | rfl | rfl | rfl | rfl
      · have t_w : tn (nI 0) = 0 := tn_nI (by decide)
        refine lv_tableIn (x := nI 0) (off := 41) (tgt := 56) hx hb dX3_of_15 (by decide) (by decide) (by decide) (by decide) ?_
        refine lv_aload_n hx hb dX3_of_56 rfl (lv_at hl 0 rfl) ?_
        refine va_get (D := D) (ci := 3) (v := .ref (ad 5)) (C := RX3) (T := TX3) (N := 9) hx hb hts hinX3 hown hK hP 0 rfl rfl 0 (by decide) (hts (.fieldLink RX3 10 "OneShort" "orchestra" "LOneShort$Orchestra;") (List.mem_of_getElem? (i := 1) rfl)) (fun _ h9 => h9) rfl dX3_of_57 ?_
        refine va_get (D := D) (ci := 0) (v := .ref (ad 7)) (C := RX0) (T := TX0) (N := 13) hx hb hts hinX0 hown hK hP 5 rfl rfl 1 (by decide) (hts (.fieldLink RX3 84 "OneShort$Orchestra" "kind" "[I") (List.mem_of_getElem? (i := 2) rfl)) (fun _ h9 => h9) rfl dX3_of_60 ?_
        refine lv_iload_n hx hb dX3_of_63 rfl (lv_at hl 1 rfl) ?_
        have f3 := hWF.f1 (qn)
        refine nv_iald (v := nI (X.1 1 (qn))) hx hb hK hP 7 0 rfl rfl (by omega) (by decide) rfl dX3_of_64 ?_
        have hp : p_of X (nI qn) (nI 0) = (nI (X.1 1 (qn)), X) := by first | (simp [p_of, bk, fl_eq, inP, c1, t_qn, i2, t_w]; done) | (simp [p_of, bk, fl_eq, inP, c1, t_qn, i2, t_w] <;> omega)
        refine nv_cv (show nI (X.1 1 (qn)) = (p_of X (nI qn) (nI 0)).1 from by rw [hp]) ?_
        exact mu_iret hx hb hr hlocks hS ((by rw [hp]; exact ⟨_, _, _, _, _, hP⟩)) dX3_of_65
      · have t_w : tn (nI 1) = 1 := tn_nI (by decide)
        refine lv_tableIn (x := nI 1) (off := 51) (tgt := 66) hx hb dX3_of_15 (by decide) (by decide) (by decide) (by decide) ?_
        refine lv_aload_n hx hb dX3_of_66 rfl (lv_at hl 0 rfl) ?_
        refine va_get (D := D) (ci := 3) (v := .ref (ad 5)) (C := RX3) (T := TX3) (N := 9) hx hb hts hinX3 hown hK hP 0 rfl rfl 0 (by decide) (hts (.fieldLink RX3 10 "OneShort" "orchestra" "LOneShort$Orchestra;") (List.mem_of_getElem? (i := 1) rfl)) (fun _ h9 => h9) rfl dX3_of_67 ?_
        refine va_get (D := D) (ci := 0) (v := .ref (ad 8)) (C := RX0) (T := TX0) (N := 13) hx hb hts hinX0 hown hK hP 5 rfl rfl 2 (by decide) (hts (.fieldLink RX3 87 "OneShort$Orchestra" "seat" "[I") (List.mem_of_getElem? (i := 3) rfl)) (fun _ h9 => h9) rfl dX3_of_70 ?_
        refine lv_iload_n hx hb dX3_of_73 rfl (lv_at hl 1 rfl) ?_
        have f4 := hWF.f2 (qn)
        refine nv_iald (v := nI (X.1 2 (qn))) hx hb hK hP 8 0 rfl rfl (by omega) (by decide) rfl dX3_of_74 ?_
        have hp : p_of X (nI qn) (nI 1) = (nI (X.1 2 (qn)), X) := by first | (simp [p_of, bk, fl_eq, inP, c1, t_qn, i2, t_w]; done) | (simp [p_of, bk, fl_eq, inP, c1, t_qn, i2, t_w] <;> omega)
        refine nv_cv (show nI (X.1 2 (qn)) = (p_of X (nI qn) (nI 1)).1 from by rw [hp]) ?_
        exact mu_iret hx hb hr hlocks hS ((by rw [hp]; exact ⟨_, _, _, _, _, hP⟩)) dX3_of_75
      · have t_w : tn (nI 2) = 2 := tn_nI (by decide)
        refine lv_tableIn (x := nI 2) (off := 61) (tgt := 76) hx hb dX3_of_15 (by decide) (by decide) (by decide) (by decide) ?_
        refine lv_aload_n hx hb dX3_of_76 rfl (lv_at hl 0 rfl) ?_
        refine va_get (D := D) (ci := 3) (v := .ref (ad 5)) (C := RX3) (T := TX3) (N := 9) hx hb hts hinX3 hown hK hP 0 rfl rfl 0 (by decide) (hts (.fieldLink RX3 10 "OneShort" "orchestra" "LOneShort$Orchestra;") (List.mem_of_getElem? (i := 1) rfl)) (fun _ h9 => h9) rfl dX3_of_77 ?_
        refine va_get (D := D) (ci := 0) (v := .ref (ad 9)) (C := RX0) (T := TX0) (N := 13) hx hb hts hinX0 hown hK hP 5 rfl rfl 3 (by decide) (hts (.fieldLink RX3 90 "OneShort$Orchestra" "part" "[I") (List.mem_of_getElem? (i := 4) rfl)) (fun _ h9 => h9) rfl dX3_of_80 ?_
        refine lv_iload_n hx hb dX3_of_83 rfl (lv_at hl 1 rfl) ?_
        have f5 := hWF.f3 (qn)
        refine nv_iald (v := nI (X.1 3 (qn))) hx hb hK hP 9 0 rfl rfl (by omega) (by decide) rfl dX3_of_84 ?_
        have hp : p_of X (nI qn) (nI 2) = (nI (X.1 3 (qn)), X) := by first | (simp [p_of, bk, fl_eq, inP, c1, t_qn, i2, t_w]; done) | (simp [p_of, bk, fl_eq, inP, c1, t_qn, i2, t_w] <;> omega)
        refine nv_cv (show nI (X.1 3 (qn)) = (p_of X (nI qn) (nI 2)).1 from by rw [hp]) ?_
        exact mu_iret hx hb hr hlocks hS ((by rw [hp]; exact ⟨_, _, _, _, _, hP⟩)) dX3_of_85
      · have t_w : tn (nI 3) = 3 := tn_nI (by decide)
        refine lv_tableIn (x := nI 3) (off := 71) (tgt := 86) hx hb dX3_of_15 (by decide) (by decide) (by decide) (by decide) ?_
        refine lv_aload_n hx hb dX3_of_86 rfl (lv_at hl 0 rfl) ?_
        refine va_get (D := D) (ci := 3) (v := .ref (ad 5)) (C := RX3) (T := TX3) (N := 9) hx hb hts hinX3 hown hK hP 0 rfl rfl 0 (by decide) (hts (.fieldLink RX3 10 "OneShort" "orchestra" "LOneShort$Orchestra;") (List.mem_of_getElem? (i := 1) rfl)) (fun _ h9 => h9) rfl dX3_of_87 ?_
        refine va_get (D := D) (ci := 0) (v := .ref (ad 10)) (C := RX0) (T := TX0) (N := 13) hx hb hts hinX0 hown hK hP 5 rfl rfl 4 (by decide) (hts (.fieldLink RX3 93 "OneShort$Orchestra" "loud" "[I") (List.mem_of_getElem? (i := 5) rfl)) (fun _ h9 => h9) rfl dX3_of_90 ?_
        refine lv_iload_n hx hb dX3_of_93 rfl (lv_at hl 1 rfl) ?_
        have f6 := hWF.f4 (qn)
        refine nv_iald (v := nI (X.1 4 (qn))) hx hb hK hP 10 0 rfl rfl (by omega) (by decide) rfl dX3_of_94 ?_
        have hp : p_of X (nI qn) (nI 3) = (nI (X.1 4 (qn)), X) := by first | (simp [p_of, bk, fl_eq, inP, c1, t_qn, i2, t_w]; done) | (simp [p_of, bk, fl_eq, inP, c1, t_qn, i2, t_w] <;> omega)
        refine nv_cv (show nI (X.1 4 (qn)) = (p_of X (nI qn) (nI 3)).1 from by rw [hp]) ?_
        exact mu_iret hx hb hr hlocks hS ((by rw [hp]; exact ⟨_, _, _, _, _, hP⟩)) dX3_of_95
      · have t_w : tn (nI 4) = 4 := tn_nI (by decide)
        refine lv_tableIn (x := nI 4) (off := 81) (tgt := 96) hx hb dX3_of_15 (by decide) (by decide) (by decide) (by decide) ?_
        refine lv_aload_n hx hb dX3_of_96 rfl (lv_at hl 0 rfl) ?_
        refine va_get (D := D) (ci := 3) (v := .ref (ad 5)) (C := RX3) (T := TX3) (N := 9) hx hb hts hinX3 hown hK hP 0 rfl rfl 0 (by decide) (hts (.fieldLink RX3 10 "OneShort" "orchestra" "LOneShort$Orchestra;") (List.mem_of_getElem? (i := 1) rfl)) (fun _ h9 => h9) rfl dX3_of_97 ?_
        refine va_get (D := D) (ci := 0) (v := .ref (ad 11)) (C := RX0) (T := TX0) (N := 13) hx hb hts hinX0 hown hK hP 5 rfl rfl 5 (by decide) (hts (.fieldLink RX3 96 "OneShort$Orchestra" "nerve" "[I") (List.mem_of_getElem? (i := 6) rfl)) (fun _ h9 => h9) rfl dX3_of_100 ?_
        refine lv_iload_n hx hb dX3_of_103 rfl (lv_at hl 1 rfl) ?_
        have f7 := hWF.f5 (qn)
        refine nv_iald (v := nI (X.1 5 (qn))) hx hb hK hP 11 0 rfl rfl (by omega) (by decide) rfl dX3_of_104 ?_
        have hp : p_of X (nI qn) (nI 4) = (nI (X.1 5 (qn)), X) := by first | (simp [p_of, bk, fl_eq, inP, c1, t_qn, i2, t_w]; done) | (simp [p_of, bk, fl_eq, inP, c1, t_qn, i2, t_w] <;> omega)
        refine nv_cv (show nI (X.1 5 (qn)) = (p_of X (nI qn) (nI 4)).1 from by rw [hp]) ?_
        exact mu_iret hx hb hr hlocks hS ((by rw [hp]; exact ⟨_, _, _, _, _, hP⟩)) dX3_of_105
      · have t_w : tn (nI 5) = 5 := tn_nI (by decide)
        refine lv_tableIn (x := nI 5) (off := 91) (tgt := 106) hx hb dX3_of_15 (by decide) (by decide) (by decide) (by decide) ?_
        refine lv_aload_n hx hb dX3_of_106 rfl (lv_at hl 0 rfl) ?_
        refine va_get (D := D) (ci := 3) (v := .ref (ad 5)) (C := RX3) (T := TX3) (N := 9) hx hb hts hinX3 hown hK hP 0 rfl rfl 0 (by decide) (hts (.fieldLink RX3 10 "OneShort" "orchestra" "LOneShort$Orchestra;") (List.mem_of_getElem? (i := 1) rfl)) (fun _ h9 => h9) rfl dX3_of_107 ?_
        refine lv_iload_n hx hb dX3_of_110 rfl (lv_at hl 1 rfl) ?_
        refine ro_V (n := 1) (As := [.int (nI qn)]) (rest := []) ⟨hx, hb, hml, hown, hts⟩ (c_X0_barsPlayed l D ci G ka (sh ad 5) X.1 (z 0) (z 1) (z 2) (qn) hWF (by omega)) gX3_of_X0_barsPlayed rfl ⟨rfl, rfl⟩ (by decide +kernel) rfl ⟨Nat.le_of_ble_eq_true rfl, Nat.le_of_ble_eq_true rfl⟩ hE (en_S hGA hs0 hS) hK (wX_s5 hP) (ci := 0) (q0 := 0) rfl rfl hl.1 rfl (Nat.le_of_ble_eq_true rfl) dX3_of_111 ⟨Nat.zero_le _, Nat.zero_le _⟩ ?_
        have f8 := bPlay_lt X.1 (qn)
        have hp : p_of X (nI qn) (nI 5) = (nI (bPlay X.1 qn), X) := by first | (simp [p_of, bk, fl_eq, inP, c1, t_qn, i2, t_w]; done) | (simp [p_of, bk, fl_eq, inP, c1, t_qn, i2, t_w] <;> omega)
        refine nv_cv (show nI (bPlay X.1 qn) = (p_of X (nI qn) (nI 5)).1 from by rw [hp]) ?_
        exact mu_iret hx hb hr hlocks hS ((by rw [hp]; exact ⟨_, _, _, _, _, hP⟩)) dX3_of_114
      · have t_w : tn (nI 6) = 6 := tn_nI (by decide)
        refine lv_tableIn (x := nI 6) (off := 100) (tgt := 115) hx hb dX3_of_15 (by decide) (by decide) (by decide) (by decide) ?_
        refine lv_aload_n hx hb dX3_of_115 rfl (lv_at hl 0 rfl) ?_
        refine va_get (D := D) (ci := 3) (v := .ref (ad 5)) (C := RX3) (T := TX3) (N := 9) hx hb hts hinX3 hown hK hP 0 rfl rfl 0 (by decide) (hts (.fieldLink RX3 10 "OneShort" "orchestra" "LOneShort$Orchestra;") (List.mem_of_getElem? (i := 1) rfl)) (fun _ h9 => h9) rfl dX3_of_116 ?_
        refine lv_iload_n hx hb dX3_of_119 rfl (lv_at hl 1 rfl) ?_
        refine ro_V (n := 1) (As := [.int (nI qn)]) (rest := []) ⟨hx, hb, hml, hown, hts⟩ (c_X0_barsAlone l D ci G ka (sh ad 5) X.1 (z 0) (z 1) (z 2) (qn) hWF (by omega)) gX3_of_X0_barsAlone rfl ⟨rfl, rfl⟩ (by decide +kernel) rfl ⟨Nat.le_of_ble_eq_true rfl, Nat.le_of_ble_eq_true rfl⟩ hE (en_S hGA hs0 hS) hK (wX_s5 hP) (ci := 0) (q0 := 0) rfl rfl hl.1 rfl (Nat.le_of_ble_eq_true rfl) dX3_of_120 ⟨Nat.zero_le _, Nat.zero_le _⟩ ?_
        have hp : p_of X (nI qn) (nI 6) = (nI (bAlone X.1 qn), X) := by first | (simp [p_of, bk, fl_eq, inP, c1, t_qn, i2, t_w]; done) | (simp [p_of, bk, fl_eq, inP, c1, t_qn, i2, t_w] <;> omega)
        refine nv_cv (show nI (bAlone X.1 qn) = (p_of X (nI qn) (nI 6)).1 from by rw [hp]) ?_
        exact mu_iret hx hb hr hlocks hS ((by rw [hp]; exact ⟨_, _, _, _, _, hP⟩)) dX3_of_123
    · refine lv_tableOut (tgt := 124) hx hb dX3_of_15 (tsw_out i2) (by decide) ?_
      refine lv_aload_n hx hb dX3_of_124 rfl (lv_at hl 0 rfl) ?_
      refine lv_iconst (v := nI (0)) hx hb dX3_of_125 (by decide) ?_
      refine mu_V (n := 1) (As := [.int (nI 0)]) (rest := []) ⟨hx, hb, hml, hown, hts⟩ (c_X3_finding l D ci G ka ad X T tq la tt z hI hG (0) hWX (by omega)) gX3_of_X3_finding rfl ⟨rfl, rfl⟩ (by decide +kernel) rfl ⟨Nat.le_of_ble_eq_true rfl, Nat.le_of_ble_eq_true rfl⟩ hE (en_S hGA hs0 hS) hK hP (ci := 3) (q0 := 0) rfl rfl hl.1 rfl (Nat.le_of_ble_eq_true rfl) dX3_of_126 ⟨Nat.zero_le _, Nat.zero_le _⟩ hS (fun _ h => h) (fun H1 locs hz hfr hB hS => ?_)
      obtain ⟨T, tq, la, tt, z, hP⟩ := hB
      generalize H1 = H at hP hS ⊢
      have hD : va_D (aX ad) (wX ci ad (toF X (inc X.2.2.2.1 0)) T tq la tt z) := wX_D hI
      have hp : p_of X (nI qn) w = (fnd 0, toF X (inc X.2.2.2.1 0)) := by first | (simp [p_of, bk, fl_eq, inP, c1, t_qn, i2]; done) | (simp [p_of, bk, fl_eq, inP, c1, t_qn, i2] <;> omega)
      refine nv_cv (show fnd 0 = (p_of X (nI qn) w).1 from by rw [hp]) ?_
      exact mu_iret hx hb hr hlocks hS ((by rw [hp]; exact ⟨_, _, _, _, _, hP⟩)) dX3_of_129
  · refine lv_aload_n hx hb dX3_of_8 rfl (lv_at hl 0 rfl) ?_
    refine lv_iconst (v := nI (0)) hx hb dX3_of_9 (by decide) ?_
    refine mu_V (n := 1) (As := [.int (nI 0)]) (rest := []) ⟨hx, hb, hml, hown, hts⟩ (c_X3_finding l D ci G ka ad X T tq la tt z hI hG (0) hWX (by omega)) gX3_of_X3_finding rfl ⟨rfl, rfl⟩ (by decide +kernel) rfl ⟨Nat.le_of_ble_eq_true rfl, Nat.le_of_ble_eq_true rfl⟩ hE (en_S hGA hs0 hS) hK hP (ci := 3) (q0 := 0) rfl rfl hl.1 rfl (Nat.le_of_ble_eq_true rfl) dX3_of_10 ⟨Nat.zero_le _, Nat.zero_le _⟩ hS (fun _ h => h) (fun H1 locs hz hfr hB hS => ?_)
    obtain ⟨T, tq, la, tt, z, hP⟩ := hB
    generalize H1 = H at hP hS ⊢
    have hD : va_D (aX ad) (wX ci ad (toF X (inc X.2.2.2.1 0)) T tq la tt z) := wX_D hI
    have hp : p_of X q w = (fnd 0, toF X (inc X.2.2.2.1 0)) := by first | (simp [p_of, bk, fl_eq, inP, c1]; done) | (simp [p_of, bk, fl_eq, inP, c1] <;> omega)
    refine nv_cv (show fnd 0 = (p_of X q w).1 from by rw [hp]) ?_
    exact mu_iret hx hb hr hlocks hS ((by rw [hp]; exact ⟨_, _, _, _, _, hP⟩)) dX3_of_13

set_option maxHeartbeats 4000000 in
set_option maxRecDepth 100000 in
/-- X3_swap -/
theorem c_X3_swap (l : Launch) (D : va_G) (ci : Nat → ClassId) (G : Nat → Prop) (ka : Nat) (ad : Nat → Nat) (X : AS) (T : OS) (tq la tt : Nat → Int32) (z : Nat → Nat → Int32) (hI : injA ad 48) (hG : ∀ k, k < 48 → G (ad k)) (x y : Int32) (hWX : WFX X) : Met l yX3_swap wsX3_swap ({ frames := 2, cells := 0, slots := 0, locals := 43 } : Room) (va_Pc [.ref (ad 0), .int (x), .int (y)] (ro_B D (tyL ci) (wX ci ad X T tq la tt z) (en D (ci 0) G ka))) (mu_Q (aX ad) (some (.int ((p_swap X x y).1))) (fun H => ∃ T tq la tt z, va_P D vwCl (wX ci ad ((p_swap X x y).2) T tq la tt z) H)) 0 0 (aX ad) := by
  refine mu_Met (cc := cX3_swap) (maxL := 3) (ret := (some .int)) [(0, .ref (ad 0)), (1, .int (x)), (2, .int (y))] (wX_D hI) (by decide) rfl (Nat.le_of_ble_eq_true rfl) rfl ?_
  intro p e s m below meth c H locs hx hb hml hr hlocks hts hown hP hK hs0 hD hS ls hl
  have hown : s.vm.findClass RX3 = some m.cls := hown
  have hinX0 : ∀ w ∈ wsX00, w ∈ wsX3_swap := by decide +kernel
  have hinX3 : ∀ w ∈ wsX30, w ∈ wsX3_swap := by decide +kernel
  have hE := hE_en D (ci 0) G ka
  have hWF := hWX.w
  have f_n := hWF.n
  have f_e := hWX.e
  have f_tl := hWX.t
  have hGA := aX_G hG
  have hWK := hWX.k
  refine lv_aload_n hx hb dX3_swap_0 rfl (lv_at hl 0 rfl) ?_
  refine lv_iload_n hx hb dX3_swap_1 rfl (lv_at hl 1 rfl) ?_
  refine lv_iload_n hx hb dX3_swap_2 rfl (lv_at hl 2 rfl) ?_
  refine ro_V (n := 2) (As := [.int (x), .int (y)]) (rest := []) ⟨hx, hb, hml, hown, hts⟩ (c_X3_isPair l D ci G ka ad X T tq la tt z (x) (y) hWX) gX3_swap_X3_isPair rfl ⟨rfl, rfl⟩ (by decide +kernel) rfl ⟨Nat.le_of_ble_eq_true rfl, Nat.le_of_ble_eq_true rfl⟩ hE (en_S hGA hs0 hS) hK hP (ci := 3) (q0 := 0) rfl rfl hl.1 rfl (Nat.le_of_ble_eq_true rfl) dX3_swap_3 ⟨Nat.zero_le _, Nat.zero_le _⟩ ?_
  refine nv_ifne_b (tgt := 15) hx hb dX3_swap_6 (by decide) (fun c1 => ?_) (fun c1 => ?_)
  · obtain ⟨xn, yn, h_xn, h_yn, h_ne, rfl, rfl⟩ := pair_ex c1 f_n
    have t_xn : tn (nI xn) = xn := tn_nI (by omega)
    have t_yn : tn (nI yn) = yn := tn_nI (by omega)
    refine lv_aload_n hx hb dX3_swap_15 rfl (lv_at hl 0 rfl) ?_
    refine va_get (D := D) (ci := 3) (v := .ref (ad 5)) (C := RX3) (T := TX3) (N := 9) hx hb hts hinX3 hown hK hP 0 rfl rfl 0 (by decide) (hts (.fieldLink RX3 10 "OneShort" "orchestra" "LOneShort$Orchestra;") (List.mem_of_getElem? (i := 1) rfl)) (fun _ h9 => h9) rfl dX3_swap_16 ?_
    refine va_get (D := D) (ci := 0) (v := .ref (ad 8)) (C := RX0) (T := TX0) (N := 13) hx hb hts hinX0 hown hK hP 5 rfl rfl 2 (by decide) (hts (.fieldLink RX3 87 "OneShort$Orchestra" "seat" "[I") (List.mem_of_getElem? (i := 2) rfl)) (fun _ h9 => h9) rfl dX3_swap_19 ?_
    refine lv_iload_n hx hb dX3_swap_22 rfl (lv_at hl 1 rfl) ?_
    have f2 := hWF.f2 (xn)
    refine nv_iald (v := nI (X.1 2 (xn))) hx hb hK hP 8 0 rfl rfl (by omega) (by decide) rfl dX3_swap_23 ?_
    refine lv_aload_n hx hb dX3_swap_24 rfl (lv_at hl 0 rfl) ?_
    refine va_get (D := D) (ci := 3) (v := .ref (ad 5)) (C := RX3) (T := TX3) (N := 9) hx hb hts hinX3 hown hK hP 0 rfl rfl 0 (by decide) (hts (.fieldLink RX3 10 "OneShort" "orchestra" "LOneShort$Orchestra;") (List.mem_of_getElem? (i := 1) rfl)) (fun _ h9 => h9) rfl dX3_swap_25 ?_
    refine va_get (D := D) (ci := 0) (v := .ref (ad 8)) (C := RX0) (T := TX0) (N := 13) hx hb hts hinX0 hown hK hP 5 rfl rfl 2 (by decide) (hts (.fieldLink RX3 87 "OneShort$Orchestra" "seat" "[I") (List.mem_of_getElem? (i := 2) rfl)) (fun _ h9 => h9) rfl dX3_swap_28 ?_
    refine lv_iload_n hx hb dX3_swap_31 rfl (lv_at hl 2 rfl) ?_
    have f3 := hWF.f2 (yn)
    refine nv_iald (v := nI (X.1 2 (yn))) hx hb hK hP 8 0 rfl rfl (by omega) (by decide) rfl dX3_swap_32 ?_
    refine nv_icmp_ne (tgt := 38) hx hb (by omega) (by omega) dX3_swap_33 (by decide) (fun c4 => ?_) (fun c4 => ?_)
    · refine lv_aload_n hx hb dX3_swap_38 rfl (lv_at hl 0 rfl) ?_
      refine va_get (D := D) (ci := 3) (v := .ref (ad 5)) (C := RX3) (T := TX3) (N := 9) hx hb hts hinX3 hown hK hP 0 rfl rfl 0 (by decide) (hts (.fieldLink RX3 10 "OneShort" "orchestra" "LOneShort$Orchestra;") (List.mem_of_getElem? (i := 1) rfl)) (fun _ h9 => h9) rfl dX3_swap_39 ?_
      refine lv_iload_n hx hb dX3_swap_42 rfl (lv_at hl 1 rfl) ?_
      refine lv_iload_n hx hb dX3_swap_43 rfl (lv_at hl 2 rfl) ?_
      refine mu_V (n := 2) (As := [.int (nI xn), .int (nI yn)]) (rest := []) ⟨hx, hb, hml, hown, hts⟩ (c_X0_exchangeSeats l D ci G ka (sh ad 5) X.1 (z 0) (z 1) (z 2) (injA_sh hI (by decide)) (G_sh hG (by decide)) (xn) (yn) hWF (by omega) (by omega)) gX3_swap_X0_exchangeSeats rfl ⟨rfl, rfl⟩ (by decide +kernel) rfl ⟨Nat.le_of_ble_eq_true rfl, Nat.le_of_ble_eq_true rfl⟩ hE (en_S hGA hs0 hS) hK (wX_s5 hP) (ci := 0) (q0 := 0) rfl rfl hl.1 rfl (Nat.le_of_ble_eq_true rfl) dX3_swap_44 ⟨Nat.zero_le _, Nat.zero_le _⟩ hS (fun q h => aR_X (by decide) q (aO_sh q h)) (fun H1 locs hz hfr hB hS => ?_)
      have hP := wX_j5 hI hP hfr hB
      obtain ⟨z, hP⟩ : ∃ z, va_P D vwCl (wX ci ad (toS X (st (st X.1 2 xn (X.1 2 yn)) 2 yn (X.1 2 xn))) T tq la tt z) H1 := ⟨_, hP⟩
      generalize H1 = H at hP hS ⊢
      have hD : va_D (aX ad) (wX ci ad (toS X (st (st X.1 2 xn (X.1 2 yn)) 2 yn (X.1 2 xn))) T tq la tt z) := wX_D hI
      refine lv_iconst (v := nI (1)) hx hb dX3_swap_47 (by decide) ?_
      have hp : p_swap X (nI xn) (nI yn) = (nI (1), toS X (st (st X.1 2 xn (X.1 2 yn)) 2 yn (X.1 2 xn))) := by first | (simp [p_swap, swS, bk, fl_eq, inP, c1, c4, t_xn, t_yn]; done) | (simp [p_swap, swS, bk, fl_eq, inP, c1, c4, t_xn, t_yn] <;> omega)
      refine nv_cv (show nI (1) = (p_swap X (nI xn) (nI yn)).1 from by rw [hp]) ?_
      exact mu_iret hx hb hr hlocks hS ((by rw [hp]; exact ⟨_, _, _, _, _, hP⟩)) dX3_swap_48
    · refine lv_iconst (v := nI (0)) hx hb dX3_swap_36 (by decide) ?_
      have hp : p_swap X (nI xn) (nI yn) = (nI (0), X) := by first | (simp [p_swap, swS, bk, fl_eq, inP, c1, c4, t_xn, t_yn]; done) | (simp [p_swap, swS, bk, fl_eq, inP, c1, c4, t_xn, t_yn] <;> omega)
      refine nv_cv (show nI (0) = (p_swap X (nI xn) (nI yn)).1 from by rw [hp]) ?_
      exact mu_iret hx hb hr hlocks hS ((by rw [hp]; exact ⟨_, _, _, _, _, hP⟩)) dX3_swap_37
  · refine lv_aload_n hx hb dX3_swap_9 rfl (lv_at hl 0 rfl) ?_
    refine lv_iconst (v := nI (0)) hx hb dX3_swap_10 (by decide) ?_
    refine mu_V (n := 1) (As := [.int (nI 0)]) (rest := []) ⟨hx, hb, hml, hown, hts⟩ (c_X3_finding l D ci G ka ad X T tq la tt z hI hG (0) hWX (by omega)) gX3_swap_X3_finding rfl ⟨rfl, rfl⟩ (by decide +kernel) rfl ⟨Nat.le_of_ble_eq_true rfl, Nat.le_of_ble_eq_true rfl⟩ hE (en_S hGA hs0 hS) hK hP (ci := 3) (q0 := 0) rfl rfl hl.1 rfl (Nat.le_of_ble_eq_true rfl) dX3_swap_11 ⟨Nat.zero_le _, Nat.zero_le _⟩ hS (fun _ h => h) (fun H1 locs hz hfr hB hS => ?_)
    obtain ⟨T, tq, la, tt, z, hP⟩ := hB
    generalize H1 = H at hP hS ⊢
    have hD : va_D (aX ad) (wX ci ad (toF X (inc X.2.2.2.1 0)) T tq la tt z) := wX_D hI
    have hp : p_swap X x y = (fnd 0, toF X (inc X.2.2.2.1 0)) := by first | (simp [p_swap, swS, bk, fl_eq, inP, c1]; done) | (simp [p_swap, swS, bk, fl_eq, inP, c1] <;> omega)
    refine nv_cv (show fnd 0 = (p_swap X x y).1 from by rw [hp]) ?_
    exact mu_iret hx hb hr hlocks hS ((by rw [hp]; exact ⟨_, _, _, _, _, hP⟩)) dX3_swap_14

set_option maxHeartbeats 4000000 in
set_option maxRecDepth 100000 in
/-- X3_now -/
theorem c_X3_now (l : Launch) (D : va_G) (ci : Nat → ClassId) (G : Nat → Prop) (ka : Nat) (ad : Nat → Nat) (X : AS) (T : OS) (tq la tt : Nat → Int32) (z : Nat → Nat → Int32) (hI : injA ad 48) (hG : ∀ k, k < 48 → G (ad k)) (w : Int32) (hWX : WFX X) : Met l yX3_now wsX3_now ({ frames := 6, cells := 0, slots := 0, locals := 136 } : Room) (va_Pc [.ref (ad 0), .int (w)] (ro_B D (tyL ci) (wX ci ad X T tq la tt z) (en D (ci 0) G ka))) (mu_Q (aX ad) (some (.int ((p_now X w).1))) (fun H => ∃ T tq la tt z, va_P D vwCl (wX ci ad ((p_now X w).2) T tq la tt z) H)) 0 0 (aX ad) := by
  refine mu_Met (cc := cX3_now) (maxL := 2) (ret := (some .int)) [(0, .ref (ad 0)), (1, .int (w))] (wX_D hI) (by decide) rfl (Nat.le_of_ble_eq_true rfl) rfl ?_
  intro p e s m below meth c H locs hx hb hml hr hlocks hts hown hP hK hs0 hD hS ls hl
  have hown : s.vm.findClass RX3 = some m.cls := hown
  have hinX0 : ∀ w ∈ wsX00, w ∈ wsX3_now := by decide +kernel
  have hinX3 : ∀ w ∈ wsX30, w ∈ wsX3_now := by decide +kernel
  have hE := hE_en D (ci 0) G ka
  have hWF := hWX.w
  have f_n := hWF.n
  have f_e := hWX.e
  have f_tl := hWX.t
  have hGA := aX_G hG
  have hWK := hWX.k
  refine lv_iload_n hx hb dX3_now_0 rfl (lv_at hl 1 rfl) ?_
  rcases Bool.eq_false_or_eq_true (inN w 5) with i1 | i1
  · obtain ⟨wn, h_wn, rfl⟩ := in_ex i1 (by decide)
    rcases (show wn = 0 ∨ wn = 1 ∨ wn = 2 ∨ wn = 3 ∨ wn = 4 by omega) with rfl | rfl | rfl | rfl | rfl
    · have t_w : tn (nI 0) = 0 := tn_nI (by decide)
      refine lv_tableIn (x := nI 0) (off := 35) (tgt := 36) hx hb dX3_now_1 (by decide) (by decide) (by decide) (by decide) ?_
      refine lv_aload_n hx hb dX3_now_36 rfl (lv_at hl 0 rfl) ?_
      refine va_get (D := D) (ci := 3) (v := .ref (ad 5)) (C := RX3) (T := TX3) (N := 9) hx hb hts hinX3 hown hK hP 0 rfl rfl 0 (by decide) (hts (.fieldLink RX3 10 "OneShort" "orchestra" "LOneShort$Orchestra;") (List.mem_of_getElem? (i := 1) rfl)) (fun _ h9 => h9) rfl dX3_now_37 ?_
      refine va_get (D := D) (ci := 0) (v := .int (nI (X.1 8 0))) (C := RX0) (T := TX0) (N := 13) hx hb hts hinX0 hown hK hP 5 rfl rfl 8 (by decide) (hts (.fieldLink RX3 132 "OneShort$Orchestra" "evening" "I") (List.mem_of_getElem? (i := 2) rfl)) (fun _ h9 => h9) rfl dX3_now_40 ?_
      have hp : p_now X (nI 0) = (nI (X.1 8 0), X) := by first | (simp [p_now, sNerve, sLoud, bk, fl_eq, inP, i1, t_w]; done) | (simp [p_now, sNerve, sLoud, bk, fl_eq, inP, i1, t_w] <;> omega)
      refine nv_cv (show nI (X.1 8 0) = (p_now X (nI 0)).1 from by rw [hp]) ?_
      exact mu_iret hx hb hr hlocks hS ((by rw [hp]; exact ⟨_, _, _, _, _, hP⟩)) dX3_now_43
    · have t_w : tn (nI 1) = 1 := tn_nI (by decide)
      refine lv_tableIn (x := nI 1) (off := 43) (tgt := 44) hx hb dX3_now_1 (by decide) (by decide) (by decide) (by decide) ?_
      refine lv_aload_n hx hb dX3_now_44 rfl (lv_at hl 0 rfl) ?_
      refine va_get (D := D) (ci := 3) (v := .ref (ad 5)) (C := RX3) (T := TX3) (N := 9) hx hb hts hinX3 hown hK hP 0 rfl rfl 0 (by decide) (hts (.fieldLink RX3 10 "OneShort" "orchestra" "LOneShort$Orchestra;") (List.mem_of_getElem? (i := 1) rfl)) (fun _ h9 => h9) rfl dX3_now_45 ?_
      refine ro_V (n := 0) (As := []) (rest := []) ⟨hx, hb, hml, hown, hts⟩ (c_X0_allNerve l D ci G ka (sh ad 5) X.1 (z 0) (z 1) (z 2)  hWF) gX3_now_X0_allNerve rfl ⟨rfl, rfl⟩ (by decide +kernel) rfl ⟨Nat.le_of_ble_eq_true rfl, Nat.le_of_ble_eq_true rfl⟩ hE (en_S hGA hs0 hS) hK (wX_s5 hP) (ci := 0) (q0 := 0) rfl rfl hl.1 rfl (Nat.le_of_ble_eq_true rfl) dX3_now_48 ⟨Nat.zero_le _, Nat.zero_le _⟩ ?_
      have hp : p_now X (nI 1) = (nI (sumTo (fun q => X.1 5 q) (X.1 7 0)), X) := by first | (simp [p_now, sNerve, sLoud, bk, fl_eq, inP, i1, t_w]; done) | (simp [p_now, sNerve, sLoud, bk, fl_eq, inP, i1, t_w] <;> omega)
      refine nv_cv (show nI (sumTo (fun q => X.1 5 q) (X.1 7 0)) = (p_now X (nI 1)).1 from by rw [hp]) ?_
      exact mu_iret hx hb hr hlocks hS ((by rw [hp]; exact ⟨_, _, _, _, _, hP⟩)) dX3_now_51
    · have t_w : tn (nI 2) = 2 := tn_nI (by decide)
      refine lv_tableIn (x := nI 2) (off := 51) (tgt := 52) hx hb dX3_now_1 (by decide) (by decide) (by decide) (by decide) ?_
      refine lv_aload_n hx hb dX3_now_52 rfl (lv_at hl 0 rfl) ?_
      refine va_get (D := D) (ci := 3) (v := .ref (ad 5)) (C := RX3) (T := TX3) (N := 9) hx hb hts hinX3 hown hK hP 0 rfl rfl 0 (by decide) (hts (.fieldLink RX3 10 "OneShort" "orchestra" "LOneShort$Orchestra;") (List.mem_of_getElem? (i := 1) rfl)) (fun _ h9 => h9) rfl dX3_now_53 ?_
      refine ro_V (n := 0) (As := []) (rest := []) ⟨hx, hb, hml, hown, hts⟩ (c_X0_unnerved l D ci G ka (sh ad 5) X.1 (z 0) (z 1) (z 2)  hWF) gX3_now_X0_unnerved rfl ⟨rfl, rfl⟩ (by decide +kernel) rfl ⟨Nat.le_of_ble_eq_true rfl, Nat.le_of_ble_eq_true rfl⟩ hE (en_S hGA hs0 hS) hK (wX_s5 hP) (ci := 0) (q0 := 0) rfl rfl hl.1 rfl (Nat.le_of_ble_eq_true rfl) dX3_now_56 ⟨Nat.zero_le _, Nat.zero_le _⟩ ?_
      have f2 := unner_lt hWF
      have hp : p_now X (nI 2) = (nI (unner X.1), X) := by first | (simp [p_now, sNerve, sLoud, bk, fl_eq, inP, i1, t_w]; done) | (simp [p_now, sNerve, sLoud, bk, fl_eq, inP, i1, t_w] <;> omega)
      refine nv_cv (show nI (unner X.1) = (p_now X (nI 2)).1 from by rw [hp]) ?_
      exact mu_iret hx hb hr hlocks hS ((by rw [hp]; exact ⟨_, _, _, _, _, hP⟩)) dX3_now_59
    · have t_w : tn (nI 3) = 3 := tn_nI (by decide)
      refine lv_tableIn (x := nI 3) (off := 59) (tgt := 60) hx hb dX3_now_1 (by decide) (by decide) (by decide) (by decide) ?_
      refine lv_aload_n hx hb dX3_now_60 rfl (lv_at hl 0 rfl) ?_
      refine va_get (D := D) (ci := 3) (v := .ref (ad 5)) (C := RX3) (T := TX3) (N := 9) hx hb hts hinX3 hown hK hP 0 rfl rfl 0 (by decide) (hts (.fieldLink RX3 10 "OneShort" "orchestra" "LOneShort$Orchestra;") (List.mem_of_getElem? (i := 1) rfl)) (fun _ h9 => h9) rfl dX3_now_61 ?_
      refine ro_V (n := 0) (As := []) (rest := []) ⟨hx, hb, hml, hown, hts⟩ (c_X0_allLoud l D ci G ka (sh ad 5) X.1 (z 0) (z 1) (z 2)  hWF) gX3_now_X0_allLoud rfl ⟨rfl, rfl⟩ (by decide +kernel) rfl ⟨Nat.le_of_ble_eq_true rfl, Nat.le_of_ble_eq_true rfl⟩ hE (en_S hGA hs0 hS) hK (wX_s5 hP) (ci := 0) (q0 := 0) rfl rfl hl.1 rfl (Nat.le_of_ble_eq_true rfl) dX3_now_64 ⟨Nat.zero_le _, Nat.zero_le _⟩ ?_
      have hp : p_now X (nI 3) = (nI (sumTo (fun q => X.1 4 q) (X.1 7 0)), X) := by first | (simp [p_now, sNerve, sLoud, bk, fl_eq, inP, i1, t_w]; done) | (simp [p_now, sNerve, sLoud, bk, fl_eq, inP, i1, t_w] <;> omega)
      refine nv_cv (show nI (sumTo (fun q => X.1 4 q) (X.1 7 0)) = (p_now X (nI 3)).1 from by rw [hp]) ?_
      exact mu_iret hx hb hr hlocks hS ((by rw [hp]; exact ⟨_, _, _, _, _, hP⟩)) dX3_now_67
    · have t_w : tn (nI 4) = 4 := tn_nI (by decide)
      refine lv_tableIn (x := nI 4) (off := 67) (tgt := 68) hx hb dX3_now_1 (by decide) (by decide) (by decide) (by decide) ?_
      refine lv_aload_n hx hb dX3_now_68 rfl (lv_at hl 0 rfl) ?_
      refine va_get (D := D) (ci := 3) (v := .ref (ad 5)) (C := RX3) (T := TX3) (N := 9) hx hb hts hinX3 hown hK hP 0 rfl rfl 0 (by decide) (hts (.fieldLink RX3 10 "OneShort" "orchestra" "LOneShort$Orchestra;") (List.mem_of_getElem? (i := 1) rfl)) (fun _ h9 => h9) rfl dX3_now_69 ?_
      refine ro_V (n := 0) (As := []) (rest := []) ⟨hx, hb, hml, hown, hts⟩ (c_X0_allHeard l D ci G ka (sh ad 5) X.1 (z 0) (z 1) (z 2)  hWF) gX3_now_X0_allHeard rfl ⟨rfl, rfl⟩ (by decide +kernel) rfl ⟨Nat.le_of_ble_eq_true rfl, Nat.le_of_ble_eq_true rfl⟩ hE (en_S hGA hs0 hS) hK (wX_s5 hP) (ci := 0) (q0 := 0) rfl rfl hl.1 rfl (Nat.le_of_ble_eq_true rfl) dX3_now_72 ⟨Nat.zero_le _, Nat.zero_le _⟩ ?_
      have hp : p_now X (nI 4) = (nI (heardAll X.1), X) := by first | (simp [p_now, sNerve, sLoud, bk, fl_eq, inP, i1, t_w]; done) | (simp [p_now, sNerve, sLoud, bk, fl_eq, inP, i1, t_w] <;> omega)
      refine nv_cv (show nI (heardAll X.1) = (p_now X (nI 4)).1 from by rw [hp]) ?_
      exact mu_iret hx hb hr hlocks hS ((by rw [hp]; exact ⟨_, _, _, _, _, hP⟩)) dX3_now_75
  · refine lv_tableOut (tgt := 76) hx hb dX3_now_1 (tsw_out i1) (by decide) ?_
    refine lv_aload_n hx hb dX3_now_76 rfl (lv_at hl 0 rfl) ?_
    refine lv_iconst (v := nI (0)) hx hb dX3_now_77 (by decide) ?_
    refine mu_V (n := 1) (As := [.int (nI 0)]) (rest := []) ⟨hx, hb, hml, hown, hts⟩ (c_X3_finding l D ci G ka ad X T tq la tt z hI hG (0) hWX (by omega)) gX3_now_X3_finding rfl ⟨rfl, rfl⟩ (by decide +kernel) rfl ⟨Nat.le_of_ble_eq_true rfl, Nat.le_of_ble_eq_true rfl⟩ hE (en_S hGA hs0 hS) hK hP (ci := 3) (q0 := 0) rfl rfl hl.1 rfl (Nat.le_of_ble_eq_true rfl) dX3_now_78 ⟨Nat.zero_le _, Nat.zero_le _⟩ hS (fun _ h => h) (fun H1 locs hz hfr hB hS => ?_)
    obtain ⟨T, tq, la, tt, z, hP⟩ := hB
    generalize H1 = H at hP hS ⊢
    have hD : va_D (aX ad) (wX ci ad (toF X (inc X.2.2.2.1 0)) T tq la tt z) := wX_D hI
    have hp : p_now X w = (fnd 0, toF X (inc X.2.2.2.1 0)) := by first | (simp [p_now, sNerve, sLoud, bk, fl_eq, inP, i1]; done) | (simp [p_now, sNerve, sLoud, bk, fl_eq, inP, i1] <;> omega)
    refine nv_cv (show fnd 0 = (p_now X w).1 from by rw [hp]) ?_
    exact mu_iret hx hb hr hlocks hS ((by rw [hp]; exact ⟨_, _, _, _, _, hP⟩)) dX3_now_81

set_option maxHeartbeats 4000000 in
set_option maxRecDepth 100000 in
/-- X3_tear -/
theorem c_X3_tear (l : Launch) (D : va_G) (ci : Nat → ClassId) (G : Nat → Prop) (ka : Nat) (ad : Nat → Nat) (X : AS) (T : OS) (tq la tt : Nat → Int32) (z : Nat → Nat → Int32) (hI : injA ad 48) (hG : ∀ k, k < 48 → G (ad k))  (hWX : WFX X) : Met l yX3_tear wsX3_tear ({ frames := 0, cells := 0, slots := 0, locals := 0 } : Room) (va_Pc [.ref (ad 0)] (ro_B D (tyL ci) (wX ci ad X T tq la tt z) (en D (ci 0) G ka))) (mu_Q (aX ad) (some (.int ((p_tear X).1))) (fun H => ∃ T tq la tt z, va_P D vwCl (wX ci ad ((p_tear X).2) T tq la tt z) H)) 0 0 (aX ad) := by
  refine mu_Met (cc := cX3_tear) (maxL := 2) (ret := (some .int)) [(0, .ref (ad 0))] (wX_D hI) (by decide) rfl (Nat.le_of_ble_eq_true rfl) rfl ?_
  intro p e s m below meth c H locs hx hb hml hr hlocks hts hown hP hK hs0 hD hS ls hl
  have hown : s.vm.findClass RX3 = some m.cls := hown
  have hinX3 : ∀ w ∈ wsX30, w ∈ wsX3_tear := by decide +kernel
  have hE := hE_en D (ci 0) G ka
  have hWF := hWX.w
  have f_n := hWF.n
  have f_e := hWX.e
  have f_tl := hWX.t
  have hGA := aX_G hG
  have hWK := hWX.k
  refine lv_aload_n hx hb dX3_tear_0 rfl (lv_at hl 0 rfl) ?_
  refine va_get (D := D) (ci := 3) (v := .int (bI (X.2.2.1))) (C := RX3) (T := TX3) (N := 9) hx hb hts hinX3 hown hK hP 0 rfl rfl 3 (by decide) (hts (.fieldLink RX3 22 "OneShort" "isKept" "Z") (List.mem_of_getElem? (i := 1) rfl)) (fun _ h9 => h9) rfl dX3_tear_1 ?_
  refine nv_ifeq_b (tgt := 11) hx hb dX3_tear_4 (by decide) (fun c1 => ?_) (fun c1 => ?_)
  · refine lv_iconst (v := nI (0)) hx hb dX3_tear_11 (by decide) ?_
    refine lv_istore_n (lv' := [(1, .int (nI 0)), (0, .ref (ad 0))]) hx hb dX3_tear_12 rfl hl (by decide) rfl (fun ls hl => ?_)
    refine lv_aload_n hx hb dX3_tear_13 rfl (lv_at hl 1 rfl) ?_
    refine lv_iconst (v := nI (0)) hx hb dX3_tear_14 (by decide) ?_
    refine nv_cv (show nI (0) = bI (false) from by rfl) ?_
    refine va_put (D := D) (ci := 3) (v := .int (bI (false))) (ty := .boolean) (C := RX3) (T := TX3) (N := 9) hx hb hts hinX3 tyX3 tyX3_ok nmX3 hown hK hP hD hS 0 rfl rfl 3 (by decide) (hts (.fieldLink RX3 22 "OneShort" "isKept" "Z") (List.mem_of_getElem? (i := 1) rfl)) (fun _ h9 => h9) rfl (by decide +kernel) (bI_nar _) (bI_fit _) (Nat.le_of_ble_eq_true rfl) dX3_tear_15 (fun H locs hP hD hS => ?_)
    have hP : va_P D vwCl (wX ci ad (toK X X.2.1 false) T tq la tt z) H := va_P.re (wX_kp ci ad X T tq la tt z (false)) hP
    have hD : va_D (aX ad) (wX ci ad (toK X X.2.1 false) T tq la tt z) := wX_D hI
    refine lv_iload_n hx hb dX3_tear_18 rfl (lv_at hl 0 rfl) ?_
    have hp : p_tear X = (nI (0), toK X X.2.1 false) := by simp [p_tear, c1]
    refine nv_cv (show nI (0) = (p_tear X).1 from by rw [hp]) ?_
    exact mu_iret hx hb hr hlocks hS ((by rw [hp]; exact ⟨_, _, _, _, _, hP⟩)) dX3_tear_19
  · refine lv_iconst (v := nI (1)) hx hb dX3_tear_7 (by decide) ?_
    refine lv_goto (tgt := 12) hx hb dX3_tear_8 (by decide) ?_
    refine lv_istore_n (lv' := [(1, .int (nI 1)), (0, .ref (ad 0))]) hx hb dX3_tear_12 rfl hl (by decide) rfl (fun ls hl => ?_)
    refine lv_aload_n hx hb dX3_tear_13 rfl (lv_at hl 1 rfl) ?_
    refine lv_iconst (v := nI (0)) hx hb dX3_tear_14 (by decide) ?_
    refine nv_cv (show nI (0) = bI (false) from by rfl) ?_
    refine va_put (D := D) (ci := 3) (v := .int (bI (false))) (ty := .boolean) (C := RX3) (T := TX3) (N := 9) hx hb hts hinX3 tyX3 tyX3_ok nmX3 hown hK hP hD hS 0 rfl rfl 3 (by decide) (hts (.fieldLink RX3 22 "OneShort" "isKept" "Z") (List.mem_of_getElem? (i := 1) rfl)) (fun _ h9 => h9) rfl (by decide +kernel) (bI_nar _) (bI_fit _) (Nat.le_of_ble_eq_true rfl) dX3_tear_15 (fun H locs hP hD hS => ?_)
    have hP : va_P D vwCl (wX ci ad (toK X X.2.1 false) T tq la tt z) H := va_P.re (wX_kp ci ad X T tq la tt z (false)) hP
    have hD : va_D (aX ad) (wX ci ad (toK X X.2.1 false) T tq la tt z) := wX_D hI
    refine lv_iload_n hx hb dX3_tear_18 rfl (lv_at hl 0 rfl) ?_
    have hp : p_tear X = (nI (1), toK X X.2.1 false) := by simp [p_tear, c1]
    refine nv_cv (show nI (1) = (p_tear X).1 from by rw [hp]) ?_
    exact mu_iret hx hb hr hlocks hS ((by rw [hp]; exact ⟨_, _, _, _, _, hP⟩)) dX3_tear_19

set_option maxHeartbeats 4000000 in
set_option maxRecDepth 100000 in
/-- X3_image -/
theorem c_X3_image (l : Launch) (D : va_G) (ci : Nat → ClassId) (G : Nat → Prop) (ka : Nat) (ad : Nat → Nat) (X : AS) (T : OS) (tq la tt : Nat → Int32) (z : Nat → Nat → Int32) (hI : injA ad 48) (hG : ∀ k, k < 48 → G (ad k))  (hWX : WFX X) : Met l yX3_image wsX3_image ({ frames := 2, cells := 0, slots := 0, locals := 81 } : Room) (va_Pc [.ref (ad 0)] (ro_B D (tyL ci) (wX ci ad X T tq la tt z) (en D (ci 0) G ka))) (mu_Q (aX ad) (some (.int ((p_image X).1))) (fun H => ∃ T tq la tt z, va_P D vwCl (wX ci ad ((p_image X).2) T tq la tt z) H)) 0 0 (aX ad) := by
  refine mu_Met (cc := cX3_image) (maxL := 1) (ret := (some .int)) [(0, .ref (ad 0))] (wX_D hI) (by decide) rfl (Nat.le_of_ble_eq_true rfl) rfl ?_
  intro p e s m below meth c H locs hx hb hml hr hlocks hts hown hP hK hs0 hD hS ls hl
  have hown : s.vm.findClass RX3 = some m.cls := hown
  have hinX3 : ∀ w ∈ wsX30, w ∈ wsX3_image := by decide +kernel
  have hE := hE_en D (ci 0) G ka
  have hWF := hWX.w
  have f_n := hWF.n
  have f_e := hWX.e
  have f_tl := hWX.t
  have hGA := aX_G hG
  have hWK := hWX.k
  refine lv_aload_n hx hb dX3_image_0 rfl (lv_at hl 0 rfl) ?_
  refine va_get (D := D) (ci := 3) (v := .ref (ad 27)) (C := RX3) (T := TX3) (N := 9) hx hb hts hinX3 hown hK hP 0 rfl rfl 2 (by decide) (hts (.fieldLink RX3 19 "OneShort" "kept" "LOneShort$Orchestra;") (List.mem_of_getElem? (i := 1) rfl)) (fun _ h9 => h9) rfl dX3_image_1 ?_
  refine lv_aload_n hx hb dX3_image_4 rfl (lv_at hl 0 rfl) ?_
  refine va_get (D := D) (ci := 3) (v := .ref (ad 5)) (C := RX3) (T := TX3) (N := 9) hx hb hts hinX3 hown hK hP 0 rfl rfl 0 (by decide) (hts (.fieldLink RX3 10 "OneShort" "orchestra" "LOneShort$Orchestra;") (List.mem_of_getElem? (i := 2) rfl)) (fun _ h9 => h9) rfl dX3_image_5 ?_
  refine mu_V (n := 1) (As := [.ref (ad 5)]) (rest := []) ⟨hx, hb, hml, hown, hts⟩ (c_X0_become l D ci G ka (sh ad 27) X.2.1 (z 6) (z 7) (z 8) (sh ad 5) X.1 (z 0) (z 1) (z 2) (wX_D2 hI (by decide) (by decide) (by decide) _ _ _ _ _ _ _ _) (aO2_G (G_sh hG (by decide)) (G_sh hG (by decide)))  ) gX3_image_X0_become rfl ⟨rfl, rfl⟩ (by decide +kernel) rfl ⟨Nat.le_of_ble_eq_true rfl, Nat.le_of_ble_eq_true rfl⟩ hE (en_S hGA hs0 hS) hK (va_P.app (wX_s27 hP) (wX_s5 hP)) (ci := 0) (q0 := 0) rfl rfl hl.1 rfl (Nat.le_of_ble_eq_true rfl) dX3_image_8 ⟨Nat.zero_le _, Nat.zero_le _⟩ hS (fun q h => h.elim (fun h => aR_X (by decide) q (aO_sh q h)) (fun h => aR_X (by decide) q (aO_sh q h))) (fun H1 locs hz hfr hB hS => ?_)
  have hP := wX_j27_5 hI hP hfr hB
  generalize H1 = H at hP hS ⊢
  have hD : va_D (aX ad) (wX ci ad (toK X X.1 X.2.2.1) T tq la tt z) := wX_D hI
  refine lv_aload_n hx hb dX3_image_11 rfl (lv_at hl 0 rfl) ?_
  refine lv_iconst (v := nI (1)) hx hb dX3_image_12 (by decide) ?_
  refine nv_cv (show nI (1) = bI (true) from by rfl) ?_
  refine va_put (D := D) (ci := 3) (v := .int (bI (true))) (ty := .boolean) (C := RX3) (T := TX3) (N := 9) hx hb hts hinX3 tyX3 tyX3_ok nmX3 hown hK hP hD hS 0 rfl rfl 3 (by decide) (hts (.fieldLink RX3 22 "OneShort" "isKept" "Z") (List.mem_of_getElem? (i := 3) rfl)) (fun _ h9 => h9) rfl (by decide +kernel) (bI_nar _) (bI_fit _) (Nat.le_of_ble_eq_true rfl) dX3_image_13 (fun H locs hP hD hS => ?_)
  have hP : va_P D vwCl (wX ci ad (toK (toK X X.1 X.2.2.1) X.1 true) T tq la tt z) H := va_P.re (wX_kp ci ad (toK X X.1 X.2.2.1) T tq la tt z (true)) hP
  have hD : va_D (aX ad) (wX ci ad (toK (toK X X.1 X.2.2.1) X.1 true) T tq la tt z) := wX_D hI
  refine lv_iconst (v := nI (1)) hx hb dX3_image_16 (by decide) ?_
  have hp : p_image X = (nI (1), toK (toK X X.1 X.2.2.1) X.1 true) := rfl
  refine nv_cv (show nI (1) = (p_image X).1 from by rw [hp]) ?_
  exact mu_iret hx hb hr hlocks hS ((by rw [hp]; exact ⟨_, _, _, _, _, hP⟩)) dX3_image_17

set_option maxHeartbeats 4000000 in
set_option maxRecDepth 100000 in
/-- X3_undo -/
theorem c_X3_undo (l : Launch) (D : va_G) (ci : Nat → ClassId) (G : Nat → Prop) (ka : Nat) (ad : Nat → Nat) (X : AS) (T : OS) (tq la tt : Nat → Int32) (z : Nat → Nat → Int32) (hI : injA ad 48) (hG : ∀ k, k < 48 → G (ad k))  (hWX : WFX X) : Met l yX3_undo wsX3_undo ({ frames := 2, cells := 0, slots := 0, locals := 81 } : Room) (va_Pc [.ref (ad 0)] (ro_B D (tyL ci) (wX ci ad X T tq la tt z) (en D (ci 0) G ka))) (mu_Q (aX ad) (some (.int ((p_undo X).1))) (fun H => ∃ T tq la tt z, va_P D vwCl (wX ci ad ((p_undo X).2) T tq la tt z) H)) 0 0 (aX ad) := by
  refine mu_Met (cc := cX3_undo) (maxL := 1) (ret := (some .int)) [(0, .ref (ad 0))] (wX_D hI) (by decide) rfl (Nat.le_of_ble_eq_true rfl) rfl ?_
  intro p e s m below meth c H locs hx hb hml hr hlocks hts hown hP hK hs0 hD hS ls hl
  have hown : s.vm.findClass RX3 = some m.cls := hown
  have hinX0 : ∀ w ∈ wsX00, w ∈ wsX3_undo := by decide +kernel
  have hinX3 : ∀ w ∈ wsX30, w ∈ wsX3_undo := by decide +kernel
  have hE := hE_en D (ci 0) G ka
  have hWF := hWX.w
  have f_n := hWF.n
  have f_e := hWX.e
  have f_tl := hWX.t
  have hGA := aX_G hG
  have hWK := hWX.k
  refine lv_aload_n hx hb dX3_undo_0 rfl (lv_at hl 0 rfl) ?_
  refine va_get (D := D) (ci := 3) (v := .int (bI (X.2.2.1))) (C := RX3) (T := TX3) (N := 9) hx hb hts hinX3 hown hK hP 0 rfl rfl 3 (by decide) (hts (.fieldLink RX3 22 "OneShort" "isKept" "Z") (List.mem_of_getElem? (i := 1) rfl)) (fun _ h9 => h9) rfl dX3_undo_1 ?_
  refine nv_ifne_b (tgt := 13) hx hb dX3_undo_4 (by decide) (fun c1 => ?_) (fun c1 => ?_)
  · refine lv_aload_n hx hb dX3_undo_13 rfl (lv_at hl 0 rfl) ?_
    refine va_get (D := D) (ci := 3) (v := .ref (ad 5)) (C := RX3) (T := TX3) (N := 9) hx hb hts hinX3 hown hK hP 0 rfl rfl 0 (by decide) (hts (.fieldLink RX3 10 "OneShort" "orchestra" "LOneShort$Orchestra;") (List.mem_of_getElem? (i := 2) rfl)) (fun _ h9 => h9) rfl dX3_undo_14 ?_
    refine lv_aload_n hx hb dX3_undo_17 rfl (lv_at hl 0 rfl) ?_
    refine va_get (D := D) (ci := 3) (v := .ref (ad 27)) (C := RX3) (T := TX3) (N := 9) hx hb hts hinX3 hown hK hP 0 rfl rfl 2 (by decide) (hts (.fieldLink RX3 19 "OneShort" "kept" "LOneShort$Orchestra;") (List.mem_of_getElem? (i := 3) rfl)) (fun _ h9 => h9) rfl dX3_undo_18 ?_
    refine mu_V (n := 1) (As := [.ref (ad 27)]) (rest := []) ⟨hx, hb, hml, hown, hts⟩ (c_X0_become l D ci G ka (sh ad 5) X.1 (z 0) (z 1) (z 2) (sh ad 27) X.2.1 (z 6) (z 7) (z 8) (wX_D2 hI (by decide) (by decide) (by decide) _ _ _ _ _ _ _ _) (aO2_G (G_sh hG (by decide)) (G_sh hG (by decide)))  ) gX3_undo_X0_become rfl ⟨rfl, rfl⟩ (by decide +kernel) rfl ⟨Nat.le_of_ble_eq_true rfl, Nat.le_of_ble_eq_true rfl⟩ hE (en_S hGA hs0 hS) hK (va_P.app (wX_s5 hP) (wX_s27 hP)) (ci := 0) (q0 := 0) rfl rfl hl.1 rfl (Nat.le_of_ble_eq_true rfl) dX3_undo_21 ⟨Nat.zero_le _, Nat.zero_le _⟩ hS (fun q h => h.elim (fun h => aR_X (by decide) q (aO_sh q h)) (fun h => aR_X (by decide) q (aO_sh q h))) (fun H1 locs hz hfr hB hS => ?_)
    have hP := wX_j5_27 hI hP hfr hB
    generalize H1 = H at hP hS ⊢
    have hD : va_D (aX ad) (wX ci ad (toS X X.2.1) T tq la tt z) := wX_D hI
    refine lv_aload_n hx hb dX3_undo_24 rfl (lv_at hl 0 rfl) ?_
    refine va_get (D := D) (ci := 3) (v := .ref (ad 5)) (C := RX3) (T := TX3) (N := 9) hx hb hts hinX3 hown hK hP 0 rfl rfl 0 (by decide) (hts (.fieldLink RX3 10 "OneShort" "orchestra" "LOneShort$Orchestra;") (List.mem_of_getElem? (i := 2) rfl)) (fun _ h9 => h9) rfl dX3_undo_25 ?_
    refine va_get (D := D) (ci := 0) (v := .int (nI (X.2.1 8 0))) (C := RX0) (T := TX0) (N := 13) hx hb hts hinX0 hown hK hP 5 rfl rfl 8 (by decide) (hts (.fieldLink RX3 132 "OneShort$Orchestra" "evening" "I") (List.mem_of_getElem? (i := 4) rfl)) (fun _ h9 => h9) rfl dX3_undo_28 ?_
    have hp : p_undo X = (nI (X.2.1 8 0), toS X X.2.1) := by first | (simp [p_undo, bk, fl_eq, inP, c1]; done) | (simp [p_undo, bk, fl_eq, inP, c1] <;> omega)
    refine nv_cv (show nI (X.2.1 8 0) = (p_undo X).1 from by rw [hp]) ?_
    exact mu_iret hx hb hr hlocks hS ((by rw [hp]; exact ⟨_, _, _, _, _, hP⟩)) dX3_undo_31
  · refine lv_aload_n hx hb dX3_undo_7 rfl (lv_at hl 0 rfl) ?_
    refine lv_iconst (v := nI (3)) hx hb dX3_undo_8 (by decide) ?_
    refine mu_V (n := 1) (As := [.int (nI 3)]) (rest := []) ⟨hx, hb, hml, hown, hts⟩ (c_X3_finding l D ci G ka ad X T tq la tt z hI hG (3) hWX (by omega)) gX3_undo_X3_finding rfl ⟨rfl, rfl⟩ (by decide +kernel) rfl ⟨Nat.le_of_ble_eq_true rfl, Nat.le_of_ble_eq_true rfl⟩ hE (en_S hGA hs0 hS) hK hP (ci := 3) (q0 := 0) rfl rfl hl.1 rfl (Nat.le_of_ble_eq_true rfl) dX3_undo_9 ⟨Nat.zero_le _, Nat.zero_le _⟩ hS (fun _ h => h) (fun H1 locs hz hfr hB hS => ?_)
    obtain ⟨T, tq, la, tt, z, hP⟩ := hB
    generalize H1 = H at hP hS ⊢
    have hD : va_D (aX ad) (wX ci ad (toF X (inc X.2.2.2.1 3)) T tq la tt z) := wX_D hI
    have hp : p_undo X = (fnd 3, toF X (inc X.2.2.2.1 3)) := by first | (simp [p_undo, bk, fl_eq, inP, c1]; done) | (simp [p_undo, bk, fl_eq, inP, c1] <;> omega)
    refine nv_cv (show fnd 3 = (p_undo X).1 from by rw [hp]) ?_
    exact mu_iret hx hb hr hlocks hS ((by rw [hp]; exact ⟨_, _, _, _, _, hP⟩)) dX3_undo_12

set_option maxHeartbeats 4000000 in
set_option maxRecDepth 100000 in
/-- X3_seed -/
theorem c_X3_seed (l : Launch) (D : va_G) (ci : Nat → ClassId) (G : Nat → Prop) (ka : Nat) (ad : Nat → Nat) (X : AS) (T : OS) (tq la tt : Nat → Int32) (z : Nat → Nat → Int32) (hI : injA ad 48) (hG : ∀ k, k < 48 → G (ad k)) (v : Int32) (hWX : WFX X) : Met l yX3_seed wsX3_seed ({ frames := 0, cells := 0, slots := 0, locals := 0 } : Room) (va_Pc [.ref (ad 0), .int (v)] (ro_B D (tyL ci) (wX ci ad X T tq la tt z) (en D (ci 0) G ka))) (mu_Q (aX ad) (some (.int ((p_seed X v).1))) (fun H => ∃ T tq la tt z, va_P D vwCl (wX ci ad ((p_seed X v).2) T tq la tt z) H)) 0 0 (aX ad) := by
  refine mu_Met (cc := cX3_seed) (maxL := 3) (ret := (some .int)) [(0, .ref (ad 0)), (1, .int (v))] (wX_D hI) (by decide) rfl (Nat.le_of_ble_eq_true rfl) rfl ?_
  intro p e s m below meth c H locs hx hb hml hr hlocks hts hown hP hK hs0 hD hS ls hl
  have hown : s.vm.findClass RX3 = some m.cls := hown
  have hinX0 : ∀ w ∈ wsX00, w ∈ wsX3_seed := by decide +kernel
  have hinX3 : ∀ w ∈ wsX30, w ∈ wsX3_seed := by decide +kernel
  have hE := hE_en D (ci 0) G ka
  have hWF := hWX.w
  have f_n := hWF.n
  have f_e := hWX.e
  have f_tl := hWX.t
  have hGA := aX_G hG
  have hWK := hWX.k
  refine lv_aload_n hx hb dX3_seed_0 rfl (lv_at hl 0 rfl) ?_
  refine va_get (D := D) (ci := 3) (v := .ref (ad 5)) (C := RX3) (T := TX3) (N := 9) hx hb hts hinX3 hown hK hP 0 rfl rfl 0 (by decide) (hts (.fieldLink RX3 10 "OneShort" "orchestra" "LOneShort$Orchestra;") (List.mem_of_getElem? (i := 1) rfl)) (fun _ h9 => h9) rfl dX3_seed_1 ?_
  refine va_get (D := D) (ci := 0) (v := .int (nI (X.1 9 0))) (C := RX0) (T := TX0) (N := 13) hx hb hts hinX0 hown hK hP 5 rfl rfl 9 (by decide) (hts (.fieldLink RX3 193 "OneShort$Orchestra" "z" "I") (List.mem_of_getElem? (i := 2) rfl)) (fun _ h9 => h9) rfl dX3_seed_4 ?_
  refine lv_istore_n (lv' := [(2, .int (nI (X.1 9 0))), (0, .ref (ad 0)), (1, .int (v))]) hx hb dX3_seed_7 rfl hl (by decide) rfl (fun ls hl => ?_)
  refine lv_aload_n hx hb dX3_seed_8 rfl (lv_at hl 1 rfl) ?_
  refine va_get (D := D) (ci := 3) (v := .ref (ad 5)) (C := RX3) (T := TX3) (N := 9) hx hb hts hinX3 hown hK hP 0 rfl rfl 0 (by decide) (hts (.fieldLink RX3 10 "OneShort" "orchestra" "LOneShort$Orchestra;") (List.mem_of_getElem? (i := 1) rfl)) (fun _ h9 => h9) rfl dX3_seed_9 ?_
  refine lv_iload_n hx hb dX3_seed_12 rfl (lv_at hl 2 rfl) ?_
  refine nv_cv (show v = nI ((v).toBitVec.toNat) from (nI_bv (v)).symm) ?_
  refine va_put (D := D) (ci := 0) (v := .int (nI ((v).toBitVec.toNat))) (ty := .int) (C := RX0) (T := TX0) (N := 13) hx hb hts hinX0 tyX0 tyX0_ok nmX0 hown hK hP hD hS 5 rfl rfl 9 (by decide) (hts (.fieldLink RX3 193 "OneShort$Orchestra" "z" "I") (List.mem_of_getElem? (i := 2) rfl)) (fun _ h9 => h9) rfl (by decide +kernel) rfl rfl (Nat.le_of_ble_eq_true rfl) dX3_seed_13 (fun H locs hP hD hS => ?_)
  have hP : va_P D vwCl (wX ci ad (toS X (st X.1 9 0 ((v).toBitVec.toNat))) T tq la tt z) H := va_P.re (wX_oz ci ad X T tq la tt z ((v).toBitVec.toNat)) hP
  have hD : va_D (aX ad) (wX ci ad (toS X (st X.1 9 0 ((v).toBitVec.toNat))) T tq la tt z) := wX_D hI
  refine lv_iload_n hx hb dX3_seed_16 rfl (lv_at hl 0 rfl) ?_
  have hp : p_seed X v = (nI (X.1 9 0), toS X (st X.1 9 0 ((v).toBitVec.toNat))) := rfl
  refine nv_cv (show nI (X.1 9 0) = (p_seed X v).1 from by rw [hp]) ?_
  exact mu_iret hx hb hr hlocks hS ((by rw [hp]; exact ⟨_, _, _, _, _, hP⟩)) dX3_seed_17

set_option maxHeartbeats 4000000 in
set_option maxRecDepth 100000 in
/-- X3_wipe -/
theorem c_X3_wipe (l : Launch) (D : va_G) (ci : Nat → ClassId) (G : Nat → Prop) (ka : Nat) (ad : Nat → Nat) (X : AS) (T : OS) (tq la tt : Nat → Int32) (z : Nat → Nat → Int32) (hI : injA ad 48) (hG : ∀ k, k < 48 → G (ad k))  (hWX : WFX X) : Met l yX3_wipe wsX3_wipe ({ frames := 0, cells := 0, slots := 0, locals := 0 } : Room) (va_Pc [.ref (ad 0)] (ro_B D (tyL ci) (wX ci ad X T tq la tt z) (en D (ci 0) G ka))) (mu_Q (aX ad) (some (.int ((p_wipe X).1))) (fun H => ∃ T tq la tt z, va_P D vwCl (wX ci ad ((p_wipe X).2) T tq la tt z) H)) 0 0 (aX ad) := by
  refine mu_Met (cc := cX3_wipe) (maxL := 2) (ret := (some .int)) [(0, .ref (ad 0))] (wX_D hI) (by decide) rfl (Nat.le_of_ble_eq_true rfl) rfl ?_
  intro p e s m below meth c H locs hx hb hml hr hlocks hts hown hP hK hs0 hD hS ls hl
  have hown : s.vm.findClass RX3 = some m.cls := hown
  have hinX2 : ∀ w ∈ wsX20, w ∈ wsX3_wipe := by decide +kernel
  have hinX3 : ∀ w ∈ wsX30, w ∈ wsX3_wipe := by decide +kernel
  have hE := hE_en D (ci 0) G ka
  have hWF := hWX.w
  have f_n := hWF.n
  have f_e := hWX.e
  have f_tl := hWX.t
  have hGA := aX_G hG
  have hWK := hWX.k
  refine lv_aload_n hx hb dX3_wipe_0 rfl (lv_at hl 0 rfl) ?_
  refine va_get (D := D) (ci := 3) (v := .ref (ad 38)) (C := RX3) (T := TX3) (N := 9) hx hb hts hinX3 hown hK hP 0 rfl rfl 4 (by decide) (hts (.fieldLink RX3 29 "OneShort" "tape" "LOneShort$Tape;") (List.mem_of_getElem? (i := 1) rfl)) (fun _ h9 => h9) rfl dX3_wipe_1 ?_
  refine va_get (D := D) (ci := 2) (v := .int (nI (X.2.2.2.2.1))) (C := RX2) (T := TX2) (N := 6) hx hb hts hinX2 hown hK hP 38 rfl rfl 0 (by decide) (hts (.fieldLink RX3 196 "OneShort$Tape" "length" "I") (List.mem_of_getElem? (i := 2) rfl)) (fun _ h9 => h9) rfl dX3_wipe_4 ?_
  refine lv_istore_n (lv' := [(1, .int (nI (X.2.2.2.2.1))), (0, .ref (ad 0))]) hx hb dX3_wipe_7 rfl hl (by decide) rfl (fun ls hl => ?_)
  refine lv_aload_n hx hb dX3_wipe_8 rfl (lv_at hl 1 rfl) ?_
  refine va_get (D := D) (ci := 3) (v := .ref (ad 38)) (C := RX3) (T := TX3) (N := 9) hx hb hts hinX3 hown hK hP 0 rfl rfl 4 (by decide) (hts (.fieldLink RX3 29 "OneShort" "tape" "LOneShort$Tape;") (List.mem_of_getElem? (i := 1) rfl)) (fun _ h9 => h9) rfl dX3_wipe_9 ?_
  refine lv_iconst (v := nI (0)) hx hb dX3_wipe_12 (by decide) ?_
  refine va_put (D := D) (ci := 2) (v := .int (nI 0)) (ty := .int) (C := RX2) (T := TX2) (N := 6) hx hb hts hinX2 tyX2 tyX2_ok nmX2 hown hK hP hD hS 38 rfl rfl 0 (by decide) (hts (.fieldLink RX3 196 "OneShort$Tape" "length" "I") (List.mem_of_getElem? (i := 2) rfl)) (fun _ h9 => h9) rfl (by decide +kernel) rfl rfl (Nat.le_of_ble_eq_true rfl) dX3_wipe_13 (fun H locs hP hD hS => ?_)
  have hP : va_P D vwCl (wX ci ad (toL X (0)) T tq la tt z) H := va_P.re (wX_tl ci ad X T tq la tt z (0)) hP
  have hD : va_D (aX ad) (wX ci ad (toL X (0)) T tq la tt z) := wX_D hI
  refine lv_iload_n hx hb dX3_wipe_16 rfl (lv_at hl 0 rfl) ?_
  have hp : p_wipe X = (nI (X.2.2.2.2.1), toL X (0)) := rfl
  refine nv_cv (show nI (X.2.2.2.2.1) = (p_wipe X).1 from by rw [hp]) ?_
  exact mu_iret hx hb hr hlocks hS ((by rw [hp]; exact ⟨_, _, _, _, _, hP⟩)) dX3_wipe_17
