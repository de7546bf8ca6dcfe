/-! walks laid by program -/
set_option maxHeartbeats 4000000 in
set_option maxRecDepth 100000 in
/-- X3_bar -/
theorem c_X3_bar (l : Launch) (D : va_G) (ci : Nat → ClassId) (G : Nat → Prop) (ka : Nat) (ad : Nat → Nat) (X : AS) (T : OS) (tq la tt : Nat → Int32) (z : Nat → Nat → Int32) (hI : injA ad 48) (hG : ∀ k, k < 48 → G (ad k)) (b pv : Int32) (hWX : WFX X) : Met l yX3_bar wsX3_bar ({ frames := 1, cells := 0, slots := 0, locals := 21 } : Room) (va_Pc [.ref (ad 0), .int (b), .int (pv)] (ro_B D (tyL ci) (wX ci ad X T tq la tt z) (en D (ci 0) G ka))) (mu_Q (aX ad) (some (.int ((p_bar X b pv).1))) (fun H => ∃ T tq la tt z, va_P D vwCl (wX ci ad ((p_bar X b pv).2) T tq la tt z) H)) 0 0 (aX ad) := by
  refine mu_Met (cc := cX3_bar) (maxL := 4) (ret := (some .int)) [(0, .ref (ad 0)), (1, .int (b)), (2, .int (pv))] (wX_D hI) (by decide) rfl (Nat.le_of_ble_eq_true rfl) rfl ?_
  intro p e s m below meth c H locs hx hb hml hr hlocks hts hown hP hK hs0 hD hS ls hl
  have hown : s.vm.findClass RX3 = some m.cls := hown
  have hinX0 : ∀ w ∈ wsX00, w ∈ wsX3_bar := by decide +kernel
  have hinX3 : ∀ w ∈ wsX30, w ∈ wsX3_bar := by decide +kernel
  have hE := hE_en D (ci 0) G ka
  have hWF := hWX.w
  have f_n := hWF.n
  have f_e := hWX.e
  have f_tl := hWX.t
  have hGA := aX_G hG
  have hWK := hWX.k
  refine lv_aload_n hx hb dX3_bar_0 rfl (lv_at hl 0 rfl) ?_
  refine lv_iload_n hx hb dX3_bar_1 rfl (lv_at hl 1 rfl) ?_
  refine ro_V (n := 1) (As := [.int (b)]) (rest := []) ⟨hx, hb, hml, hown, hts⟩ (c_X3_isBar l D ci G ka ad X T tq la tt z (b) hWX) gX3_bar_X3_isBar rfl ⟨rfl, rfl⟩ (by decide +kernel) rfl ⟨Nat.le_of_ble_eq_true rfl, Nat.le_of_ble_eq_true rfl⟩ hE (en_S hGA hs0 hS) hK hP (ci := 3) (q0 := 0) rfl rfl hl.1 rfl (Nat.le_of_ble_eq_true rfl) dX3_bar_2 ⟨Nat.zero_le _, Nat.zero_le _⟩ ?_
  refine nv_ifeq_b (tgt := 18) hx hb dX3_bar_5 (by decide) (fun c1 => ?_) (fun c1 => ?_)
  · refine lv_aload_n hx hb dX3_bar_18 rfl (lv_at hl 0 rfl) ?_
    refine lv_iconst (v := nI (0)) hx hb dX3_bar_19 (by decide) ?_
    refine mu_V (n := 1) (As := [.int (nI 0)]) (rest := []) ⟨hx, hb, hml, hown, hts⟩ (c_X3_finding l D ci G ka ad X T tq la tt z hI hG (0) hWX (by omega)) gX3_bar_X3_finding rfl ⟨rfl, rfl⟩ (by decide +kernel) rfl ⟨Nat.le_of_ble_eq_true rfl, Nat.le_of_ble_eq_true rfl⟩ hE (en_S hGA hs0 hS) hK hP (ci := 3) (q0 := 0) rfl rfl hl.1 rfl (Nat.le_of_ble_eq_true rfl) dX3_bar_20 ⟨Nat.zero_le _, Nat.zero_le _⟩ hS (fun _ h => h) (fun H1 locs hz hfr hB hS => ?_)
    obtain ⟨T, tq, la, tt, z, hP⟩ := hB
    generalize H1 = H at hP hS ⊢
    have hD : va_D (aX ad) (wX ci ad (toF X (inc X.2.2.2.1 0)) T tq la tt z) := wX_D hI
    have hp : p_bar X b pv = (fnd 0, toF X (inc X.2.2.2.1 0)) := by first | (simp [p_bar, bk, fl_eq, inP, c1]; done) | (simp [p_bar, bk, fl_eq, inP, c1] <;> omega)
    refine nv_cv (show fnd 0 = (p_bar X b pv).1 from by rw [hp]) ?_
    exact mu_iret hx hb hr hlocks hS ((by rw [hp]; exact ⟨_, _, _, _, _, hP⟩)) dX3_bar_23
  · obtain ⟨bn, h_bn, rfl⟩ := in_ex c1 (by omega)
    have t_bn : tn (nI bn) = bn := tn_nI (by omega)
    refine lv_iload_n hx hb dX3_bar_8 rfl (lv_at hl 2 rfl) ?_
    refine lv_if_lt (tgt := 18) hx hb dX3_bar_9 (by decide) (fun c2 => ?_) (fun c2 => ?_)
    · have i3 : ∀ u9, inN pv u9 = false := fun u9 => in_f0 c2
      refine lv_aload_n hx hb dX3_bar_18 rfl (lv_at hl 0 rfl) ?_
      refine lv_iconst (v := nI (0)) hx hb dX3_bar_19 (by decide) ?_
      refine mu_V (n := 1) (As := [.int (nI 0)]) (rest := []) ⟨hx, hb, hml, hown, hts⟩ (c_X3_finding l D ci G ka ad X T tq la tt z hI hG (0) hWX (by omega)) gX3_bar_X3_finding rfl ⟨rfl, rfl⟩ (by decide +kernel) rfl ⟨Nat.le_of_ble_eq_true rfl, Nat.le_of_ble_eq_true rfl⟩ hE (en_S hGA hs0 hS) hK hP (ci := 3) (q0 := 0) rfl rfl hl.1 rfl (Nat.le_of_ble_eq_true rfl) dX3_bar_20 ⟨Nat.zero_le _, Nat.zero_le _⟩ hS (fun _ h => h) (fun H1 locs hz hfr hB hS => ?_)
      obtain ⟨T, tq, la, tt, z, hP⟩ := hB
      generalize H1 = H at hP hS ⊢
      have hD : va_D (aX ad) (wX ci ad (toF X (inc X.2.2.2.1 0)) T tq la tt z) := wX_D hI
      have hp : p_bar X (nI bn) pv = (fnd 0, toF X (inc X.2.2.2.1 0)) := by first | (simp [p_bar, bk, fl_eq, inP, c1, c2, t_bn, i3]; done) | (simp [p_bar, bk, fl_eq, inP, c1, c2, t_bn, i3] <;> omega)
      refine nv_cv (show fnd 0 = (p_bar X (nI bn) pv).1 from by rw [hp]) ?_
      exact mu_iret hx hb hr hlocks hS ((by rw [hp]; exact ⟨_, _, _, _, _, hP⟩)) dX3_bar_23
    · refine lv_iload_n hx hb dX3_bar_12 rfl (lv_at hl 2 rfl) ?_
      refine lv_bipush (v := nI (64)) hx hb dX3_bar_13 (by decide) ?_
      refine lv_icmp_lt (tgt := 24) hx hb dX3_bar_15 (by decide) (fun c4 => ?_) (fun c4 => ?_)
      · have i5 : inN pv 64 = true := in_t2 (by omega) c2 c4
        obtain ⟨pvn, h_pvn, rfl⟩ := in_ex i5 (by omega)
        have t_pvn : tn (nI pvn) = pvn := tn_nI (by omega)
        refine lv_aload_n hx hb dX3_bar_24 rfl (lv_at hl 0 rfl) ?_
        refine va_get (D := D) (ci := 3) (v := .ref (ad 5)) (C := RX3) (T := TX3) (N := 9) hx hb hts hinX3 hown hK hP 0 rfl rfl 0 (by decide) (hts (.fieldLink RX3 10 "OneShort" "orchestra" "LOneShort$Orchestra;") (List.mem_of_getElem? (i := 1) rfl)) (fun _ h9 => h9) rfl dX3_bar_25 ?_
        refine va_get (D := D) (ci := 0) (v := .ref (ad 6)) (C := RX0) (T := TX0) (N := 13) hx hb hts hinX0 hown hK hP 5 rfl rfl 0 (by decide) (hts (.fieldLink RX3 58 "OneShort$Orchestra" "bars" "[I") (List.mem_of_getElem? (i := 2) rfl)) (fun _ h9 => h9) rfl dX3_bar_28 ?_
        refine lv_iload_n hx hb dX3_bar_31 rfl (lv_at hl 1 rfl) ?_
        have f6 := hWF.f0 (bn)
        refine nv_iald (v := nI (X.1 0 (bn))) hx hb hK hP 6 0 rfl rfl (by omega) (by decide) rfl dX3_bar_32 ?_
        refine lv_istore_n (lv' := [(3, .int (nI (X.1 0 (bn)))), (0, .ref (ad 0)), (1, .int (nI bn)), (2, .int (nI pvn))]) hx hb dX3_bar_33 rfl hl (by decide) rfl (fun ls hl => ?_)
        refine lv_aload_n hx hb dX3_bar_34 rfl (lv_at hl 1 rfl) ?_
        refine va_get (D := D) (ci := 3) (v := .ref (ad 5)) (C := RX3) (T := TX3) (N := 9) hx hb hts hinX3 hown hK hP 0 rfl rfl 0 (by decide) (hts (.fieldLink RX3 10 "OneShort" "orchestra" "LOneShort$Orchestra;") (List.mem_of_getElem? (i := 1) rfl)) (fun _ h9 => h9) rfl dX3_bar_35 ?_
        refine va_get (D := D) (ci := 0) (v := .ref (ad 6)) (C := RX0) (T := TX0) (N := 13) hx hb hts hinX0 hown hK hP 5 rfl rfl 0 (by decide) (hts (.fieldLink RX3 58 "OneShort$Orchestra" "bars" "[I") (List.mem_of_getElem? (i := 2) rfl)) (fun _ h9 => h9) rfl dX3_bar_38 ?_
        refine lv_iload_n hx hb dX3_bar_41 rfl (lv_at hl 2 rfl) ?_
        refine lv_iload_n hx hb dX3_bar_42 rfl (lv_at hl 3 rfl) ?_
        refine nv_iast hx hb hK hP hD hS 6 0 rfl rfl (by omega) (by decide) dX3_bar_43 (fun H locs hP hD hS => ?_)
        have hP : va_P D vwCl (wX ci ad (toS X (st X.1 0 (bn) (pvn))) T tq la tt z) H := va_P.re (wX_o0 ci ad X T tq la tt z (bn) (pvn)) hP
        have hD : va_D (aX ad) (wX ci ad (toS X (st X.1 0 (bn) (pvn))) T tq la tt z) := wX_D hI
        refine lv_iload_n hx hb dX3_bar_44 rfl (lv_at hl 0 rfl) ?_
        have hp : p_bar X (nI bn) (nI pvn) = (nI (X.1 0 (bn)), toS X (st X.1 0 (bn) (pvn))) := by first | (simp [p_bar, bk, fl_eq, inP, c1, c2, c4, t_bn, i5, t_pvn]; done) | (simp [p_bar, bk, fl_eq, inP, c1, c2, c4, t_bn, i5, t_pvn] <;> omega)
        refine nv_cv (show nI (X.1 0 (bn)) = (p_bar X (nI bn) (nI pvn)).1 from by rw [hp]) ?_
        exact mu_iret hx hb hr hlocks hS ((by rw [hp]; exact ⟨_, _, _, _, _, hP⟩)) dX3_bar_45
      · have i7 : inN pv 64 = false := in_f2 (by omega) c4
        refine lv_aload_n hx hb dX3_bar_18 rfl (lv_at hl 0 rfl) ?_
        refine lv_iconst (v := nI (0)) hx hb dX3_bar_19 (by decide) ?_
        refine mu_V (n := 1) (As := [.int (nI 0)]) (rest := []) ⟨hx, hb, hml, hown, hts⟩ (c_X3_finding l D ci G ka ad X T tq la tt z hI hG (0) hWX (by omega)) gX3_bar_X3_finding rfl ⟨rfl, rfl⟩ (by decide +kernel) rfl ⟨Nat.le_of_ble_eq_true rfl, Nat.le_of_ble_eq_true rfl⟩ hE (en_S hGA hs0 hS) hK hP (ci := 3) (q0 := 0) rfl rfl hl.1 rfl (Nat.le_of_ble_eq_true rfl) dX3_bar_20 ⟨Nat.zero_le _, Nat.zero_le _⟩ hS (fun _ h => h) (fun H1 locs hz hfr hB hS => ?_)
        obtain ⟨T, tq, la, tt, z, hP⟩ := hB
        generalize H1 = H at hP hS ⊢
        have hD : va_D (aX ad) (wX ci ad (toF X (inc X.2.2.2.1 0)) T tq la tt z) := wX_D hI
        have hp : p_bar X (nI bn) pv = (fnd 0, toF X (inc X.2.2.2.1 0)) := by first | (simp [p_bar, bk, fl_eq, inP, c1, c2, c4, t_bn, i7]; done) | (simp [p_bar, bk, fl_eq, inP, c1, c2, c4, t_bn, i7] <;> omega)
        refine nv_cv (show fnd 0 = (p_bar X (nI bn) pv).1 from by rw [hp]) ?_
        exact mu_iret hx hb hr hlocks hS ((by rw [hp]; exact ⟨_, _, _, _, _, hP⟩)) dX3_bar_23

set_option maxHeartbeats 4000000 in
set_option maxRecDepth 100000 in
/-- X3_barOf -/
theorem c_X3_barOf (l : Launch) (D : va_G) (ci : Nat → ClassId) (G : Nat → Prop) (ka : Nat) (ad : Nat → Nat) (X : AS) (T : OS) (tq la tt : Nat → Int32) (z : Nat → Nat → Int32) (hI : injA ad 48) (hG : ∀ k, k < 48 → G (ad k)) (b w : Int32) (hWX : WFX X) : Met l yX3_barOf wsX3_barOf ({ frames := 6, cells := 0, slots := 0, locals := 136 } : Room) (va_Pc [.ref (ad 0), .int (b), .int (w)] (ro_B D (tyL ci) (wX ci ad X T tq la tt z) (en D (ci 0) G ka))) (mu_Q (aX ad) (some (.int ((p_barOf X b w).1))) (fun H => ∃ T tq la tt z, va_P D vwCl (wX ci ad ((p_barOf X b w).2) T tq la tt z) H)) 0 0 (aX ad) := by
  refine mu_Met (cc := cX3_barOf) (maxL := 3) (ret := (some .int)) [(0, .ref (ad 0)), (1, .int (b)), (2, .int (w))] (wX_D hI) (by decide) rfl (Nat.le_of_ble_eq_true rfl) rfl ?_
  intro p e s m below meth c H locs hx hb hml hr hlocks hts hown hP hK hs0 hD hS ls hl
  have hown : s.vm.findClass RX3 = some m.cls := hown
  have hinX0 : ∀ w ∈ wsX00, w ∈ wsX3_barOf := by decide +kernel
  have hinX3 : ∀ w ∈ wsX30, w ∈ wsX3_barOf := by decide +kernel
  have hE := hE_en D (ci 0) G ka
  have hWF := hWX.w
  have f_n := hWF.n
  have f_e := hWX.e
  have f_tl := hWX.t
  have hGA := aX_G hG
  have hWK := hWX.k
  refine lv_aload_n hx hb dX3_barOf_0 rfl (lv_at hl 0 rfl) ?_
  refine lv_iload_n hx hb dX3_barOf_1 rfl (lv_at hl 1 rfl) ?_
  refine ro_V (n := 1) (As := [.int (b)]) (rest := []) ⟨hx, hb, hml, hown, hts⟩ (c_X3_isBar l D ci G ka ad X T tq la tt z (b) hWX) gX3_barOf_X3_isBar rfl ⟨rfl, rfl⟩ (by decide +kernel) rfl ⟨Nat.le_of_ble_eq_true rfl, Nat.le_of_ble_eq_true rfl⟩ hE (en_S hGA hs0 hS) hK hP (ci := 3) (q0 := 0) rfl rfl hl.1 rfl (Nat.le_of_ble_eq_true rfl) dX3_barOf_2 ⟨Nat.zero_le _, Nat.zero_le _⟩ ?_
  refine nv_ifne_b (tgt := 14) hx hb dX3_barOf_5 (by decide) (fun c1 => ?_) (fun c1 => ?_)
  · obtain ⟨bn, h_bn, rfl⟩ := in_ex c1 (by omega)
    have t_bn : tn (nI bn) = bn := tn_nI (by omega)
    refine lv_iload_n hx hb dX3_barOf_14 rfl (lv_at hl 2 rfl) ?_
    rcases Bool.eq_false_or_eq_true (inN w 3) with i2 | i2
    · obtain ⟨wn, h_wn, rfl⟩ := in_ex i2 (by decide)
      rcases (show wn = 0 ∨ wn = 1 ∨ wn = 2 by omega) with rfl | rfl | rfl
      · have t_w : tn (nI 0) = 0 := tn_nI (by decide)
        refine lv_tableIn (x := nI 0) (off := 25) (tgt := 40) hx hb dX3_barOf_15 (by decide) (by decide) (by decide) (by decide) ?_
        refine lv_aload_n hx hb dX3_barOf_40 rfl (lv_at hl 0 rfl) ?_
        refine va_get (D := D) (ci := 3) (v := .ref (ad 5)) (C := RX3) (T := TX3) (N := 9) hx hb hts hinX3 hown hK hP 0 rfl rfl 0 (by decide) (hts (.fieldLink RX3 10 "OneShort" "orchestra" "LOneShort$Orchestra;") (List.mem_of_getElem? (i := 1) rfl)) (fun _ h9 => h9) rfl dX3_barOf_41 ?_
        refine va_get (D := D) (ci := 0) (v := .ref (ad 6)) (C := RX0) (T := TX0) (N := 13) hx hb hts hinX0 hown hK hP 5 rfl rfl 0 (by decide) (hts (.fieldLink RX3 58 "OneShort$Orchestra" "bars" "[I") (List.mem_of_getElem? (i := 2) rfl)) (fun _ h9 => h9) rfl dX3_barOf_44 ?_
        refine lv_iload_n hx hb dX3_barOf_47 rfl (lv_at hl 1 rfl) ?_
        have f3 := hWF.f0 (bn)
        refine nv_iald (v := nI (X.1 0 (bn))) hx hb hK hP 6 0 rfl rfl (by omega) (by decide) rfl dX3_barOf_48 ?_
        have hp : p_barOf X (nI bn) (nI 0) = (nI (X.1 0 (bn)), X) := by first | (simp [p_barOf, bk, fl_eq, inP, c1, t_bn, i2, t_w]; done) | (simp [p_barOf, bk, fl_eq, inP, c1, t_bn, i2, t_w] <;> omega)
        refine nv_cv (show nI (X.1 0 (bn)) = (p_barOf X (nI bn) (nI 0)).1 from by rw [hp]) ?_
        exact mu_iret hx hb hr hlocks hS ((by rw [hp]; exact ⟨_, _, _, _, _, hP⟩)) dX3_barOf_49
      · have t_w : tn (nI 1) = 1 := tn_nI (by decide)
        refine lv_tableIn (x := nI 1) (off := 35) (tgt := 50) hx hb dX3_barOf_15 (by decide) (by decide) (by decide) (by decide) ?_
        refine lv_aload_n hx hb dX3_barOf_50 rfl (lv_at hl 0 rfl) ?_
        refine va_get (D := D) (ci := 3) (v := .ref (ad 5)) (C := RX3) (T := TX3) (N := 9) hx hb hts hinX3 hown hK hP 0 rfl rfl 0 (by decide) (hts (.fieldLink RX3 10 "OneShort" "orchestra" "LOneShort$Orchestra;") (List.mem_of_getElem? (i := 1) rfl)) (fun _ h9 => h9) rfl dX3_barOf_51 ?_
        refine lv_iload_n hx hb dX3_barOf_54 rfl (lv_at hl 1 rfl) ?_
        refine ro_V (n := 1) (As := [.int (nI bn)]) (rest := []) ⟨hx, hb, hml, hown, hts⟩ (c_X0_playersIn l D ci G ka (sh ad 5) X.1 (z 0) (z 1) (z 2) (bn) hWF (by omega)) gX3_barOf_X0_playersIn rfl ⟨rfl, rfl⟩ (by decide +kernel) rfl ⟨Nat.le_of_ble_eq_true rfl, Nat.le_of_ble_eq_true rfl⟩ hE (en_S hGA hs0 hS) hK (wX_s5 hP) (ci := 0) (q0 := 0) rfl rfl hl.1 rfl (Nat.le_of_ble_eq_true rfl) dX3_barOf_55 ⟨Nat.zero_le _, Nat.zero_le _⟩ ?_
        have f4 := playIn_lt hWF (bn)
        have hp : p_barOf X (nI bn) (nI 1) = (nI (playIn X.1 bn), X) := by first | (simp [p_barOf, bk, fl_eq, inP, c1, t_bn, i2, t_w]; done) | (simp [p_barOf, bk, fl_eq, inP, c1, t_bn, i2, t_w] <;> omega)
        refine nv_cv (show nI (playIn X.1 bn) = (p_barOf X (nI bn) (nI 1)).1 from by rw [hp]) ?_
        exact mu_iret hx hb hr hlocks hS ((by rw [hp]; exact ⟨_, _, _, _, _, hP⟩)) dX3_barOf_58
      · have t_w : tn (nI 2) = 2 := tn_nI (by decide)
        refine lv_tableIn (x := nI 2) (off := 44) (tgt := 59) hx hb dX3_barOf_15 (by decide) (by decide) (by decide) (by decide) ?_
        refine lv_aload_n hx hb dX3_barOf_59 rfl (lv_at hl 0 rfl) ?_
        refine va_get (D := D) (ci := 3) (v := .ref (ad 5)) (C := RX3) (T := TX3) (N := 9) hx hb hts hinX3 hown hK hP 0 rfl rfl 0 (by decide) (hts (.fieldLink RX3 10 "OneShort" "orchestra" "LOneShort$Orchestra;") (List.mem_of_getElem? (i := 1) rfl)) (fun _ h9 => h9) rfl dX3_barOf_60 ?_
        refine lv_iload_n hx hb dX3_barOf_63 rfl (lv_at hl 1 rfl) ?_
        refine ro_V (n := 1) (As := [.int (nI bn)]) (rest := []) ⟨hx, hb, hml, hown, hts⟩ (c_X0_seatsReached l D ci G ka (sh ad 5) X.1 (z 0) (z 1) (z 2) (bn) hWF (by omega)) gX3_barOf_X0_seatsReached rfl ⟨rfl, rfl⟩ (by decide +kernel) rfl ⟨Nat.le_of_ble_eq_true rfl, Nat.le_of_ble_eq_true rfl⟩ hE (en_S hGA hs0 hS) hK (wX_s5 hP) (ci := 0) (q0 := 0) rfl rfl hl.1 rfl (Nat.le_of_ble_eq_true rfl) dX3_barOf_64 ⟨Nat.zero_le _, Nat.zero_le _⟩ ?_
        have hp : p_barOf X (nI bn) (nI 2) = (nI (reachd X.1 bn), X) := by first | (simp [p_barOf, bk, fl_eq, inP, c1, t_bn, i2, t_w]; done) | (simp [p_barOf, bk, fl_eq, inP, c1, t_bn, i2, t_w] <;> omega)
        refine nv_cv (show nI (reachd X.1 bn) = (p_barOf X (nI bn) (nI 2)).1 from by rw [hp]) ?_
        exact mu_iret hx hb hr hlocks hS ((by rw [hp]; exact ⟨_, _, _, _, _, hP⟩)) dX3_barOf_67
    · refine lv_tableOut (tgt := 68) hx hb dX3_barOf_15 (tsw_out i2) (by decide) ?_
      refine lv_aload_n hx hb dX3_barOf_68 rfl (lv_at hl 0 rfl) ?_
      refine lv_iconst (v := nI (0)) hx hb dX3_barOf_69 (by decide) ?_
      refine mu_V (n := 1) (As := [.int (nI 0)]) (rest := []) ⟨hx, hb, hml, hown, hts⟩ (c_X3_finding l D ci G ka ad X T tq la tt z hI hG (0) hWX (by omega)) gX3_barOf_X3_finding rfl ⟨rfl, rfl⟩ (by decide +kernel) rfl ⟨Nat.le_of_ble_eq_true rfl, Nat.le_of_ble_eq_true rfl⟩ hE (en_S hGA hs0 hS) hK hP (ci := 3) (q0 := 0) rfl rfl hl.1 rfl (Nat.le_of_ble_eq_true rfl) dX3_barOf_70 ⟨Nat.zero_le _, Nat.zero_le _⟩ hS (fun _ h => h) (fun H1 locs hz hfr hB hS => ?_)
      obtain ⟨T, tq, la, tt, z, hP⟩ := hB
      generalize H1 = H at hP hS ⊢
      have hD : va_D (aX ad) (wX ci ad (toF X (inc X.2.2.2.1 0)) T tq la tt z) := wX_D hI
      have hp : p_barOf X (nI bn) w = (fnd 0, toF X (inc X.2.2.2.1 0)) := by first | (simp [p_barOf, bk, fl_eq, inP, c1, t_bn, i2]; done) | (simp [p_barOf, bk, fl_eq, inP, c1, t_bn, i2] <;> omega)
      refine nv_cv (show fnd 0 = (p_barOf X (nI bn) w).1 from by rw [hp]) ?_
      exact mu_iret hx hb hr hlocks hS ((by rw [hp]; exact ⟨_, _, _, _, _, hP⟩)) dX3_barOf_73
  · refine lv_aload_n hx hb dX3_barOf_8 rfl (lv_at hl 0 rfl) ?_
    refine lv_iconst (v := nI (0)) hx hb dX3_barOf_9 (by decide) ?_
    refine mu_V (n := 1) (As := [.int (nI 0)]) (rest := []) ⟨hx, hb, hml, hown, hts⟩ (c_X3_finding l D ci G ka ad X T tq la tt z hI hG (0) hWX (by omega)) gX3_barOf_X3_finding rfl ⟨rfl, rfl⟩ (by decide +kernel) rfl ⟨Nat.le_of_ble_eq_true rfl, Nat.le_of_ble_eq_true rfl⟩ hE (en_S hGA hs0 hS) hK hP (ci := 3) (q0 := 0) rfl rfl hl.1 rfl (Nat.le_of_ble_eq_true rfl) dX3_barOf_10 ⟨Nat.zero_le _, Nat.zero_le _⟩ hS (fun _ h => h) (fun H1 locs hz hfr hB hS => ?_)
    obtain ⟨T, tq, la, tt, z, hP⟩ := hB
    generalize H1 = H at hP hS ⊢
    have hD : va_D (aX ad) (wX ci ad (toF X (inc X.2.2.2.1 0)) T tq la tt z) := wX_D hI
    have hp : p_barOf X b w = (fnd 0, toF X (inc X.2.2.2.1 0)) := by first | (simp [p_barOf, bk, fl_eq, inP, c1]; done) | (simp [p_barOf, bk, fl_eq, inP, c1] <;> omega)
    refine nv_cv (show fnd 0 = (p_barOf X b w).1 from by rw [hp]) ?_
    exact mu_iret hx hb hr hlocks hS ((by rw [hp]; exact ⟨_, _, _, _, _, hP⟩)) dX3_barOf_13

set_option maxHeartbeats 4000000 in
set_option maxRecDepth 100000 in
/-- X3_player -/
theorem c_X3_player (l : Launch) (D : va_G) (ci : Nat → ClassId) (G : Nat → Prop) (ka : Nat) (ad : Nat → Nat) (X : AS) (T : OS) (tq la tt : Nat → Int32) (z : Nat → Nat → Int32) (hI : injA ad 48) (hG : ∀ k, k < 48 → G (ad k)) (k sv : Int32) (hWX : WFX X) : Met l yX3_player wsX3_player ({ frames := 1, cells := 0, slots := 0, locals := 23 } : Room) (va_Pc [.ref (ad 0), .int (k), .int (sv)] (ro_B D (tyL ci) (wX ci ad X T tq la tt z) (en D (ci 0) G ka))) (mu_Q (aX ad) (some (.int ((p_player X k sv).1))) (fun H => ∃ T tq la tt z, va_P D vwCl (wX ci ad ((p_player X k sv).2) T tq la tt z) H)) 0 0 (aX ad) := by
  refine mu_Met (cc := cX3_player) (maxL := 3) (ret := (some .int)) [(0, .ref (ad 0)), (1, .int (k)), (2, .int (sv))] (wX_D hI) (by decide) rfl (Nat.le_of_ble_eq_true rfl) rfl ?_
  intro p e s m below meth c H locs hx hb hml hr hlocks hts hown hP hK hs0 hD hS ls hl
  have hown : s.vm.findClass RX3 = some m.cls := hown
  have hinX0 : ∀ w ∈ wsX00, w ∈ wsX3_player := by decide +kernel
  have hinX3 : ∀ w ∈ wsX30, w ∈ wsX3_player := by decide +kernel
  have hE := hE_en D (ci 0) G ka
  have hWF := hWX.w
  have f_n := hWF.n
  have f_e := hWX.e
  have f_tl := hWX.t
  have hGA := aX_G hG
  have hWK := hWX.k
  refine lv_aload_n hx hb dX3_player_0 rfl (lv_at hl 0 rfl) ?_
  refine lv_iload_n hx hb dX3_player_1 rfl (lv_at hl 1 rfl) ?_
  refine ro_V (n := 1) (As := [.int (k)]) (rest := []) ⟨hx, hb, hml, hown, hts⟩ (c_X3_isKind l D ci G ka ad X T tq la tt z (k) hWX) gX3_player_X3_isKind rfl ⟨rfl, rfl⟩ (by decide +kernel) rfl ⟨Nat.le_of_ble_eq_true rfl, Nat.le_of_ble_eq_true rfl⟩ hE (en_S hGA hs0 hS) hK hP (ci := 3) (q0 := 0) rfl rfl hl.1 rfl (Nat.le_of_ble_eq_true rfl) dX3_player_2 ⟨Nat.zero_le _, Nat.zero_le _⟩ ?_
  refine nv_ifeq_b (tgt := 16) hx hb dX3_player_5 (by decide) (fun c1 => ?_) (fun c1 => ?_)
  · refine lv_aload_n hx hb dX3_player_16 rfl (lv_at hl 0 rfl) ?_
    refine lv_iconst (v := nI (0)) hx hb dX3_player_17 (by decide) ?_
    refine mu_V (n := 1) (As := [.int (nI 0)]) (rest := []) ⟨hx, hb, hml, hown, hts⟩ (c_X3_finding l D ci G ka ad X T tq la tt z hI hG (0) hWX (by omega)) gX3_player_X3_finding rfl ⟨rfl, rfl⟩ (by decide +kernel) rfl ⟨Nat.le_of_ble_eq_true rfl, Nat.le_of_ble_eq_true rfl⟩ hE (en_S hGA hs0 hS) hK hP (ci := 3) (q0 := 0) rfl rfl hl.1 rfl (Nat.le_of_ble_eq_true rfl) dX3_player_18 ⟨Nat.zero_le _, Nat.zero_le _⟩ hS (fun _ h => h) (fun H1 locs hz hfr hB hS => ?_)
    obtain ⟨T, tq, la, tt, z, hP⟩ := hB
    generalize H1 = H at hP hS ⊢
    have hD : va_D (aX ad) (wX ci ad (toF X (inc X.2.2.2.1 0)) T tq la tt z) := wX_D hI
    have hp : p_player X k sv = (fnd 0, toF X (inc X.2.2.2.1 0)) := by first | (simp [p_player, bk, fl_eq, inP, c1]; done) | (simp [p_player, bk, fl_eq, inP, c1] <;> omega)
    refine nv_cv (show fnd 0 = (p_player X k sv).1 from by rw [hp]) ?_
    exact mu_iret hx hb hr hlocks hS ((by rw [hp]; exact ⟨_, _, _, _, _, hP⟩)) dX3_player_21
  · obtain ⟨kn, h_kn, rfl⟩ := in_ex c1 (by omega)
    have t_kn : tn (nI kn) = kn := tn_nI (by omega)
    refine lv_aload_n hx hb dX3_player_8 rfl (lv_at hl 0 rfl) ?_
    refine lv_iload_n hx hb dX3_player_9 rfl (lv_at hl 2 rfl) ?_
    refine ro_V (n := 1) (As := [.int (sv)]) (rest := []) ⟨hx, hb, hml, hown, hts⟩ (c_X3_isSeat l D ci G ka ad X T tq la tt z (sv) hWX) gX3_player_X3_isSeat rfl ⟨rfl, rfl⟩ (by decide +kernel) rfl ⟨Nat.le_of_ble_eq_true rfl, Nat.le_of_ble_eq_true rfl⟩ hE (en_S hGA hs0 hS) hK hP (ci := 3) (q0 := 0) rfl rfl hl.1 rfl (Nat.le_of_ble_eq_true rfl) dX3_player_10 ⟨Nat.zero_le _, Nat.zero_le _⟩ ?_
    refine nv_ifne_b (tgt := 22) hx hb dX3_player_13 (by decide) (fun c2 => ?_) (fun c2 => ?_)
    · obtain ⟨svn, h_svn, rfl⟩ := in_ex c2 (by omega)
      have t_svn : tn (nI svn) = svn := tn_nI (by omega)
      refine lv_aload_n hx hb dX3_player_22 rfl (lv_at hl 0 rfl) ?_
      refine va_get (D := D) (ci := 3) (v := .ref (ad 5)) (C := RX3) (T := TX3) (N := 9) hx hb hts hinX3 hown hK hP 0 rfl rfl 0 (by decide) (hts (.fieldLink RX3 10 "OneShort" "orchestra" "LOneShort$Orchestra;") (List.mem_of_getElem? (i := 1) rfl)) (fun _ h9 => h9) rfl dX3_player_23 ?_
      refine va_get (D := D) (ci := 0) (v := .int (nI (X.1 7 0))) (C := RX0) (T := TX0) (N := 13) hx hb hts hinX0 hown hK hP 5 rfl rfl 7 (by decide) (hts (.fieldLink RX3 73 "OneShort$Orchestra" "size" "I") (List.mem_of_getElem? (i := 2) rfl)) (fun _ h9 => h9) rfl dX3_player_26 ?_
      refine lv_bipush (v := nI (8)) hx hb dX3_player_29 (by decide) ?_
      refine nv_icmp_lt (tgt := 40) hx hb (by omega) (by omega) dX3_player_31 (by decide) (fun c3 => ?_) (fun c3 => ?_)
      · refine lv_aload_n hx hb dX3_player_40 rfl (lv_at hl 0 rfl) ?_
        refine va_get (D := D) (ci := 3) (v := .ref (ad 5)) (C := RX3) (T := TX3) (N := 9) hx hb hts hinX3 hown hK hP 0 rfl rfl 0 (by decide) (hts (.fieldLink RX3 10 "OneShort" "orchestra" "LOneShort$Orchestra;") (List.mem_of_getElem? (i := 1) rfl)) (fun _ h9 => h9) rfl dX3_player_41 ?_
        refine lv_iload_n hx hb dX3_player_44 rfl (lv_at hl 1 rfl) ?_
        refine lv_iload_n hx hb dX3_player_45 rfl (lv_at hl 2 rfl) ?_
        refine mu_V (n := 2) (As := [.int (nI kn), .int (nI svn)]) (rest := []) ⟨hx, hb, hml, hown, hts⟩ (c_X0_engage l D ci G ka (sh ad 5) X.1 (z 0) (z 1) (z 2) (injA_sh hI (by decide)) (G_sh hG (by decide)) (kn) (svn) hWF (by omega)) gX3_player_X0_engage rfl ⟨rfl, rfl⟩ (by decide +kernel) rfl ⟨Nat.le_of_ble_eq_true rfl, Nat.le_of_ble_eq_true rfl⟩ hE (en_S hGA hs0 hS) hK (wX_s5 hP) (ci := 0) (q0 := 0) rfl rfl hl.1 rfl (Nat.le_of_ble_eq_true rfl) dX3_player_46 ⟨Nat.zero_le _, Nat.zero_le _⟩ hS (fun q h => aR_X (by decide) q (aO_sh q h)) (fun H1 locs hz hfr hB hS => ?_)
        have hP := wX_j5 hI hP hfr hB
        obtain ⟨z, hP⟩ : ∃ z, va_P D vwCl (wX ci ad (toS X (engS X.1 kn svn)) T tq la tt z) H1 := ⟨_, hP⟩
        generalize H1 = H at hP hS ⊢
        have hD : va_D (aX ad) (wX ci ad (toS X (engS X.1 kn svn)) T tq la tt z) := wX_D hI
        have hp : p_player X (nI kn) (nI svn) = (nI (X.1 7 0), toS X (engS X.1 kn svn)) := by first | (simp [p_player, bk, fl_eq, inP, c1, c2, c3, t_kn, t_svn]; done) | (simp [p_player, bk, fl_eq, inP, c1, c2, c3, t_kn, t_svn] <;> omega)
        refine nv_cv (show nI (X.1 7 0) = (p_player X (nI kn) (nI svn)).1 from by rw [hp]) ?_
        exact mu_iret hx hb hr hlocks hS ((by rw [hp]; exact ⟨_, _, _, _, _, hP⟩)) dX3_player_49
      · refine lv_aload_n hx hb dX3_player_34 rfl (lv_at hl 0 rfl) ?_
        refine lv_iconst (v := nI (1)) hx hb dX3_player_35 (by decide) ?_
        refine mu_V (n := 1) (As := [.int (nI 1)]) (rest := []) ⟨hx, hb, hml, hown, hts⟩ (c_X3_finding l D ci G ka ad X T tq la tt z hI hG (1) hWX (by omega)) gX3_player_X3_finding rfl ⟨rfl, rfl⟩ (by decide +kernel) rfl ⟨Nat.le_of_ble_eq_true rfl, Nat.le_of_ble_eq_true rfl⟩ hE (en_S hGA hs0 hS) hK hP (ci := 3) (q0 := 0) rfl rfl hl.1 rfl (Nat.le_of_ble_eq_true rfl) dX3_player_36 ⟨Nat.zero_le _, Nat.zero_le _⟩ hS (fun _ h => h) (fun H1 locs hz hfr hB hS => ?_)
        obtain ⟨T, tq, la, tt, z, hP⟩ := hB
        generalize H1 = H at hP hS ⊢
        have hD : va_D (aX ad) (wX ci ad (toF X (inc X.2.2.2.1 1)) T tq la tt z) := wX_D hI
        have hp : p_player X (nI kn) (nI svn) = (fnd 1, toF X (inc X.2.2.2.1 1)) := by first | (simp [p_player, bk, fl_eq, inP, c1, c2, c3, t_kn, t_svn]; done) | (simp [p_player, bk, fl_eq, inP, c1, c2, c3, t_kn, t_svn] <;> omega)
        refine nv_cv (show fnd 1 = (p_player X (nI kn) (nI svn)).1 from by rw [hp]) ?_
        exact mu_iret hx hb hr hlocks hS ((by rw [hp]; exact ⟨_, _, _, _, _, hP⟩)) dX3_player_39
    · refine lv_aload_n hx hb dX3_player_16 rfl (lv_at hl 0 rfl) ?_
      refine lv_iconst (v := nI (0)) hx hb dX3_player_17 (by decide) ?_
      refine mu_V (n := 1) (As := [.int (nI 0)]) (rest := []) ⟨hx, hb, hml, hown, hts⟩ (c_X3_finding l D ci G ka ad X T tq la tt z hI hG (0) hWX (by omega)) gX3_player_X3_finding rfl ⟨rfl, rfl⟩ (by decide +kernel) rfl ⟨Nat.le_of_ble_eq_true rfl, Nat.le_of_ble_eq_true rfl⟩ hE (en_S hGA hs0 hS) hK hP (ci := 3) (q0 := 0) rfl rfl hl.1 rfl (Nat.le_of_ble_eq_true rfl) dX3_player_18 ⟨Nat.zero_le _, Nat.zero_le _⟩ hS (fun _ h => h) (fun H1 locs hz hfr hB hS => ?_)
      obtain ⟨T, tq, la, tt, z, hP⟩ := hB
      generalize H1 = H at hP hS ⊢
      have hD : va_D (aX ad) (wX ci ad (toF X (inc X.2.2.2.1 0)) T tq la tt z) := wX_D hI
      have hp : p_player X (nI kn) sv = (fnd 0, toF X (inc X.2.2.2.1 0)) := by first | (simp [p_player, bk, fl_eq, inP, c1, c2, t_kn]; done) | (simp [p_player, bk, fl_eq, inP, c1, c2, t_kn] <;> omega)
      refine nv_cv (show fnd 0 = (p_player X (nI kn) sv).1 from by rw [hp]) ?_
      exact mu_iret hx hb hr hlocks hS ((by rw [hp]; exact ⟨_, _, _, _, _, hP⟩)) dX3_player_21

set_option maxHeartbeats 4000000 in
set_option maxRecDepth 100000 in
/-- X3_sound -/
theorem c_X3_sound (l : Launch) (D : va_G) (ci : Nat → ClassId) (G : Nat → Prop) (ka : Nat) (ad : Nat → Nat) (X : AS) (T : OS) (tq la tt : Nat → Int32) (z : Nat → Nat → Int32) (hI : injA ad 48) (hG : ∀ k, k < 48 → G (ad k)) (q sv b : Int32) (hWX : WFX X) : Met l yX3_sound wsX3_sound ({ frames := 4, cells := 0, slots := 0, locals := 89 } : Room) (va_Pc [.ref (ad 0), .int (q), .int (sv), .int (b)] (ro_B D (tyL ci) (wX ci ad X T tq la tt z) (en D (ci 0) G ka))) (mu_Q (aX ad) (some (.int ((p_sound X q sv b).1))) (fun H => ∃ T tq la tt z, va_P D vwCl (wX ci ad ((p_sound X q sv b).2) T tq la tt z) H)) 0 0 (aX ad) := by
  refine mu_Met (cc := cX3_sound) (maxL := 4) (ret := (some .int)) [(0, .ref (ad 0)), (1, .int (q)), (2, .int (sv)), (3, .int (b))] (wX_D hI) (by decide) rfl (Nat.le_of_ble_eq_true rfl) rfl ?_
  intro p e s m below meth c H locs hx hb hml hr hlocks hts hown hP hK hs0 hD hS ls hl
  have hown : s.vm.findClass RX3 = some m.cls := hown
  have hinX3 : ∀ w ∈ wsX30, w ∈ wsX3_sound := by decide +kernel
  have hE := hE_en D (ci 0) G ka
  have hWF := hWX.w
  have f_n := hWF.n
  have f_e := hWX.e
  have f_tl := hWX.t
  have hGA := aX_G hG
  have hWK := hWX.k
  refine lv_aload_n hx hb dX3_sound_0 rfl (lv_at hl 0 rfl) ?_
  refine lv_iload_n hx hb dX3_sound_1 rfl (lv_at hl 1 rfl) ?_
  refine ro_V (n := 1) (As := [.int (q)]) (rest := []) ⟨hx, hb, hml, hown, hts⟩ (c_X3_isPlayer l D ci G ka ad X T tq la tt z (q) hWX) gX3_sound_X3_isPlayer rfl ⟨rfl, rfl⟩ (by decide +kernel) rfl ⟨Nat.le_of_ble_eq_true rfl, Nat.le_of_ble_eq_true rfl⟩ hE (en_S hGA hs0 hS) hK hP (ci := 3) (q0 := 0) rfl rfl hl.1 rfl (Nat.le_of_ble_eq_true rfl) dX3_sound_2 ⟨Nat.zero_le _, Nat.zero_le _⟩ ?_
  refine nv_ifeq_b (tgt := 24) hx hb dX3_sound_5 (by decide) (fun c1 => ?_) (fun c1 => ?_)
  · refine lv_aload_n hx hb dX3_sound_24 rfl (lv_at hl 0 rfl) ?_
    refine lv_iconst (v := nI (0)) hx hb dX3_sound_25 (by decide) ?_
    refine mu_V (n := 1) (As := [.int (nI 0)]) (rest := []) ⟨hx, hb, hml, hown, hts⟩ (c_X3_finding l D ci G ka ad X T tq la tt z hI hG (0) hWX (by omega)) gX3_sound_X3_finding rfl ⟨rfl, rfl⟩ (by decide +kernel) rfl ⟨Nat.le_of_ble_eq_true rfl, Nat.le_of_ble_eq_true rfl⟩ hE (en_S hGA hs0 hS) hK hP (ci := 3) (q0 := 0) rfl rfl hl.1 rfl (Nat.le_of_ble_eq_true rfl) dX3_sound_26 ⟨Nat.zero_le _, Nat.zero_le _⟩ hS (fun _ h => h) (fun H1 locs hz hfr hB hS => ?_)
    obtain ⟨T, tq, la, tt, z, hP⟩ := hB
    generalize H1 = H at hP hS ⊢
    have hD : va_D (aX ad) (wX ci ad (toF X (inc X.2.2.2.1 0)) T tq la tt z) := wX_D hI
    have hp : p_sound X q sv b = (fnd 0, toF X (inc X.2.2.2.1 0)) := by first | (simp [p_sound, bk, fl_eq, inP, c1]; done) | (simp [p_sound, bk, fl_eq, inP, c1] <;> omega)
    refine nv_cv (show fnd 0 = (p_sound X q sv b).1 from by rw [hp]) ?_
    exact mu_iret hx hb hr hlocks hS ((by rw [hp]; exact ⟨_, _, _, _, _, hP⟩)) dX3_sound_29
  · obtain ⟨qn, h_qn, rfl⟩ := in_ex c1 (by omega)
    have t_qn : tn (nI qn) = qn := tn_nI (by omega)
    refine lv_aload_n hx hb dX3_sound_8 rfl (lv_at hl 0 rfl) ?_
    refine lv_iload_n hx hb dX3_sound_9 rfl (lv_at hl 2 rfl) ?_
    refine ro_V (n := 1) (As := [.int (sv)]) (rest := []) ⟨hx, hb, hml, hown, hts⟩ (c_X3_isSeat l D ci G ka ad X T tq la tt z (sv) hWX) gX3_sound_X3_isSeat rfl ⟨rfl, rfl⟩ (by decide +kernel) rfl ⟨Nat.le_of_ble_eq_true rfl, Nat.le_of_ble_eq_true rfl⟩ hE (en_S hGA hs0 hS) hK hP (ci := 3) (q0 := 0) rfl rfl hl.1 rfl (Nat.le_of_ble_eq_true rfl) dX3_sound_10 ⟨Nat.zero_le _, Nat.zero_le _⟩ ?_
    refine nv_ifeq_b (tgt := 24) hx hb dX3_sound_13 (by decide) (fun c2 => ?_) (fun c2 => ?_)
    · refine lv_aload_n hx hb dX3_sound_24 rfl (lv_at hl 0 rfl) ?_
      refine lv_iconst (v := nI (0)) hx hb dX3_sound_25 (by decide) ?_
      refine mu_V (n := 1) (As := [.int (nI 0)]) (rest := []) ⟨hx, hb, hml, hown, hts⟩ (c_X3_finding l D ci G ka ad X T tq la tt z hI hG (0) hWX (by omega)) gX3_sound_X3_finding rfl ⟨rfl, rfl⟩ (by decide +kernel) rfl ⟨Nat.le_of_ble_eq_true rfl, Nat.le_of_ble_eq_true rfl⟩ hE (en_S hGA hs0 hS) hK hP (ci := 3) (q0 := 0) rfl rfl hl.1 rfl (Nat.le_of_ble_eq_true rfl) dX3_sound_26 ⟨Nat.zero_le _, Nat.zero_le _⟩ hS (fun _ h => h) (fun H1 locs hz hfr hB hS => ?_)
      obtain ⟨T, tq, la, tt, z, hP⟩ := hB
      generalize H1 = H at hP hS ⊢
      have hD : va_D (aX ad) (wX ci ad (toF X (inc X.2.2.2.1 0)) T tq la tt z) := wX_D hI
      have hp : p_sound X (nI qn) sv b = (fnd 0, toF X (inc X.2.2.2.1 0)) := by first | (simp [p_sound, bk, fl_eq, inP, c1, c2, t_qn]; done) | (simp [p_sound, bk, fl_eq, inP, c1, c2, t_qn] <;> omega)
      refine nv_cv (show fnd 0 = (p_sound X (nI qn) sv b).1 from by rw [hp]) ?_
      exact mu_iret hx hb hr hlocks hS ((by rw [hp]; exact ⟨_, _, _, _, _, hP⟩)) dX3_sound_29
    · obtain ⟨svn, h_svn, rfl⟩ := in_ex c2 (by omega)
      have t_svn : tn (nI svn) = svn := tn_nI (by omega)
      refine lv_aload_n hx hb dX3_sound_16 rfl (lv_at hl 0 rfl) ?_
      refine lv_iload_n hx hb dX3_sound_17 rfl (lv_at hl 3 rfl) ?_
      refine ro_V (n := 1) (As := [.int (b)]) (rest := []) ⟨hx, hb, hml, hown, hts⟩ (c_X3_isBar l D ci G ka ad X T tq la tt z (b) hWX) gX3_sound_X3_isBar rfl ⟨rfl, rfl⟩ (by decide +kernel) rfl ⟨Nat.le_of_ble_eq_true rfl, Nat.le_of_ble_eq_true rfl⟩ hE (en_S hGA hs0 hS) hK hP (ci := 3) (q0 := 0) rfl rfl hl.1 rfl (Nat.le_of_ble_eq_true rfl) dX3_sound_18 ⟨Nat.zero_le _, Nat.zero_le _⟩ ?_
      refine nv_ifne_b (tgt := 30) hx hb dX3_sound_21 (by decide) (fun c3 => ?_) (fun c3 => ?_)
      · obtain ⟨bn, h_bn, rfl⟩ := in_ex c3 (by omega)
        have t_bn : tn (nI bn) = bn := tn_nI (by omega)
        refine lv_aload_n hx hb dX3_sound_30 rfl (lv_at hl 0 rfl) ?_
        refine va_get (D := D) (ci := 3) (v := .ref (ad 5)) (C := RX3) (T := TX3) (N := 9) hx hb hts hinX3 hown hK hP 0 rfl rfl 0 (by decide) (hts (.fieldLink RX3 10 "OneShort" "orchestra" "LOneShort$Orchestra;") (List.mem_of_getElem? (i := 1) rfl)) (fun _ h9 => h9) rfl dX3_sound_31 ?_
        refine lv_iload_n hx hb dX3_sound_34 rfl (lv_at hl 1 rfl) ?_
        refine lv_iload_n hx hb dX3_sound_35 rfl (lv_at hl 3 rfl) ?_
        refine ro_V (n := 2) (As := [.int (nI qn), .int (nI bn)]) (rest := []) ⟨hx, hb, hml, hown, hts⟩ (c_X0_isPlaying l D ci G ka (sh ad 5) X.1 (z 0) (z 1) (z 2) (qn) (bn) hWF (by omega) (by omega)) gX3_sound_X0_isPlaying rfl ⟨rfl, rfl⟩ (by decide +kernel) rfl ⟨Nat.le_of_ble_eq_true rfl, Nat.le_of_ble_eq_true rfl⟩ hE (en_S hGA hs0 hS) hK (wX_s5 hP) (ci := 0) (q0 := 0) rfl rfl hl.1 rfl (Nat.le_of_ble_eq_true rfl) dX3_sound_36 ⟨Nat.zero_le _, Nat.zero_le _⟩ ?_
        refine nv_ifeq_b (tgt := 54) hx hb dX3_sound_39 (by decide) (fun c4 => ?_) (fun c4 => ?_)
        · refine lv_iconst (v := nI (0)) hx hb dX3_sound_54 (by decide) ?_
          have hp : p_sound X (nI qn) (nI svn) (nI bn) = (nI (0), X) := by first | (simp [p_sound, bk, fl_eq, inP, c1, c2, c3, c4, t_qn, t_svn, t_bn]; done) | (simp [p_sound, bk, fl_eq, inP, c1, c2, c3, c4, t_qn, t_svn, t_bn] <;> omega)
          refine nv_cv (show nI (0) = (p_sound X (nI qn) (nI svn) (nI bn)).1 from by rw [hp]) ?_
          exact mu_iret hx hb hr hlocks hS ((by rw [hp]; exact ⟨_, _, _, _, _, hP⟩)) dX3_sound_55
        · refine lv_aload_n hx hb dX3_sound_42 rfl (lv_at hl 0 rfl) ?_
          refine va_get (D := D) (ci := 3) (v := .ref (ad 5)) (C := RX3) (T := TX3) (N := 9) hx hb hts hinX3 hown hK hP 0 rfl rfl 0 (by decide) (hts (.fieldLink RX3 10 "OneShort" "orchestra" "LOneShort$Orchestra;") (List.mem_of_getElem? (i := 1) rfl)) (fun _ h9 => h9) rfl dX3_sound_43 ?_
          refine lv_iload_n hx hb dX3_sound_46 rfl (lv_at hl 1 rfl) ?_
          refine lv_iload_n hx hb dX3_sound_47 rfl (lv_at hl 2 rfl) ?_
          refine ro_V (n := 2) (As := [.int (nI qn), .int (nI svn)]) (rest := []) ⟨hx, hb, hml, hown, hts⟩ (c_X0_loudness l D ci G ka (sh ad 5) X.1 (z 0) (z 1) (z 2) (qn) (svn) hWF (by omega) (by omega)) gX3_sound_X0_loudness rfl ⟨rfl, rfl⟩ (by decide +kernel) rfl ⟨Nat.le_of_ble_eq_true rfl, Nat.le_of_ble_eq_true rfl⟩ hE (en_S hGA hs0 hS) hK (wX_s5 hP) (ci := 0) (q0 := 0) rfl rfl hl.1 rfl (Nat.le_of_ble_eq_true rfl) dX3_sound_48 ⟨Nat.zero_le _, Nat.zero_le _⟩ ?_
          have f5 := loudn_lt hWF (qn) (svn)
          refine lv_goto (tgt := 55) hx hb dX3_sound_51 (by decide) ?_
          have hp : p_sound X (nI qn) (nI svn) (nI bn) = (nI (loudn X.1 qn svn), X) := by first | (simp [p_sound, bk, fl_eq, inP, c1, c2, c3, c4, t_qn, t_svn, t_bn]; done) | (simp [p_sound, bk, fl_eq, inP, c1, c2, c3, c4, t_qn, t_svn, t_bn] <;> omega)
          refine nv_cv (show nI (loudn X.1 qn svn) = (p_sound X (nI qn) (nI svn) (nI bn)).1 from by rw [hp]) ?_
          exact mu_iret hx hb hr hlocks hS ((by rw [hp]; exact ⟨_, _, _, _, _, hP⟩)) dX3_sound_55
      · refine lv_aload_n hx hb dX3_sound_24 rfl (lv_at hl 0 rfl) ?_
        refine lv_iconst (v := nI (0)) hx hb dX3_sound_25 (by decide) ?_
        refine mu_V (n := 1) (As := [.int (nI 0)]) (rest := []) ⟨hx, hb, hml, hown, hts⟩ (c_X3_finding l D ci G ka ad X T tq la tt z hI hG (0) hWX (by omega)) gX3_sound_X3_finding rfl ⟨rfl, rfl⟩ (by decide +kernel) rfl ⟨Nat.le_of_ble_eq_true rfl, Nat.le_of_ble_eq_true rfl⟩ hE (en_S hGA hs0 hS) hK hP (ci := 3) (q0 := 0) rfl rfl hl.1 rfl (Nat.le_of_ble_eq_true rfl) dX3_sound_26 ⟨Nat.zero_le _, Nat.zero_le _⟩ hS (fun _ h => h) (fun H1 locs hz hfr hB hS => ?_)
        obtain ⟨T, tq, la, tt, z, hP⟩ := hB
        generalize H1 = H at hP hS ⊢
        have hD : va_D (aX ad) (wX ci ad (toF X (inc X.2.2.2.1 0)) T tq la tt z) := wX_D hI
        have hp : p_sound X (nI qn) (nI svn) b = (fnd 0, toF X (inc X.2.2.2.1 0)) := by first | (simp [p_sound, bk, fl_eq, inP, c1, c2, c3, t_qn, t_svn]; done) | (simp [p_sound, bk, fl_eq, inP, c1, c2, c3, t_qn, t_svn] <;> omega)
        refine nv_cv (show fnd 0 = (p_sound X (nI qn) (nI svn) b).1 from by rw [hp]) ?_
        exact mu_iret hx hb hr hlocks hS ((by rw [hp]; exact ⟨_, _, _, _, _, hP⟩)) dX3_sound_29

set_option maxHeartbeats 4000000 in
set_option maxRecDepth 100000 in
/-- X3_heard -/
theorem c_X3_heard (l : Launch) (D : va_G) (ci : Nat → ClassId) (G : Nat → Prop) (ka : Nat) (ad : Nat → Nat) (X : AS) (T : OS) (tq la tt : Nat → Int32) (z : Nat → Nat → Int32) (hI : injA ad 48) (hG : ∀ k, k < 48 → G (ad k)) (sv b : Int32) (hWX : WFX X) : Met l yX3_heard wsX3_heard ({ frames := 5, cells := 0, slots := 0, locals := 112 } : Room) (va_Pc [.ref (ad 0), .int (sv), .int (b)] (ro_B D (tyL ci) (wX ci ad X T tq la tt z) (en D (ci 0) G ka))) (mu_Q (aX ad) (some (.int ((p_heard X sv b).1))) (fun H => ∃ T tq la tt z, va_P D vwCl (wX ci ad ((p_heard X sv b).2) T tq la tt z) H)) 0 0 (aX ad) := by
  refine mu_Met (cc := cX3_heard) (maxL := 3) (ret := (some .int)) [(0, .ref (ad 0)), (1, .int (sv)), (2, .int (b))] (wX_D hI) (by decide) rfl (Nat.le_of_ble_eq_true rfl) rfl ?_
  intro p e s m below meth c H locs hx hb hml hr hlocks hts hown hP hK hs0 hD hS ls hl
  have hown : s.vm.findClass RX3 = some m.cls := hown
  have hinX3 : ∀ w ∈ wsX30, w ∈ wsX3_heard := by decide +kernel
  have hE := hE_en D (ci 0) G ka
  have hWF := hWX.w
  have f_n := hWF.n
  have f_e := hWX.e
  have f_tl := hWX.t
  have hGA := aX_G hG
  have hWK := hWX.k
  refine lv_aload_n hx hb dX3_heard_0 rfl (lv_at hl 0 rfl) ?_
  refine lv_iload_n hx hb dX3_heard_1 rfl (lv_at hl 1 rfl) ?_
  refine ro_V (n := 1) (As := [.int (sv)]) (rest := []) ⟨hx, hb, hml, hown, hts⟩ (c_X3_isSeat l D ci G ka ad X T tq la tt z (sv) hWX) gX3_heard_X3_isSeat rfl ⟨rfl, rfl⟩ (by decide +kernel) rfl ⟨Nat.le_of_ble_eq_true rfl, Nat.le_of_ble_eq_true rfl⟩ hE (en_S hGA hs0 hS) hK hP (ci := 3) (q0 := 0) rfl rfl hl.1 rfl (Nat.le_of_ble_eq_true rfl) dX3_heard_2 ⟨Nat.zero_le _, Nat.zero_le _⟩ ?_
  refine nv_ifeq_b (tgt := 16) hx hb dX3_heard_5 (by decide) (fun c1 => ?_) (fun c1 => ?_)
  · refine lv_aload_n hx hb dX3_heard_16 rfl (lv_at hl 0 rfl) ?_
    refine lv_iconst (v := nI (0)) hx hb dX3_heard_17 (by decide) ?_
    refine mu_V (n := 1) (As := [.int (nI 0)]) (rest := []) ⟨hx, hb, hml, hown, hts⟩ (c_X3_finding l D ci G ka ad X T tq la tt z hI hG (0) hWX (by omega)) gX3_heard_X3_finding rfl ⟨rfl, rfl⟩ (by decide +kernel) rfl ⟨Nat.le_of_ble_eq_true rfl, Nat.le_of_ble_eq_true rfl⟩ hE (en_S hGA hs0 hS) hK hP (ci := 3) (q0 := 0) rfl rfl hl.1 rfl (Nat.le_of_ble_eq_true rfl) dX3_heard_18 ⟨Nat.zero_le _, Nat.zero_le _⟩ hS (fun _ h => h) (fun H1 locs hz hfr hB hS => ?_)
    obtain ⟨T, tq, la, tt, z, hP⟩ := hB
    generalize H1 = H at hP hS ⊢
    have hD : va_D (aX ad) (wX ci ad (toF X (inc X.2.2.2.1 0)) T tq la tt z) := wX_D hI
    have hp : p_heard X sv b = (fnd 0, toF X (inc X.2.2.2.1 0)) := by first | (simp [p_heard, bk, fl_eq, inP, c1]; done) | (simp [p_heard, bk, fl_eq, inP, c1] <;> omega)
    refine nv_cv (show fnd 0 = (p_heard X sv b).1 from by rw [hp]) ?_
    exact mu_iret hx hb hr hlocks hS ((by rw [hp]; exact ⟨_, _, _, _, _, hP⟩)) dX3_heard_21
  · obtain ⟨svn, h_svn, rfl⟩ := in_ex c1 (by omega)
    have t_svn : tn (nI svn) = svn := tn_nI (by omega)
    refine lv_aload_n hx hb dX3_heard_8 rfl (lv_at hl 0 rfl) ?_
    refine lv_iload_n hx hb dX3_heard_9 rfl (lv_at hl 2 rfl) ?_
    refine ro_V (n := 1) (As := [.int (b)]) (rest := []) ⟨hx, hb, hml, hown, hts⟩ (c_X3_isBar l D ci G ka ad X T tq la tt z (b) hWX) gX3_heard_X3_isBar rfl ⟨rfl, rfl⟩ (by decide +kernel) rfl ⟨Nat.le_of_ble_eq_true rfl, Nat.le_of_ble_eq_true rfl⟩ hE (en_S hGA hs0 hS) hK hP (ci := 3) (q0 := 0) rfl rfl hl.1 rfl (Nat.le_of_ble_eq_true rfl) dX3_heard_10 ⟨Nat.zero_le _, Nat.zero_le _⟩ ?_
    refine nv_ifne_b (tgt := 22) hx hb dX3_heard_13 (by decide) (fun c2 => ?_) (fun c2 => ?_)
    · obtain ⟨bn, h_bn, rfl⟩ := in_ex c2 (by omega)
      have t_bn : tn (nI bn) = bn := tn_nI (by omega)
      refine lv_aload_n hx hb dX3_heard_22 rfl (lv_at hl 0 rfl) ?_
      refine va_get (D := D) (ci := 3) (v := .ref (ad 5)) (C := RX3) (T := TX3) (N := 9) hx hb hts hinX3 hown hK hP 0 rfl rfl 0 (by decide) (hts (.fieldLink RX3 10 "OneShort" "orchestra" "LOneShort$Orchestra;") (List.mem_of_getElem? (i := 1) rfl)) (fun _ h9 => h9) rfl dX3_heard_23 ?_
      refine lv_iload_n hx hb dX3_heard_26 rfl (lv_at hl 1 rfl) ?_
      refine lv_aload_n hx hb dX3_heard_27 rfl (lv_at hl 0 rfl) ?_
      refine va_get (D := D) (ci := 3) (v := .ref (ad 5)) (C := RX3) (T := TX3) (N := 9) hx hb hts hinX3 hown hK hP 0 rfl rfl 0 (by decide) (hts (.fieldLink RX3 10 "OneShort" "orchestra" "LOneShort$Orchestra;") (List.mem_of_getElem? (i := 1) rfl)) (fun _ h9 => h9) rfl dX3_heard_28 ?_
      refine lv_iload_n hx hb dX3_heard_31 rfl (lv_at hl 2 rfl) ?_
      refine ro_V (n := 1) (As := [.int (nI bn)]) (rest := [.int (nI svn), .ref (ad 5)]) ⟨hx, hb, hml, hown, hts⟩ (c_X0_playersIn l D ci G ka (sh ad 5) X.1 (z 0) (z 1) (z 2) (bn) hWF (by omega)) gX3_heard_X0_playersIn rfl ⟨rfl, rfl⟩ (by decide +kernel) rfl ⟨Nat.le_of_ble_eq_true rfl, Nat.le_of_ble_eq_true rfl⟩ hE (en_S hGA hs0 hS) hK (wX_s5 hP) (ci := 0) (q0 := 0) rfl rfl hl.1 rfl (Nat.le_of_ble_eq_true rfl) dX3_heard_32 ⟨Nat.zero_le _, Nat.zero_le _⟩ ?_
      have f3 := playIn_lt hWF (bn)
      refine ro_V (n := 2) (As := [.int (nI svn), .int (nI (playIn X.1 bn))]) (rest := []) ⟨hx, hb, hml, hown, hts⟩ (c_X0_greatest l D ci G ka (sh ad 5) X.1 (z 0) (z 1) (z 2) (svn) (playIn X.1 bn) hWF (by omega) (by omega)) gX3_heard_X0_greatest rfl ⟨rfl, rfl⟩ (by decide +kernel) rfl ⟨Nat.le_of_ble_eq_true rfl, Nat.le_of_ble_eq_true rfl⟩ hE (en_S hGA hs0 hS) hK (wX_s5 hP) (ci := 0) (q0 := 0) rfl rfl hl.1 rfl (Nat.le_of_ble_eq_true rfl) dX3_heard_35 ⟨Nat.zero_le _, Nat.zero_le _⟩ ?_
      have f4 := great_lt' hWF (svn) ((playIn X.1 bn))
      have hp : p_heard X (nI svn) (nI bn) = (nI (great X.1 svn (playIn X.1 bn)), X) := by first | (simp [p_heard, bk, fl_eq, inP, c1, c2, t_svn, t_bn]; done) | (simp [p_heard, bk, fl_eq, inP, c1, c2, t_svn, t_bn] <;> omega)
      refine nv_cv (show nI (great X.1 svn (playIn X.1 bn)) = (p_heard X (nI svn) (nI bn)).1 from by rw [hp]) ?_
      exact mu_iret hx hb hr hlocks hS ((by rw [hp]; exact ⟨_, _, _, _, _, hP⟩)) dX3_heard_38
    · refine lv_aload_n hx hb dX3_heard_16 rfl (lv_at hl 0 rfl) ?_
      refine lv_iconst (v := nI (0)) hx hb dX3_heard_17 (by decide) ?_
      refine mu_V (n := 1) (As := [.int (nI 0)]) (rest := []) ⟨hx, hb, hml, hown, hts⟩ (c_X3_finding l D ci G ka ad X T tq la tt z hI hG (0) hWX (by omega)) gX3_heard_X3_finding rfl ⟨rfl, rfl⟩ (by decide +kernel) rfl ⟨Nat.le_of_ble_eq_true rfl, Nat.le_of_ble_eq_true rfl⟩ hE (en_S hGA hs0 hS) hK hP (ci := 3) (q0 := 0) rfl rfl hl.1 rfl (Nat.le_of_ble_eq_true rfl) dX3_heard_18 ⟨Nat.zero_le _, Nat.zero_le _⟩ hS (fun _ h => h) (fun H1 locs hz hfr hB hS => ?_)
      obtain ⟨T, tq, la, tt, z, hP⟩ := hB
      generalize H1 = H at hP hS ⊢
      have hD : va_D (aX ad) (wX ci ad (toF X (inc X.2.2.2.1 0)) T tq la tt z) := wX_D hI
      have hp : p_heard X (nI svn) b = (fnd 0, toF X (inc X.2.2.2.1 0)) := by first | (simp [p_heard, bk, fl_eq, inP, c1, c2, t_svn]; done) | (simp [p_heard, bk, fl_eq, inP, c1, c2, t_svn] <;> omega)
      refine nv_cv (show fnd 0 = (p_heard X (nI svn) b).1 from by rw [hp]) ?_
      exact mu_iret hx hb hr hlocks hS ((by rw [hp]; exact ⟨_, _, _, _, _, hP⟩)) dX3_heard_21

set_option maxHeartbeats 4000000 in
set_option maxRecDepth 100000 in
/-- X3_hears -/
theorem c_X3_hears (l : Launch) (D : va_G) (ci : Nat → ClassId) (G : Nat → Prop) (ka : Nat) (ad : Nat → Nat) (X : AS) (T : OS) (tq la tt : Nat → Int32) (z : Nat → Nat → Int32) (hI : injA ad 48) (hG : ∀ k, k < 48 → G (ad k)) (x y : Int32) (hWX : WFX X) : Met l yX3_hears wsX3_hears ({ frames := 4, cells := 0, slots := 0, locals := 89 } : Room) (va_Pc [.ref (ad 0), .int (x), .int (y)] (ro_B D (tyL ci) (wX ci ad X T tq la tt z) (en D (ci 0) G ka))) (mu_Q (aX ad) (some (.int ((p_hears X x y).1))) (fun H => ∃ T tq la tt z, va_P D vwCl (wX ci ad ((p_hears X x y).2) T tq la tt z) H)) 0 0 (aX ad) := by
  refine mu_Met (cc := cX3_hears) (maxL := 3) (ret := (some .int)) [(0, .ref (ad 0)), (1, .int (x)), (2, .int (y))] (wX_D hI) (by decide) rfl (Nat.le_of_ble_eq_true rfl) rfl ?_
  intro p e s m below meth c H locs hx hb hml hr hlocks hts hown hP hK hs0 hD hS ls hl
  have hown : s.vm.findClass RX3 = some m.cls := hown
  have hinX3 : ∀ w ∈ wsX30, w ∈ wsX3_hears := by decide +kernel
  have hE := hE_en D (ci 0) G ka
  have hWF := hWX.w
  have f_n := hWF.n
  have f_e := hWX.e
  have f_tl := hWX.t
  have hGA := aX_G hG
  have hWK := hWX.k
  refine lv_aload_n hx hb dX3_hears_0 rfl (lv_at hl 0 rfl) ?_
  refine lv_iload_n hx hb dX3_hears_1 rfl (lv_at hl 1 rfl) ?_
  refine lv_iload_n hx hb dX3_hears_2 rfl (lv_at hl 2 rfl) ?_
  refine ro_V (n := 2) (As := [.int (x), .int (y)]) (rest := []) ⟨hx, hb, hml, hown, hts⟩ (c_X3_isPair l D ci G ka ad X T tq la tt z (x) (y) hWX) gX3_hears_X3_isPair rfl ⟨rfl, rfl⟩ (by decide +kernel) rfl ⟨Nat.le_of_ble_eq_true rfl, Nat.le_of_ble_eq_true rfl⟩ hE (en_S hGA hs0 hS) hK hP (ci := 3) (q0 := 0) rfl rfl hl.1 rfl (Nat.le_of_ble_eq_true rfl) dX3_hears_3 ⟨Nat.zero_le _, Nat.zero_le _⟩ ?_
  refine nv_ifne_b (tgt := 15) hx hb dX3_hears_6 (by decide) (fun c1 => ?_) (fun c1 => ?_)
  · obtain ⟨xn, yn, h_xn, h_yn, h_ne, rfl, rfl⟩ := pair_ex c1 f_n
    have t_xn : tn (nI xn) = xn := tn_nI (by omega)
    have t_yn : tn (nI yn) = yn := tn_nI (by omega)
    refine lv_aload_n hx hb dX3_hears_15 rfl (lv_at hl 0 rfl) ?_
    refine va_get (D := D) (ci := 3) (v := .ref (ad 5)) (C := RX3) (T := TX3) (N := 9) hx hb hts hinX3 hown hK hP 0 rfl rfl 0 (by decide) (hts (.fieldLink RX3 10 "OneShort" "orchestra" "LOneShort$Orchestra;") (List.mem_of_getElem? (i := 1) rfl)) (fun _ h9 => h9) rfl dX3_hears_16 ?_
    refine lv_iload_n hx hb dX3_hears_19 rfl (lv_at hl 1 rfl) ?_
    refine lv_iload_n hx hb dX3_hears_20 rfl (lv_at hl 2 rfl) ?_
    refine ro_V (n := 2) (As := [.int (nI xn), .int (nI yn)]) (rest := []) ⟨hx, hb, hml, hown, hts⟩ (c_X0_barsHearing l D ci G ka (sh ad 5) X.1 (z 0) (z 1) (z 2) (xn) (yn) hWF (by omega) (by omega)) gX3_hears_X0_barsHearing rfl ⟨rfl, rfl⟩ (by decide +kernel) rfl ⟨Nat.le_of_ble_eq_true rfl, Nat.le_of_ble_eq_true rfl⟩ hE (en_S hGA hs0 hS) hK (wX_s5 hP) (ci := 0) (q0 := 0) rfl rfl hl.1 rfl (Nat.le_of_ble_eq_true rfl) dX3_hears_21 ⟨Nat.zero_le _, Nat.zero_le _⟩ ?_
    have f2 := bHear_lt X.1 (xn) (yn)
    have hp : p_hears X (nI xn) (nI yn) = (nI (bHear X.1 xn yn), X) := by first | (simp [p_hears, bk, fl_eq, inP, c1, t_xn, t_yn]; done) | (simp [p_hears, bk, fl_eq, inP, c1, t_xn, t_yn] <;> omega)
    refine nv_cv (show nI (bHear X.1 xn yn) = (p_hears X (nI xn) (nI yn)).1 from by rw [hp]) ?_
    exact mu_iret hx hb hr hlocks hS ((by rw [hp]; exact ⟨_, _, _, _, _, hP⟩)) dX3_hears_24
  · refine lv_aload_n hx hb dX3_hears_9 rfl (lv_at hl 0 rfl) ?_
    refine lv_iconst (v := nI (0)) hx hb dX3_hears_10 (by decide) ?_
    refine mu_V (n := 1) (As := [.int (nI 0)]) (rest := []) ⟨hx, hb, hml, hown, hts⟩ (c_X3_finding l D ci G ka ad X T tq la tt z hI hG (0) hWX (by omega)) gX3_hears_X3_finding rfl ⟨rfl, rfl⟩ (by decide +kernel) rfl ⟨Nat.le_of_ble_eq_true rfl, Nat.le_of_ble_eq_true rfl⟩ hE (en_S hGA hs0 hS) hK hP (ci := 3) (q0 := 0) rfl rfl hl.1 rfl (Nat.le_of_ble_eq_true rfl) dX3_hears_11 ⟨Nat.zero_le _, Nat.zero_le _⟩ hS (fun _ h => h) (fun H1 locs hz hfr hB hS => ?_)
    obtain ⟨T, tq, la, tt, z, hP⟩ := hB
    generalize H1 = H at hP hS ⊢
    have hD : va_D (aX ad) (wX ci ad (toF X (inc X.2.2.2.1 0)) T tq la tt z) := wX_D hI
    have hp : p_hears X x y = (fnd 0, toF X (inc X.2.2.2.1 0)) := by first | (simp [p_hears, bk, fl_eq, inP, c1]; done) | (simp [p_hears, bk, fl_eq, inP, c1] <;> omega)
    refine nv_cv (show fnd 0 = (p_hears X x y).1 from by rw [hp]) ?_
    exact mu_iret hx hb hr hlocks hS ((by rw [hp]; exact ⟨_, _, _, _, _, hP⟩)) dX3_hears_14

set_option maxHeartbeats 4000000 in
set_option maxRecDepth 100000 in
/-- X3_hearing -/
theorem c_X3_hearing (l : Launch) (D : va_G) (ci : Nat → ClassId) (G : Nat → Prop) (ka : Nat) (ad : Nat → Nat) (X : AS) (T : OS) (tq la tt : Nat → Int32) (z : Nat → Nat → Int32) (hI : injA ad 48) (hG : ∀ k, k < 48 → G (ad k)) (q b : Int32) (hWX : WFX X) : Met l yX3_hearing wsX3_hearing ({ frames := 5, cells := 0, slots := 0, locals := 112 } : Room) (va_Pc [.ref (ad 0), .int (q), .int (b)] (ro_B D (tyL ci) (wX ci ad X T tq la tt z) (en D (ci 0) G ka))) (mu_Q (aX ad) (some (.int ((p_hearing X q b).1))) (fun H => ∃ T tq la tt z, va_P D vwCl (wX ci ad ((p_hearing X q b).2) T tq la tt z) H)) 0 0 (aX ad) := by
  refine mu_Met (cc := cX3_hearing) (maxL := 3) (ret := (some .int)) [(0, .ref (ad 0)), (1, .int (q)), (2, .int (b))] (wX_D hI) (by decide) rfl (Nat.le_of_ble_eq_true rfl) rfl ?_
  intro p e s m below meth c H locs hx hb hml hr hlocks hts hown hP hK hs0 hD hS ls hl
  have hown : s.vm.findClass RX3 = some m.cls := hown
  have hinX3 : ∀ w ∈ wsX30, w ∈ wsX3_hearing := by decide +kernel
  have hE := hE_en D (ci 0) G ka
  have hWF := hWX.w
  have f_n := hWF.n
  have f_e := hWX.e
  have f_tl := hWX.t
  have hGA := aX_G hG
  have hWK := hWX.k
  refine lv_aload_n hx hb dX3_hearing_0 rfl (lv_at hl 0 rfl) ?_
  refine lv_iload_n hx hb dX3_hearing_1 rfl (lv_at hl 1 rfl) ?_
  refine ro_V (n := 1) (As := [.int (q)]) (rest := []) ⟨hx, hb, hml, hown, hts⟩ (c_X3_isPlayer l D ci G ka ad X T tq la tt z (q) hWX) gX3_hearing_X3_isPlayer rfl ⟨rfl, rfl⟩ (by decide +kernel) rfl ⟨Nat.le_of_ble_eq_true rfl, Nat.le_of_ble_eq_true rfl⟩ hE (en_S hGA hs0 hS) hK hP (ci := 3) (q0 := 0) rfl rfl hl.1 rfl (Nat.le_of_ble_eq_true rfl) dX3_hearing_2 ⟨Nat.zero_le _, Nat.zero_le _⟩ ?_
  refine nv_ifeq_b (tgt := 16) hx hb dX3_hearing_5 (by decide) (fun c1 => ?_) (fun c1 => ?_)
  · refine lv_aload_n hx hb dX3_hearing_16 rfl (lv_at hl 0 rfl) ?_
    refine lv_iconst (v := nI (0)) hx hb dX3_hearing_17 (by decide) ?_
    refine mu_V (n := 1) (As := [.int (nI 0)]) (rest := []) ⟨hx, hb, hml, hown, hts⟩ (c_X3_finding l D ci G ka ad X T tq la tt z hI hG (0) hWX (by omega)) gX3_hearing_X3_finding rfl ⟨rfl, rfl⟩ (by decide +kernel) rfl ⟨Nat.le_of_ble_eq_true rfl, Nat.le_of_ble_eq_true rfl⟩ hE (en_S hGA hs0 hS) hK hP (ci := 3) (q0 := 0) rfl rfl hl.1 rfl (Nat.le_of_ble_eq_true rfl) dX3_hearing_18 ⟨Nat.zero_le _, Nat.zero_le _⟩ hS (fun _ h => h) (fun H1 locs hz hfr hB hS => ?_)
    obtain ⟨T, tq, la, tt, z, hP⟩ := hB
    generalize H1 = H at hP hS ⊢
    have hD : va_D (aX ad) (wX ci ad (toF X (inc X.2.2.2.1 0)) T tq la tt z) := wX_D hI
    have hp : p_hearing X q b = (fnd 0, toF X (inc X.2.2.2.1 0)) := by first | (simp [p_hearing, bk, fl_eq, inP, c1]; done) | (simp [p_hearing, bk, fl_eq, inP, c1] <;> omega)
    refine nv_cv (show fnd 0 = (p_hearing X q b).1 from by rw [hp]) ?_
    exact mu_iret hx hb hr hlocks hS ((by rw [hp]; exact ⟨_, _, _, _, _, hP⟩)) dX3_hearing_21
  · obtain ⟨qn, h_qn, rfl⟩ := in_ex c1 (by omega)
    have t_qn : tn (nI qn) = qn := tn_nI (by omega)
    refine lv_aload_n hx hb dX3_hearing_8 rfl (lv_at hl 0 rfl) ?_
    refine lv_iload_n hx hb dX3_hearing_9 rfl (lv_at hl 2 rfl) ?_
    refine ro_V (n := 1) (As := [.int (b)]) (rest := []) ⟨hx, hb, hml, hown, hts⟩ (c_X3_isBar l D ci G ka ad X T tq la tt z (b) hWX) gX3_hearing_X3_isBar rfl ⟨rfl, rfl⟩ (by decide +kernel) rfl ⟨Nat.le_of_ble_eq_true rfl, Nat.le_of_ble_eq_true rfl⟩ hE (en_S hGA hs0 hS) hK hP (ci := 3) (q0 := 0) rfl rfl hl.1 rfl (Nat.le_of_ble_eq_true rfl) dX3_hearing_10 ⟨Nat.zero_le _, Nat.zero_le _⟩ ?_
    refine nv_ifne_b (tgt := 22) hx hb dX3_hearing_13 (by decide) (fun c2 => ?_) (fun c2 => ?_)
    · obtain ⟨bn, h_bn, rfl⟩ := in_ex c2 (by omega)
      have t_bn : tn (nI bn) = bn := tn_nI (by omega)
      refine lv_aload_n hx hb dX3_hearing_22 rfl (lv_at hl 0 rfl) ?_
      refine va_get (D := D) (ci := 3) (v := .ref (ad 5)) (C := RX3) (T := TX3) (N := 9) hx hb hts hinX3 hown hK hP 0 rfl rfl 0 (by decide) (hts (.fieldLink RX3 10 "OneShort" "orchestra" "LOneShort$Orchestra;") (List.mem_of_getElem? (i := 1) rfl)) (fun _ h9 => h9) rfl dX3_hearing_23 ?_
      refine lv_iload_n hx hb dX3_hearing_26 rfl (lv_at hl 1 rfl) ?_
      refine ro_V (n := 1) (As := [.int (nI qn)]) (rest := []) ⟨hx, hb, hml, hown, hts⟩ (c_X0_reaching l D ci G ka (sh ad 5) X.1 (z 0) (z 1) (z 2) (qn) hWF (by omega)) gX3_hearing_X0_reaching rfl ⟨rfl, rfl⟩ (by decide +kernel) rfl ⟨Nat.le_of_ble_eq_true rfl, Nat.le_of_ble_eq_true rfl⟩ hE (en_S hGA hs0 hS) hK (wX_s5 hP) (ci := 0) (q0 := 0) rfl rfl hl.1 rfl (Nat.le_of_ble_eq_true rfl) dX3_hearing_27 ⟨Nat.zero_le _, Nat.zero_le _⟩ ?_
      have f3 := reachS_lt hWF (qn)
      refine lv_aload_n hx hb dX3_hearing_30 rfl (lv_at hl 0 rfl) ?_
      refine va_get (D := D) (ci := 3) (v := .ref (ad 5)) (C := RX3) (T := TX3) (N := 9) hx hb hts hinX3 hown hK hP 0 rfl rfl 0 (by decide) (hts (.fieldLink RX3 10 "OneShort" "orchestra" "LOneShort$Orchestra;") (List.mem_of_getElem? (i := 1) rfl)) (fun _ h9 => h9) rfl dX3_hearing_31 ?_
      refine lv_iload_n hx hb dX3_hearing_34 rfl (lv_at hl 2 rfl) ?_
      refine ro_V (n := 1) (As := [.int (nI bn)]) (rest := [.int (nI (reachS X.1 qn))]) ⟨hx, hb, hml, hown, hts⟩ (c_X0_playersIn l D ci G ka (sh ad 5) X.1 (z 0) (z 1) (z 2) (bn) hWF (by omega)) gX3_hearing_X0_playersIn rfl ⟨rfl, rfl⟩ (by decide +kernel) rfl ⟨Nat.le_of_ble_eq_true rfl, Nat.le_of_ble_eq_true rfl⟩ hE (en_S hGA hs0 hS) hK (wX_s5 hP) (ci := 0) (q0 := 0) rfl rfl hl.1 rfl (Nat.le_of_ble_eq_true rfl) dX3_hearing_35 ⟨Nat.zero_le _, Nat.zero_le _⟩ ?_
      have f4 := playIn_lt hWF (bn)
      refine nv_iand hx hb dX3_hearing_38 ?_
      have f5 : (reachS X.1 qn &&& playIn X.1 bn) ≤ playIn X.1 bn := Nat.and_le_right
      have f6 : (reachS X.1 qn &&& playIn X.1 bn) ≤ reachS X.1 qn := Nat.and_le_left
      have hp : p_hearing X (nI qn) (nI bn) = (nI ((reachS X.1 qn &&& playIn X.1 bn)), X) := by first | (simp [p_hearing, bk, fl_eq, inP, c1, c2, t_qn, t_bn]; done) | (simp [p_hearing, bk, fl_eq, inP, c1, c2, t_qn, t_bn] <;> omega)
      refine nv_cv (show nI ((reachS X.1 qn &&& playIn X.1 bn)) = (p_hearing X (nI qn) (nI bn)).1 from by rw [hp]) ?_
      exact mu_iret hx hb hr hlocks hS ((by rw [hp]; exact ⟨_, _, _, _, _, hP⟩)) dX3_hearing_39
    · refine lv_aload_n hx hb dX3_hearing_16 rfl (lv_at hl 0 rfl) ?_
      refine lv_iconst (v := nI (0)) hx hb dX3_hearing_17 (by decide) ?_
      refine mu_V (n := 1) (As := [.int (nI 0)]) (rest := []) ⟨hx, hb, hml, hown, hts⟩ (c_X3_finding l D ci G ka ad X T tq la tt z hI hG (0) hWX (by omega)) gX3_hearing_X3_finding rfl ⟨rfl, rfl⟩ (by decide +kernel) rfl ⟨Nat.le_of_ble_eq_true rfl, Nat.le_of_ble_eq_true rfl⟩ hE (en_S hGA hs0 hS) hK hP (ci := 3) (q0 := 0) rfl rfl hl.1 rfl (Nat.le_of_ble_eq_true rfl) dX3_hearing_18 ⟨Nat.zero_le _, Nat.zero_le _⟩ hS (fun _ h => h) (fun H1 locs hz hfr hB hS => ?_)
      obtain ⟨T, tq, la, tt, z, hP⟩ := hB
      generalize H1 = H at hP hS ⊢
      have hD : va_D (aX ad) (wX ci ad (toF X (inc X.2.2.2.1 0)) T tq la tt z) := wX_D hI
      have hp : p_hearing X (nI qn) b = (fnd 0, toF X (inc X.2.2.2.1 0)) := by first | (simp [p_hearing, bk, fl_eq, inP, c1, c2, t_qn]; done) | (simp [p_hearing, bk, fl_eq, inP, c1, c2, t_qn] <;> omega)
      refine nv_cv (show fnd 0 = (p_hearing X (nI qn) b).1 from by rw [hp]) ?_
      exact mu_iret hx hb hr hlocks hS ((by rw [hp]; exact ⟨_, _, _, _, _, hP⟩)) dX3_hearing_21

set_option maxHeartbeats 4000000 in
set_option maxRecDepth 100000 in
/-- X3_links -/
theorem c_X3_links (l : Launch) (D : va_G) (ci : Nat → ClassId) (G : Nat → Prop) (ka : Nat) (ad : Nat → Nat) (X : AS) (T : OS) (tq la tt : Nat → Int32) (z : Nat → Nat → Int32) (hI : injA ad 48) (hG : ∀ k, k < 48 → G (ad k))  (hWX : WFX X) : Met l yX3_links wsX3_links ({ frames := 4, cells := 0, slots := 0, locals := 91 } : Room) (va_Pc [.ref (ad 0)] (ro_B D (tyL ci) (wX ci ad X T tq la tt z) (en D (ci 0) G ka))) (mu_Q (aX ad) (some (.int ((p_links X).1))) (fun H => ∃ T tq la tt z, va_P D vwCl (wX ci ad ((p_links X).2) T tq la tt z) H)) 0 0 (aX ad) := by
  refine mu_Met (cc := cX3_links) (maxL := 1) (ret := (some .int)) [(0, .ref (ad 0))] (wX_D hI) (by decide) rfl (Nat.le_of_ble_eq_true rfl) rfl ?_
  intro p e s m below meth c H locs hx hb hml hr hlocks hts hown hP hK hs0 hD hS ls hl
  have hown : s.vm.findClass RX3 = some m.cls := hown
  have hinX3 : ∀ w ∈ wsX30, w ∈ wsX3_links := by decide +kernel
  have hE := hE_en D (ci 0) G ka
  have hWF := hWX.w
  have f_n := hWF.n
  have f_e := hWX.e
  have f_tl := hWX.t
  have hGA := aX_G hG
  have hWK := hWX.k
  refine lv_aload_n hx hb dX3_links_0 rfl (lv_at hl 0 rfl) ?_
  refine va_get (D := D) (ci := 3) (v := .ref (ad 5)) (C := RX3) (T := TX3) (N := 9) hx hb hts hinX3 hown hK hP 0 rfl rfl 0 (by decide) (hts (.fieldLink RX3 10 "OneShort" "orchestra" "LOneShort$Orchestra;") (List.mem_of_getElem? (i := 1) rfl)) (fun _ h9 => h9) rfl dX3_links_1 ?_
  refine ro_V (n := 0) (As := []) (rest := []) ⟨hx, hb, hml, hown, hts⟩ (c_X0_pairsHearing l D ci G ka (sh ad 5) X.1 (z 0) (z 1) (z 2)  hWF) gX3_links_X0_pairsHearing rfl ⟨rfl, rfl⟩ (by decide +kernel) rfl ⟨Nat.le_of_ble_eq_true rfl, Nat.le_of_ble_eq_true rfl⟩ hE (en_S hGA hs0 hS) hK (wX_s5 hP) (ci := 0) (q0 := 0) rfl rfl hl.1 rfl (Nat.le_of_ble_eq_true rfl) dX3_links_4 ⟨Nat.zero_le _, Nat.zero_le _⟩ ?_
  have hp : p_links X = (nI (links X.1), X) := rfl
  refine nv_cv (show nI (links X.1) = (p_links X).1 from by rw [hp]) ?_
  exact mu_iret hx hb hr hlocks hS ((by rw [hp]; exact ⟨_, _, _, _, _, hP⟩)) dX3_links_7

set_option maxHeartbeats 4000000 in
set_option maxRecDepth 100000 in
/-- X3_parts -/
theorem c_X3_parts (l : Launch) (D : va_G) (ci : Nat → ClassId) (G : Nat → Prop) (ka : Nat) (ad : Nat → Nat) (X : AS) (T : OS) (tq la tt : Nat → Int32) (z : Nat → Nat → Int32) (hI : injA ad 48) (hG : ∀ k, k < 48 → G (ad k)) (x y : Int32) (hWX : WFX X) : Met l yX3_parts wsX3_parts ({ frames := 3, cells := 0, slots := 0, locals := 67 } : Room) (va_Pc [.ref (ad 0), .int (x), .int (y)] (ro_B D (tyL ci) (wX ci ad X T tq la tt z) (en D (ci 0) G ka))) (mu_Q (aX ad) (some (.int ((p_parts X x y).1))) (fun H => ∃ T tq la tt z, va_P D vwCl (wX ci ad ((p_parts X x y).2) T tq la tt z) H)) 0 0 (aX ad) := by
  refine mu_Met (cc := cX3_parts) (maxL := 3) (ret := (some .int)) [(0, .ref (ad 0)), (1, .int (x)), (2, .int (y))] (wX_D hI) (by decide) rfl (Nat.le_of_ble_eq_true rfl) rfl ?_
  intro p e s m below meth c H locs hx hb hml hr hlocks hts hown hP hK hs0 hD hS ls hl
  have hown : s.vm.findClass RX3 = some m.cls := hown
  have hinX3 : ∀ w ∈ wsX30, w ∈ wsX3_parts := by decide +kernel
  have hE := hE_en D (ci 0) G ka
  have hWF := hWX.w
  have f_n := hWF.n
  have f_e := hWX.e
  have f_tl := hWX.t
  have hGA := aX_G hG
  have hWK := hWX.k
  refine lv_aload_n hx hb dX3_parts_0 rfl (lv_at hl 0 rfl) ?_
  refine lv_iload_n hx hb dX3_parts_1 rfl (lv_at hl 1 rfl) ?_
  refine lv_iload_n hx hb dX3_parts_2 rfl (lv_at hl 2 rfl) ?_
  refine ro_V (n := 2) (As := [.int (x), .int (y)]) (rest := []) ⟨hx, hb, hml, hown, hts⟩ (c_X3_isPair l D ci G ka ad X T tq la tt z (x) (y) hWX) gX3_parts_X3_isPair rfl ⟨rfl, rfl⟩ (by decide +kernel) rfl ⟨Nat.le_of_ble_eq_true rfl, Nat.le_of_ble_eq_true rfl⟩ hE (en_S hGA hs0 hS) hK hP (ci := 3) (q0 := 0) rfl rfl hl.1 rfl (Nat.le_of_ble_eq_true rfl) dX3_parts_3 ⟨Nat.zero_le _, Nat.zero_le _⟩ ?_
  refine nv_ifne_b (tgt := 15) hx hb dX3_parts_6 (by decide) (fun c1 => ?_) (fun c1 => ?_)
  · obtain ⟨xn, yn, h_xn, h_yn, h_ne, rfl, rfl⟩ := pair_ex c1 f_n
    have t_xn : tn (nI xn) = xn := tn_nI (by omega)
    have t_yn : tn (nI yn) = yn := tn_nI (by omega)
    refine lv_aload_n hx hb dX3_parts_15 rfl (lv_at hl 0 rfl) ?_
    refine va_get (D := D) (ci := 3) (v := .ref (ad 5)) (C := RX3) (T := TX3) (N := 9) hx hb hts hinX3 hown hK hP 0 rfl rfl 0 (by decide) (hts (.fieldLink RX3 10 "OneShort" "orchestra" "LOneShort$Orchestra;") (List.mem_of_getElem? (i := 1) rfl)) (fun _ h9 => h9) rfl dX3_parts_16 ?_
    refine lv_iload_n hx hb dX3_parts_19 rfl (lv_at hl 1 rfl) ?_
    refine ro_V (n := 1) (As := [.int (nI xn)]) (rest := []) ⟨hx, hb, hml, hown, hts⟩ (c_X0_barsPlayed l D ci G ka (sh ad 5) X.1 (z 0) (z 1) (z 2) (xn) hWF (by omega)) gX3_parts_X0_barsPlayed rfl ⟨rfl, rfl⟩ (by decide +kernel) rfl ⟨Nat.le_of_ble_eq_true rfl, Nat.le_of_ble_eq_true rfl⟩ hE (en_S hGA hs0 hS) hK (wX_s5 hP) (ci := 0) (q0 := 0) rfl rfl hl.1 rfl (Nat.le_of_ble_eq_true rfl) dX3_parts_20 ⟨Nat.zero_le _, Nat.zero_le _⟩ ?_
    have f2 := bPlay_lt X.1 (xn)
    refine lv_aload_n hx hb dX3_parts_23 rfl (lv_at hl 0 rfl) ?_
    refine va_get (D := D) (ci := 3) (v := .ref (ad 5)) (C := RX3) (T := TX3) (N := 9) hx hb hts hinX3 hown hK hP 0 rfl rfl 0 (by decide) (hts (.fieldLink RX3 10 "OneShort" "orchestra" "LOneShort$Orchestra;") (List.mem_of_getElem? (i := 1) rfl)) (fun _ h9 => h9) rfl dX3_parts_24 ?_
    refine lv_iload_n hx hb dX3_parts_27 rfl (lv_at hl 2 rfl) ?_
    refine ro_V (n := 1) (As := [.int (nI yn)]) (rest := [.int (nI (bPlay X.1 xn))]) ⟨hx, hb, hml, hown, hts⟩ (c_X0_barsPlayed l D ci G ka (sh ad 5) X.1 (z 0) (z 1) (z 2) (yn) hWF (by omega)) gX3_parts_X0_barsPlayed rfl ⟨rfl, rfl⟩ (by decide +kernel) rfl ⟨Nat.le_of_ble_eq_true rfl, Nat.le_of_ble_eq_true rfl⟩ hE (en_S hGA hs0 hS) hK (wX_s5 hP) (ci := 0) (q0 := 0) rfl rfl hl.1 rfl (Nat.le_of_ble_eq_true rfl) dX3_parts_28 ⟨Nat.zero_le _, Nat.zero_le _⟩ ?_
    have f3 := bPlay_lt X.1 (yn)
    refine nv_ixor hx hb dX3_parts_31 ?_
    have hp : p_parts X (nI xn) (nI yn) = (nI ((bPlay X.1 xn ^^^ bPlay X.1 yn)), X) := by first | (simp [p_parts, bk, fl_eq, inP, c1, t_xn, t_yn]; done) | (simp [p_parts, bk, fl_eq, inP, c1, t_xn, t_yn] <;> omega)
    refine nv_cv (show nI ((bPlay X.1 xn ^^^ bPlay X.1 yn)) = (p_parts X (nI xn) (nI yn)).1 from by rw [hp]) ?_
    exact mu_iret hx hb hr hlocks hS ((by rw [hp]; exact ⟨_, _, _, _, _, hP⟩)) dX3_parts_32
  · refine lv_aload_n hx hb dX3_parts_9 rfl (lv_at hl 0 rfl) ?_
    refine lv_iconst (v := nI (0)) hx hb dX3_parts_10 (by decide) ?_
    refine mu_V (n := 1) (As := [.int (nI 0)]) (rest := []) ⟨hx, hb, hml, hown, hts⟩ (c_X3_finding l D ci G ka ad X T tq la tt z hI hG (0) hWX (by omega)) gX3_parts_X3_finding rfl ⟨rfl, rfl⟩ (by decide +kernel) rfl ⟨Nat.le_of_ble_eq_true rfl, Nat.le_of_ble_eq_true rfl⟩ hE (en_S hGA hs0 hS) hK hP (ci := 3) (q0 := 0) rfl rfl hl.1 rfl (Nat.le_of_ble_eq_true rfl) dX3_parts_11 ⟨Nat.zero_le _, Nat.zero_le _⟩ hS (fun _ h => h) (fun H1 locs hz hfr hB hS => ?_)
    obtain ⟨T, tq, la, tt, z, hP⟩ := hB
    generalize H1 = H at hP hS ⊢
    have hD : va_D (aX ad) (wX ci ad (toF X (inc X.2.2.2.1 0)) T tq la tt z) := wX_D hI
    have hp : p_parts X x y = (fnd 0, toF X (inc X.2.2.2.1 0)) := by first | (simp [p_parts, bk, fl_eq, inP, c1]; done) | (simp [p_parts, bk, fl_eq, inP, c1] <;> omega)
    refine nv_cv (show fnd 0 = (p_parts X x y).1 from by rw [hp]) ?_
    exact mu_iret hx hb hr hlocks hS ((by rw [hp]; exact ⟨_, _, _, _, _, hP⟩)) dX3_parts_14
