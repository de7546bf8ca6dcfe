/-! walks laid by program -/
set_option maxHeartbeats 4000000 in
set_option maxRecDepth 100000 in
/-- X4_isToldSo -/
theorem c_X4_isToldSo (l : Launch) (D : va_G) (ci : Nat → ClassId) (am : Nat → Nat) (X : AS) (kr : Nat → Int32) (q0 q1 q2 q3 q4 q5 : Int32) (iw : Bool) (kn : Nat → Option Nat) (y0 y1 y2 y3 y4 y5 y6 : Nat → Int32) (hI : injA am 16) (t0 w0 i0 j0 k0 v0 : Nat) (hWF : WF X.1) (h_t : t0 < 120) (h_y0 : y5 (5 * t0) = nI w0) (h_y1 : y5 (5 * t0 + 1) = nI i0) (h_y2 : y5 (5 * t0 + 2) = nI j0) (h_y3 : y5 (5 * t0 + 3) = nI k0) (h_y4 : y5 (5 * t0 + 4) = nI v0) (h_o : okI X.1 w0 i0 j0 k0 v0) : Met l yX4_isToldSo wsX4_isToldSo ({ frames := 2, cells := 0, slots := 0, locals := 47 } : Room) (va_Pc [.ref (am 0), .int (nI (5 * t0))] (ro_B D (tyL ci) (wN ci am X kr q0 q1 q2 q3 q4 q5 iw kn y0 y1 y2 y3 y4 y5 y6) (enT))) (mu_Q (aM am) (some (.int (nI ((if w0 = 10 then X.1 0 i0 else X.1 7 0))))) (fun H => va_P D vwCl (wN ci am (toS X (apI X.1 w0 i0 j0 k0 v0)) kr q0 q1 q2 q3 q4 q5 iw kn y0 y1 y2 y3 y4 y5 y6) H)) 0 0 (aM am) := by
  refine mu_Met (cc := cX4_isToldSo) (maxL := 4) (ret := (some .int)) [(0, .ref (am 0)), (1, .int (nI (5 * t0)))] (wN_D hI) (by decide) rfl (Nat.le_of_ble_eq_true rfl) rfl ?_
  intro p e s m below meth c H locs hx hb hml hr hlocks hts hown hP hK hs0 hD hS ls hl
  have hown : s.vm.findClass RX4 = some m.cls := hown
  have hinX4 : ∀ w ∈ wsX40, w ∈ wsX4_isToldSo := by decide +kernel
  have hE := hE_T
  have f_n := hWF.n
  have f_o := h_o
  unfold okI at f_o
  refine lv_aload_n hx hb dX4_isToldSo_0 rfl (lv_at hl 0 rfl) ?_
  refine va_get (D := D) (ci := 4) (v := .ref (am 11)) (C := RX4) (T := TX4) (N := 24) hx hb hts hinX4 hown hK hP 0 rfl rfl 17 (by decide) (hts (.fieldLink RX4 57 "OneShortModel" "items" "[I") (List.mem_of_getElem? (i := 1) rfl)) (fun _ h9 => h9) rfl dX4_isToldSo_1 ?_
  refine lv_iload_n hx hb dX4_isToldSo_4 rfl (lv_at hl 1 rfl) ?_
  refine lv_iconst (v := nI (1)) hx hb dX4_isToldSo_5 (by decide) ?_
  refine nv_iadd hx hb dX4_isToldSo_6 ?_
  refine nv_iald (v := nI (i0)) hx hb hK hP 11 0 rfl rfl (by omega) (by decide) h_y1 dX4_isToldSo_7 ?_
  refine lv_istore_n (lv' := [(2, .int (nI i0)), (0, .ref (am 0)), (1, .int (nI (5 * t0)))]) hx hb dX4_isToldSo_8 rfl hl (by decide) rfl (fun ls hl => ?_)
  refine lv_aload_n hx hb dX4_isToldSo_9 rfl (lv_at hl 1 rfl) ?_
  refine va_get (D := D) (ci := 4) (v := .ref (am 11)) (C := RX4) (T := TX4) (N := 24) hx hb hts hinX4 hown hK hP 0 rfl rfl 17 (by decide) (hts (.fieldLink RX4 57 "OneShortModel" "items" "[I") (List.mem_of_getElem? (i := 1) rfl)) (fun _ h9 => h9) rfl dX4_isToldSo_10 ?_
  refine lv_iload_n hx hb dX4_isToldSo_13 rfl (lv_at hl 2 rfl) ?_
  refine lv_iconst (v := nI (2)) hx hb dX4_isToldSo_14 (by decide) ?_
  refine nv_iadd hx hb dX4_isToldSo_15 ?_
  refine nv_iald (v := nI (j0)) hx hb hK hP 11 0 rfl rfl (by omega) (by decide) h_y2 dX4_isToldSo_16 ?_
  refine lv_istore_n (lv' := [(3, .int (nI j0)), (2, .int (nI i0)), (0, .ref (am 0)), (1, .int (nI (5 * t0)))]) hx hb dX4_isToldSo_17 rfl hl (by decide) rfl (fun ls hl => ?_)
  refine lv_aload_n hx hb dX4_isToldSo_18 rfl (lv_at hl 2 rfl) ?_
  refine va_get (D := D) (ci := 4) (v := .ref (am 11)) (C := RX4) (T := TX4) (N := 24) hx hb hts hinX4 hown hK hP 0 rfl rfl 17 (by decide) (hts (.fieldLink RX4 57 "OneShortModel" "items" "[I") (List.mem_of_getElem? (i := 1) rfl)) (fun _ h9 => h9) rfl dX4_isToldSo_19 ?_
  refine lv_iload_n hx hb dX4_isToldSo_22 rfl (lv_at hl 3 rfl) ?_
  refine nv_iald (v := nI (w0)) hx hb hK hP 11 0 rfl rfl (by omega) (by decide) h_y0 dX4_isToldSo_23 ?_
  refine lv_bipush (v := nI (10)) hx hb dX4_isToldSo_24 (by decide) ?_
  refine nv_icmp_ne (tgt := 40) hx hb (by omega) (by omega) dX4_isToldSo_26 (by decide) (fun c1 => ?_) (fun c1 => ?_)
  · refine lv_aload_n hx hb dX4_isToldSo_40 rfl (lv_at hl 2 rfl) ?_
    refine lv_aload_n hx hb dX4_isToldSo_41 rfl (lv_at hl 2 rfl) ?_
    refine va_get (D := D) (ci := 4) (v := .ref (am 11)) (C := RX4) (T := TX4) (N := 24) hx hb hts hinX4 hown hK hP 0 rfl rfl 17 (by decide) (hts (.fieldLink RX4 57 "OneShortModel" "items" "[I") (List.mem_of_getElem? (i := 1) rfl)) (fun _ h9 => h9) rfl dX4_isToldSo_42 ?_
    refine lv_iload_n hx hb dX4_isToldSo_45 rfl (lv_at hl 3 rfl) ?_
    refine nv_iald (v := nI (w0)) hx hb hK hP 11 0 rfl rfl (by omega) (by decide) h_y0 dX4_isToldSo_46 ?_
    refine lv_iload_n hx hb dX4_isToldSo_47 rfl (lv_at hl 1 rfl) ?_
    refine lv_iload_n hx hb dX4_isToldSo_48 rfl (lv_at hl 0 rfl) ?_
    refine lv_aload_n hx hb dX4_isToldSo_49 rfl (lv_at hl 2 rfl) ?_
    refine va_get (D := D) (ci := 4) (v := .ref (am 11)) (C := RX4) (T := TX4) (N := 24) hx hb hts hinX4 hown hK hP 0 rfl rfl 17 (by decide) (hts (.fieldLink RX4 57 "OneShortModel" "items" "[I") (List.mem_of_getElem? (i := 1) rfl)) (fun _ h9 => h9) rfl dX4_isToldSo_50 ?_
    refine lv_iload_n hx hb dX4_isToldSo_53 rfl (lv_at hl 3 rfl) ?_
    refine lv_iconst (v := nI (3)) hx hb dX4_isToldSo_54 (by decide) ?_
    refine nv_iadd hx hb dX4_isToldSo_55 ?_
    refine nv_iald (v := nI (k0)) hx hb hK hP 11 0 rfl rfl (by omega) (by decide) h_y3 dX4_isToldSo_56 ?_
    refine lv_aload_n hx hb dX4_isToldSo_57 rfl (lv_at hl 2 rfl) ?_
    refine va_get (D := D) (ci := 4) (v := .ref (am 11)) (C := RX4) (T := TX4) (N := 24) hx hb hts hinX4 hown hK hP 0 rfl rfl 17 (by decide) (hts (.fieldLink RX4 57 "OneShortModel" "items" "[I") (List.mem_of_getElem? (i := 1) rfl)) (fun _ h9 => h9) rfl dX4_isToldSo_58 ?_
    refine lv_iload_n hx hb dX4_isToldSo_61 rfl (lv_at hl 3 rfl) ?_
    refine lv_iconst (v := nI (4)) hx hb dX4_isToldSo_62 (by decide) ?_
    refine nv_iadd hx hb dX4_isToldSo_63 ?_
    refine nv_iald (v := nI (v0)) hx hb hK hP 11 0 rfl rfl (by omega) (by decide) h_y4 dX4_isToldSo_64 ?_
    refine mu_V (n := 5) (As := [.int (nI w0), .int (nI i0), .int (nI j0), .int (nI k0), .int (nI v0)]) (rest := []) ⟨hx, hb, hml, hown, hts⟩ (c_X4_comes l D ci am X kr q0 q1 q2 q3 q4 q5 iw kn y0 y1 y2 y3 y4 y5 y6 hI (w0) (i0) (j0) (k0) (v0) hWF (by omega)) gX4_isToldSo_X4_comes rfl ⟨rfl, rfl⟩ (by decide +kernel) rfl ⟨Nat.le_of_ble_eq_true rfl, Nat.le_of_ble_eq_true rfl⟩ hE trivial hK hP (ci := 4) (q0 := 0) rfl rfl hl.1 rfl (Nat.le_of_ble_eq_true rfl) dX4_isToldSo_65 ⟨Nat.zero_le _, Nat.zero_le _⟩ hS (fun _ h => h) (fun H1 locs hz hfr hB hS => ?_)
    have hP := hB
    have hP : va_P D vwCl (wN ci am (toS X (comeS X.1 w0 i0 j0 k0 v0)) kr q0 q1 q2 q3 q4 q5 iw kn y0 y1 y2 y3 y4 y5 y6) H1 := hP
    generalize H1 = H at hP hS ⊢
    have hD : va_D (aM am) (wN ci am (toS X (comeS X.1 w0 i0 j0 k0 v0)) kr q0 q1 q2 q3 q4 q5 iw kn y0 y1 y2 y3 y4 y5 y6) := wN_D hI
    refine nv_cv (show nI (X.1 7 0) = nI ((if w0 = 10 then X.1 0 i0 else X.1 7 0)) from nv_e (by first | rw [if_pos c1] | rw [if_neg c1])) ?_
    exact mu_iret hx hb hr hlocks hS ((by rw [show apI X.1 w0 i0 j0 k0 v0 = _ from by first | exact if_pos c1 | exact if_neg c1]; exact hP)) dX4_isToldSo_68
  · refine lv_aload_n hx hb dX4_isToldSo_29 rfl (lv_at hl 2 rfl) ?_
    refine lv_iconst (v := nI (3)) hx hb dX4_isToldSo_30 (by decide) ?_
    refine lv_iload_n hx hb dX4_isToldSo_31 rfl (lv_at hl 1 rfl) ?_
    refine nv_iadd hx hb dX4_isToldSo_32 ?_
    refine lv_iload_n hx hb dX4_isToldSo_33 rfl (lv_at hl 0 rfl) ?_
    refine mu_V (n := 2) (As := [.int (nI ((3 + i0))), .int (nI j0)]) (rest := []) ⟨hx, hb, hml, hown, hts⟩ (c_X4_become l D ci am X kr q0 q1 q2 q3 q4 q5 iw kn y0 y1 y2 y3 y4 y5 y6 hI ((3 + i0)) (nI (j0)) (st X.1 0 i0 j0) (nI (X.1 0 i0)) (by omega) (pk_bar X.1 (by omega)) (pku_bar X.1 (by omega))) gX4_isToldSo_X4_become rfl ⟨rfl, rfl⟩ (by decide +kernel) rfl ⟨Nat.le_of_ble_eq_true rfl, Nat.le_of_ble_eq_true rfl⟩ hE trivial hK hP (ci := 4) (q0 := 0) rfl rfl hl.1 rfl (Nat.le_of_ble_eq_true rfl) dX4_isToldSo_34 ⟨Nat.zero_le _, Nat.zero_le _⟩ hS (fun _ h => h) (fun H1 locs hz hfr hB hS => ?_)
    have hP := hB
    have hP : va_P D vwCl (wN ci am (toS X (st X.1 0 i0 j0)) kr q0 q1 q2 q3 q4 q5 iw kn y0 y1 y2 y3 y4 y5 y6) H1 := hP
    generalize H1 = H at hP hS ⊢
    have hD : va_D (aM am) (wN ci am (toS X (st X.1 0 i0 j0)) kr q0 q1 q2 q3 q4 q5 iw kn y0 y1 y2 y3 y4 y5 y6) := wN_D hI
    refine lv_goto (tgt := 68) hx hb dX4_isToldSo_37 (by decide) ?_
    refine nv_cv (show nI (X.1 0 i0) = nI ((if w0 = 10 then X.1 0 i0 else X.1 7 0)) from nv_e (by first | rw [if_pos c1] | rw [if_neg c1])) ?_
    exact mu_iret hx hb hr hlocks hS ((by rw [show apI X.1 w0 i0 j0 k0 v0 = _ from by first | exact if_pos c1 | exact if_neg c1]; exact hP)) dX4_isToldSo_68

set_option maxHeartbeats 4000000 in
set_option maxRecDepth 100000 in
/-- X4_text -/
theorem c_X4_text (l : Launch) (D : va_G) (ci : Nat → ClassId) (am : Nat → Nat) (X : AS) (kr : Nat → Int32) (q0 q1 q2 q3 q4 q5 : Int32) (iw : Bool) (kn : Nat → Option Nat) (y0 y1 y2 y3 y4 y5 y6 : Nat → Int32) (hI : injA am 16) (G : Nat → Prop) (adK adV : Nat → Nat) (fx : Nat)  (hWX : WFX X) (hkr : kOK X kr) (hGA : ∀ q, aM am q → G q) (h_kn : ∀ j, j < 7 → kn j = some (adK j)) : Met l yX4_text wsX4_text ({ frames := 7, cells := 0, slots := 0, locals := 155 } : Room) (va_Pc [.ref (am 0)] (ro_B D (tyL ci) (wN ci am X kr q0 q1 q2 q3 q4 q5 iw kn y0 y1 y2 y3 y4 y5 y6) (enW G adK adV fx rfX))) (mu_Q (aM am) (some (.int ((p_text X).1))) (fun H => ∃ (kr : Nat → Int32) (q0 : Int32) (q1 : Int32) (q2 : Int32) (q3 : Int32) (q4 : Int32) (q5 : Int32) (iw : Bool) (y0 : Nat → Int32) (y1 : Nat → Int32) (y2 : Nat → Int32) (y3 : Nat → Int32) (y4 : Nat → Int32) (y5 : Nat → Int32) (y6 : Nat → Int32), kOK (p_text X).2 kr ∧ va_P D vwCl (wN ci am ((p_text X).2) kr q0 q1 q2 q3 q4 q5 iw kn y0 y1 y2 y3 y4 y5 y6) H)) 0 0 (aM am) := by
  refine mu_Met (cc := cX4_text) (maxL := 3) (ret := (some .int)) [(0, .ref (am 0))] (wN_D hI) (by decide) rfl (Nat.le_of_ble_eq_true rfl) rfl ?_
  intro p e s m below meth c H locs hx hb hml hr hlocks hts hown hP hK hs0 hD hS ls hl
  have hown : s.vm.findClass RX4 = some m.cls := hown
  have hinX4 : ∀ w ∈ wsX40, w ∈ wsX4_text := by decide +kernel
  have hE := hE_W G adK adV fx rfX
  have hWF := hWX.w
  have f_n := hWF.n
  have f_e := hWX.e
  have f_tl := hWX.t
  have h_tl : X.2.2.2.2.1 ≤ 120 := hWX.t
  have h_tb : ∀ k, X.2.2.2.2.2.1 k < 256 := hWX.tb
  have f_t0 := tokf (tb := X.2.2.2.2.2.1) (tl := X.2.2.2.2.1) (p := 0) (by omega)
  refine lv_aload_n hx hb dX4_text_0 rfl (lv_at hl 0 rfl) ?_
  refine lv_iconst (v := nI (0)) hx hb dX4_text_1 (by decide) ?_
  refine va_put (D := D) (ci := 4) (v := .int (nI 0)) (ty := .int) (C := RX4) (T := TX4) (N := 24) hx hb hts hinX4 tyX4 tyX4_ok nmX4 hown hK hP hD hS 0 rfl rfl 12 (by decide) (hts (.fieldLink RX4 250 "OneShortModel" "ends" "I") (List.mem_of_getElem? (i := 1) rfl)) (fun _ h9 => h9) rfl (by decide +kernel) rfl rfl (Nat.le_of_ble_eq_true rfl) dX4_text_2 (fun H locs hP hD hS => ?_)
  have hP : va_P D vwCl (wN ci am X kr q0 (nI (0)) q2 q3 q4 q5 iw kn y0 y1 y2 y3 y4 y5 y6) H := va_P.re (wN_q1 ci am X kr q0 q1 q2 q3 q4 q5 iw kn y0 y1 y2 y3 y4 y5 y6 (nI (0))) hP
  have hD : va_D (aM am) (wN ci am X kr q0 (nI (0)) q2 q3 q4 q5 iw kn y0 y1 y2 y3 y4 y5 y6) := wN_D hI
  refine lv_aload_n hx hb dX4_text_5 rfl (lv_at hl 0 rfl) ?_
  refine lv_iconst (v := nI (0)) hx hb dX4_text_6 (by decide) ?_
  refine nv_cv (show nI (0) = bI (false) from by rfl) ?_
  refine va_put (D := D) (ci := 4) (v := .int (bI (false))) (ty := .boolean) (C := RX4) (T := TX4) (N := 24) hx hb hts hinX4 tyX4 tyX4_ok nmX4 hown hK hP hD hS 0 rfl rfl 15 (by decide) (hts (.fieldLink RX4 272 "OneShortModel" "isWrong" "Z") (List.mem_of_getElem? (i := 2) rfl)) (fun _ h9 => h9) rfl (by decide +kernel) (bI_nar _) (bI_fit _) (Nat.le_of_ble_eq_true rfl) dX4_text_7 (fun H locs hP hD hS => ?_)
  have hP : va_P D vwCl (wN ci am X kr q0 (nI (0)) q2 q3 q4 q5 false kn y0 y1 y2 y3 y4 y5 y6) H := va_P.re (wN_iw ci am X kr q0 (nI (0)) q2 q3 q4 q5 iw kn y0 y1 y2 y3 y4 y5 y6 false) hP
  have hD : va_D (aM am) (wN ci am X kr q0 (nI (0)) q2 q3 q4 q5 false kn y0 y1 y2 y3 y4 y5 y6) := wN_D hI
  refine lv_aload_n hx hb dX4_text_10 rfl (lv_at hl 0 rfl) ?_
  refine lv_iconst (v := nI (0)) hx hb dX4_text_11 (by decide) ?_
  refine va_put (D := D) (ci := 4) (v := .int (nI 0)) (ty := .int) (C := RX4) (T := TX4) (N := 24) hx hb hts hinX4 tyX4 tyX4_ok nmX4 hown hK hP hD hS 0 rfl rfl 18 (by decide) (hts (.fieldLink RX4 283 "OneShortModel" "itemMany" "I") (List.mem_of_getElem? (i := 3) rfl)) (fun _ h9 => h9) rfl (by decide +kernel) rfl rfl (Nat.le_of_ble_eq_true rfl) dX4_text_12 (fun H locs hP hD hS => ?_)
  have hP : va_P D vwCl (wN ci am X kr q0 (nI (0)) q2 q3 (nI (0)) q5 false kn y0 y1 y2 y3 y4 y5 y6) H := va_P.re (wN_q4 ci am X kr q0 (nI (0)) q2 q3 q4 q5 false kn y0 y1 y2 y3 y4 y5 y6 (nI (0))) hP
  have hD : va_D (aM am) (wN ci am X kr q0 (nI (0)) q2 q3 (nI (0)) q5 false kn y0 y1 y2 y3 y4 y5 y6) := wN_D hI
  refine lv_aload_n hx hb dX4_text_15 rfl (lv_at hl 0 rfl) ?_
  refine lv_aload_n hx hb dX4_text_16 rfl (lv_at hl 0 rfl) ?_
  refine va_get (D := D) (ci := 4) (v := .ref (am 1)) (C := RX4) (T := TX4) (N := 24) hx hb hts hinX4 hown hK hP 0 rfl rfl 0 (by decide) (hts (.fieldLink RX4 9 "OneShortModel" "now" "[I") (List.mem_of_getElem? (i := 4) rfl)) (fun _ h9 => h9) rfl dX4_text_17 ?_
  refine lv_iconst (v := nI (1)) hx hb dX4_text_20 (by decide) ?_
  refine nv_iald (v := nI (X.1 7 0)) hx hb hK hP 1 0 rfl rfl (by omega) (by decide) (pk_n X.1) dX4_text_21 ?_
  refine va_put (D := D) (ci := 4) (v := .int (nI (X.1 7 0))) (ty := .int) (C := RX4) (T := TX4) (N := 24) hx hb hts hinX4 tyX4 tyX4_ok nmX4 hown hK hP hD hS 0 rfl rfl 19 (by decide) (hts (.fieldLink RX4 296 "OneShortModel" "playerThen" "I") (List.mem_of_getElem? (i := 5) rfl)) (fun _ h9 => h9) rfl (by decide +kernel) rfl rfl (Nat.le_of_ble_eq_true rfl) dX4_text_22 (fun H locs hP hD hS => ?_)
  have hP : va_P D vwCl (wN ci am X kr q0 (nI (0)) q2 q3 (nI (0)) (nI (X.1 7 0)) false kn y0 y1 y2 y3 y4 y5 y6) H := va_P.re (wN_q5 ci am X kr q0 (nI (0)) q2 q3 (nI (0)) q5 false kn y0 y1 y2 y3 y4 y5 y6 (nI (X.1 7 0))) hP
  have hD : va_D (aM am) (wN ci am X kr q0 (nI (0)) q2 q3 (nI (0)) (nI (X.1 7 0)) false kn y0 y1 y2 y3 y4 y5 y6) := wN_D hI
  refine lv_aload_n hx hb dX4_text_25 rfl (lv_at hl 0 rfl) ?_
  refine mu_V (n := 0) (As := []) (rest := []) ⟨hx, hb, hml, hown, hts⟩ (c_X4_next l D ci am X kr q0 (nI (0)) q2 q3 (nI (0)) (nI (X.1 7 0)) false kn y0 y1 y2 y3 y4 y5 y6 hI G adK adV fx (0) hGA h_kn h_tl h_tb (by omega)) gX4_text_X4_next rfl ⟨rfl, rfl⟩ (by decide +kernel) rfl ⟨Nat.le_of_ble_eq_true rfl, Nat.le_of_ble_eq_true rfl⟩ hE (enW_S hGA hs0 hS) hK hP (ci := 4) (q0 := 0) rfl rfl hl.1 rfl (Nat.le_of_ble_eq_true rfl) dX4_text_26 ⟨Nat.zero_le _, Nat.zero_le _⟩ hS (fun _ h => h) (fun H1 locs hz hfr hB hS => ?_)
  have hP := hB
  have hP : va_P D vwCl (wN ci am X kr (nI (stt X.2.2.2.2.2.1 X.2.2.2.2.1 0)) (nI (nxt X.2.2.2.2.2.1 X.2.2.2.2.1 0)) (nI (min (srt X.2.2.2.2.2.1 X.2.2.2.2.1 0) 3)) (nI (vlu X.2.2.2.2.2.1 X.2.2.2.2.1 0)) (nI (0)) (nI (X.1 7 0)) false kn y0 y1 y2 y3 y4 y5 y6) H1 := hP
  generalize H1 = H at hP hS ⊢
  have hD : va_D (aM am) (wN ci am X kr (nI (stt X.2.2.2.2.2.1 X.2.2.2.2.1 0)) (nI (nxt X.2.2.2.2.2.1 X.2.2.2.2.1 0)) (nI (min (srt X.2.2.2.2.2.1 X.2.2.2.2.1 0) 3)) (nI (vlu X.2.2.2.2.2.1 X.2.2.2.2.1 0)) (nI (0)) (nI (X.1 7 0)) false kn y0 y1 y2 y3 y4 y5 y6) := wN_D hI
  have f1 := tokf (tb := X.2.2.2.2.2.1) (tl := X.2.2.2.2.1) (p := 0) (by omega)
  refine lv_aload_n hx hb dX4_text_29 rfl (lv_at hl 0 rfl) ?_
  refine mu_V (n := 0) (As := []) (rest := []) ⟨hx, hb, hml, hown, hts⟩ (c_X4_readItem l D ci am X kr (nI (stt X.2.2.2.2.2.1 X.2.2.2.2.1 0)) (nI (nxt X.2.2.2.2.2.1 X.2.2.2.2.1 0)) (nI (min (srt X.2.2.2.2.2.1 X.2.2.2.2.1 0) 3)) (nI (vlu X.2.2.2.2.2.1 X.2.2.2.2.1 0)) (nI (0)) (nI (X.1 7 0)) false kn y0 y1 y2 y3 y4 y5 y6 hI G adK adV fx (0) (0) (X.1 7 0) hGA h_kn h_tl h_tb (by omega) (by omega) (by omega)) gX4_text_X4_readItem rfl ⟨rfl, rfl⟩ (by decide +kernel) rfl ⟨Nat.le_of_ble_eq_true rfl, Nat.le_of_ble_eq_true rfl⟩ hE (enW_S hGA hs0 hS) hK hP (ci := 4) (q0 := 0) rfl rfl hl.1 rfl (Nat.le_of_ble_eq_true rfl) dX4_text_30 ⟨Nat.zero_le _, Nat.zero_le _⟩ hS (fun _ h => h) (fun H1 locs hz hfr hB hS => ?_)
  have hP := hB
  have hP : va_P D vwCl (wN ci am X kr (nI (stt X.2.2.2.2.2.1 X.2.2.2.2.1 ((riS X.2.2.2.2.2.1 X.2.2.2.2.1 0 (X.1 7 0)).2))) (nI (nxt X.2.2.2.2.2.1 X.2.2.2.2.1 ((riS X.2.2.2.2.2.1 X.2.2.2.2.1 0 (X.1 7 0)).2))) (nI (min (srt X.2.2.2.2.2.1 X.2.2.2.2.1 ((riS X.2.2.2.2.2.1 X.2.2.2.2.1 0 (X.1 7 0)).2)) 3)) (nI (vlu X.2.2.2.2.2.1 X.2.2.2.2.1 ((riS X.2.2.2.2.2.1 X.2.2.2.2.1 0 (X.1 7 0)).2))) (nI ((0 + 1))) (nI (riN X.2.2.2.2.2.1 X.2.2.2.2.1 0 (X.1 7 0))) ((riS X.2.2.2.2.2.1 X.2.2.2.2.1 0 (X.1 7 0)).1) kn y0 y1 y2 y3 y4 (riY X.2.2.2.2.2.1 X.2.2.2.2.1 y5 (0) 0 (X.1 7 0)) y6) H1 := hP
  generalize H1 = H at hP hS ⊢
  have hD : va_D (aM am) (wN ci am X kr (nI (stt X.2.2.2.2.2.1 X.2.2.2.2.1 ((riS X.2.2.2.2.2.1 X.2.2.2.2.1 0 (X.1 7 0)).2))) (nI (nxt X.2.2.2.2.2.1 X.2.2.2.2.1 ((riS X.2.2.2.2.2.1 X.2.2.2.2.1 0 (X.1 7 0)).2))) (nI (min (srt X.2.2.2.2.2.1 X.2.2.2.2.1 ((riS X.2.2.2.2.2.1 X.2.2.2.2.1 0 (X.1 7 0)).2)) 3)) (nI (vlu X.2.2.2.2.2.1 X.2.2.2.2.1 ((riS X.2.2.2.2.2.1 X.2.2.2.2.1 0 (X.1 7 0)).2))) (nI ((0 + 1))) (nI (riN X.2.2.2.2.2.1 X.2.2.2.2.1 0 (X.1 7 0))) ((riS X.2.2.2.2.2.1 X.2.2.2.2.1 0 (X.1 7 0)).1) kn y0 y1 y2 y3 y4 (riY X.2.2.2.2.2.1 X.2.2.2.2.1 y5 (0) 0 (X.1 7 0)) y6) := wN_D hI
  have L33 : ∀ (k33 : Nat) (mm : Nat) (p1 : Nat) (n5 : Nat) (S1 : OS) (r : Bool × Nat) (y5 : Nat → Int32), 121 - mm < k33 → (TXI X.1 X.2.2.2.2.2.1 X.2.2.2.2.1 y5 mm p1 n5 S1 r) → ∀ (H : Heap) (locs : List Loc), va_P D vwCl (wN ci am X kr (nI (stt X.2.2.2.2.2.1 X.2.2.2.2.1 r.2)) (nI (nxt X.2.2.2.2.2.1 X.2.2.2.2.1 r.2)) (nI (min (srt X.2.2.2.2.2.1 X.2.2.2.2.1 r.2) 3)) (nI (vlu X.2.2.2.2.2.1 X.2.2.2.2.1 r.2)) (nI (mm)) (nI (n5)) r.1 kn y0 y1 y2 y3 y4 y5 y6) H → va_S (aM am) s.heap H locs → ∀ ls : Array Slot, lv_has ls 3 [(0, .ref (am 0))] → W p l e (headSpec wsX4_text ({ frames := 7, cells := 0, slots := 0, locals := 155 } : Room)).room s m ([.ref (am 0)] : List Value).toArray below meth c H locs 0 0 (MQ below (mu_Q (aM am) (some (.int ((p_text X).1))) (fun H => ∃ (kr : Nat → Int32) (q0 : Int32) (q1 : Int32) (q2 : Int32) (q3 : Int32) (q4 : Int32) (q5 : Int32) (iw : Bool) (y0 : Nat → Int32) (y1 : Nat → Int32) (y2 : Nat → Int32) (y3 : Nat → Int32) (y4 : Nat → Int32) (y5 : Nat → Int32) (y6 : Nat → Int32), kOK (p_text X).2 kr ∧ va_P D vwCl (wN ci am ((p_text X).2) kr q0 q1 q2 q3 q4 q5 iw kn y0 y1 y2 y3 y4 y5 y6) H)) ([.ref (am 0)] : List Value).toArray s 0 0 (aM am)) (F0 m 33 ls []) := by
    intro k33
    induction k33 with
    | zero => intro mm p1 n5 S1 r y5 h0; exact absurd h0 (Nat.not_lt_zero _)
    | succ k33 ih33 =>
      intro mm p1 n5 S1 r y5 hk33 h_x    H locs hP hS ls hl
      have hD : va_D (aM am) (wN ci am X kr (nI (stt X.2.2.2.2.2.1 X.2.2.2.2.1 r.2)) (nI (nxt X.2.2.2.2.2.1 X.2.2.2.2.1 r.2)) (nI (min (srt X.2.2.2.2.2.1 X.2.2.2.2.1 r.2) 3)) (nI (vlu X.2.2.2.2.2.1 X.2.2.2.2.1 r.2)) (nI (mm)) (nI (n5)) r.1 kn y0 y1 y2 y3 y4 y5 y6) := wN_D hI
      have f_f := txi_f (by omega) h_x
      have f_t := tokf (tb := X.2.2.2.2.2.1) (tl := X.2.2.2.2.1) (p := r.2) (by omega)
      refine lv_aload_n hx hb dX4_text_33 rfl (lv_at hl 0 rfl) ?_
      refine va_get (D := D) (ci := 4) (v := .int (bI (r.1))) (C := RX4) (T := TX4) (N := 24) hx hb hts hinX4 hown hK hP 0 rfl rfl 15 (by decide) (hts (.fieldLink RX4 272 "OneShortModel" "isWrong" "Z") (List.mem_of_getElem? (i := 2) rfl)) (fun _ h9 => h9) rfl dX4_text_34 ?_
      refine nv_ifne_b (tgt := 74) hx hb dX4_text_37 (by decide) (fun c2 => ?_) (fun c2 => ?_)
      · rw [c2] at hP
        have hP : va_P D vwCl (wN ci am X kr (nI (stt X.2.2.2.2.2.1 X.2.2.2.2.1 r.2)) (nI (nxt X.2.2.2.2.2.1 X.2.2.2.2.1 r.2)) (nI (min (srt X.2.2.2.2.2.1 X.2.2.2.2.1 r.2) 3)) (nI (vlu X.2.2.2.2.2.1 X.2.2.2.2.1 r.2)) (nI (mm)) (nI (n5)) true kn y0 y1 y2 y3 y4 y5 y6) H := hP
        have hD : va_D (aM am) (wN ci am X kr (nI (stt X.2.2.2.2.2.1 X.2.2.2.2.1 r.2)) (nI (nxt X.2.2.2.2.2.1 X.2.2.2.2.1 r.2)) (nI (min (srt X.2.2.2.2.2.1 X.2.2.2.2.1 r.2) 3)) (nI (vlu X.2.2.2.2.2.1 X.2.2.2.2.1 r.2)) (nI (mm)) (nI (n5)) true kn y0 y1 y2 y3 y4 y5 y6) := wN_D hI
        refine lv_aload_n hx hb dX4_text_74 rfl (lv_at hl 0 rfl) ?_
        refine lv_aload_n hx hb dX4_text_75 rfl (lv_at hl 0 rfl) ?_
        refine va_get (D := D) (ci := 4) (v := .int (nI (min (srt X.2.2.2.2.2.1 X.2.2.2.2.1 r.2) 3))) (C := RX4) (T := TX4) (N := 24) hx hb hts hinX4 hown hK hP 0 rfl rfl 13 (by decide) (hts (.fieldLink RX4 262 "OneShortModel" "sort" "I") (List.mem_of_getElem? (i := 6) rfl)) (fun _ h9 => h9) rfl dX4_text_76 ?_
        refine nv_ifne (tgt := 86) hx hb (by omega) dX4_text_79 (by decide) (fun c3 => ?_) (fun c3 => ?_)
        · refine lv_iconst (v := nI (0)) hx hb dX4_text_86 (by decide) ?_
          refine nv_cv (show nI (0) = bI (false) from rfl) ?_
          refine mu_V (n := 1) (As := [.int (bI (false))]) (rest := []) ⟨hx, hb, hml, hown, hts⟩ (c_X4_must l D ci am X kr (nI (stt X.2.2.2.2.2.1 X.2.2.2.2.1 r.2)) (nI (nxt X.2.2.2.2.2.1 X.2.2.2.2.1 r.2)) (nI (min (srt X.2.2.2.2.2.1 X.2.2.2.2.1 r.2) 3)) (nI (vlu X.2.2.2.2.2.1 X.2.2.2.2.1 r.2)) (nI (mm)) (nI (n5)) true kn y0 y1 y2 y3 y4 y5 y6 hI G adK adV fx (false) (true) (r.2) hGA h_kn h_tl h_tb (by omega)) gX4_text_X4_must rfl ⟨rfl, rfl⟩ (by decide +kernel) rfl ⟨Nat.le_of_ble_eq_true rfl, Nat.le_of_ble_eq_true rfl⟩ hE (enW_S hGA hs0 hS) hK hP (ci := 4) (q0 := 0) rfl rfl hl.1 rfl (Nat.le_of_ble_eq_true rfl) dX4_text_87 ⟨Nat.zero_le _, Nat.zero_le _⟩ hS (fun _ h => h) (fun H1 locs hz hfr hB hS => ?_)
          have hP := hB
          have hP : va_P D vwCl (wN ci am X kr (nI (stt X.2.2.2.2.2.1 X.2.2.2.2.1 (mP X.2.2.2.2.2.1 X.2.2.2.2.1 true false r.2))) (nI (nxt X.2.2.2.2.2.1 X.2.2.2.2.1 (mP X.2.2.2.2.2.1 X.2.2.2.2.1 true false r.2))) (nI (min (srt X.2.2.2.2.2.1 X.2.2.2.2.1 (mP X.2.2.2.2.2.1 X.2.2.2.2.1 true false r.2)) 3)) (nI (vlu X.2.2.2.2.2.1 X.2.2.2.2.1 (mP X.2.2.2.2.2.1 X.2.2.2.2.1 true false r.2))) (nI (mm)) (nI (n5)) (mW true false) kn y0 y1 y2 y3 y4 y5 y6) H1 := hP
          generalize H1 = H at hP hS ⊢
          have hD : va_D (aM am) (wN ci am X kr (nI (stt X.2.2.2.2.2.1 X.2.2.2.2.1 (mP X.2.2.2.2.2.1 X.2.2.2.2.1 true false r.2))) (nI (nxt X.2.2.2.2.2.1 X.2.2.2.2.1 (mP X.2.2.2.2.2.1 X.2.2.2.2.1 true false r.2))) (nI (min (srt X.2.2.2.2.2.1 X.2.2.2.2.1 (mP X.2.2.2.2.2.1 X.2.2.2.2.1 true false r.2)) 3)) (nI (vlu X.2.2.2.2.2.1 X.2.2.2.2.1 (mP X.2.2.2.2.2.1 X.2.2.2.2.1 true false r.2))) (nI (mm)) (nI (n5)) (mW true false) kn y0 y1 y2 y3 y4 y5 y6) := wN_D hI
          have f4 := mP_le (tb := X.2.2.2.2.2.1) (wr := true) (is := false) (show r.2 ≤ X.2.2.2.2.1 by omega)
          have f5 := tokf (tb := X.2.2.2.2.2.1) (mP_le (tb := X.2.2.2.2.2.1) (wr := true) (is := false) (show r.2 ≤ X.2.2.2.2.1 by omega))
          have hP : va_P D vwCl (wN ci am X kr (nI (stt X.2.2.2.2.2.1 X.2.2.2.2.1 r.2)) (nI (nxt X.2.2.2.2.2.1 X.2.2.2.2.1 r.2)) (nI (min (srt X.2.2.2.2.2.1 X.2.2.2.2.1 r.2) 3)) (nI (vlu X.2.2.2.2.2.1 X.2.2.2.2.1 r.2)) (nI (mm)) (nI (n5)) true kn y0 y1 y2 y3 y4 y5 y6) H := hP
          have hD : va_D (aM am) (wN ci am X kr (nI (stt X.2.2.2.2.2.1 X.2.2.2.2.1 r.2)) (nI (nxt X.2.2.2.2.2.1 X.2.2.2.2.1 r.2)) (nI (min (srt X.2.2.2.2.2.1 X.2.2.2.2.1 r.2) 3)) (nI (vlu X.2.2.2.2.2.1 X.2.2.2.2.1 r.2)) (nI (mm)) (nI (n5)) true kn y0 y1 y2 y3 y4 y5 y6) := wN_D hI
          refine lv_aload_n hx hb dX4_text_90 rfl (lv_at hl 0 rfl) ?_
          refine lv_iconst (v := nI (0)) hx hb dX4_text_91 (by decide) ?_
          refine va_put (D := D) (ci := 4) (v := .int (nI 0)) (ty := .int) (C := RX4) (T := TX4) (N := 24) hx hb hts hinX4 tyX4 tyX4_ok nmX4 hown hK hP hD hS 0 rfl rfl 10 (by decide) (hts (.fieldLink RX4 246 "OneShortModel" "taped" "I") (List.mem_of_getElem? (i := 9) rfl)) (fun _ h9 => h9) rfl (by decide +kernel) rfl rfl (Nat.le_of_ble_eq_true rfl) dX4_text_92 (fun H locs hP hD hS => ?_)
          have hP : va_P D vwCl (wN ci am (toL X (0)) kr (nI (stt X.2.2.2.2.2.1 X.2.2.2.2.1 r.2)) (nI (nxt X.2.2.2.2.2.1 X.2.2.2.2.1 r.2)) (nI (min (srt X.2.2.2.2.2.1 X.2.2.2.2.1 r.2) 3)) (nI (vlu X.2.2.2.2.2.1 X.2.2.2.2.1 r.2)) (nI (mm)) (nI (n5)) true kn y0 y1 y2 y3 y4 y5 y6) H := va_P.re (wN_tl ci am X kr (nI (stt X.2.2.2.2.2.1 X.2.2.2.2.1 r.2)) (nI (nxt X.2.2.2.2.2.1 X.2.2.2.2.1 r.2)) (nI (min (srt X.2.2.2.2.2.1 X.2.2.2.2.1 r.2) 3)) (nI (vlu X.2.2.2.2.2.1 X.2.2.2.2.1 r.2)) (nI (mm)) (nI (n5)) true kn y0 y1 y2 y3 y4 y5 y6 (0)) hP
          have hD : va_D (aM am) (wN ci am (toL X (0)) kr (nI (stt X.2.2.2.2.2.1 X.2.2.2.2.1 r.2)) (nI (nxt X.2.2.2.2.2.1 X.2.2.2.2.1 r.2)) (nI (min (srt X.2.2.2.2.2.1 X.2.2.2.2.1 r.2) 3)) (nI (vlu X.2.2.2.2.2.1 X.2.2.2.2.1 r.2)) (nI (mm)) (nI (n5)) true kn y0 y1 y2 y3 y4 y5 y6) := wN_D hI
          refine lv_aload_n hx hb dX4_text_95 rfl (lv_at hl 0 rfl) ?_
          refine va_get (D := D) (ci := 4) (v := .int (bI (true))) (C := RX4) (T := TX4) (N := 24) hx hb hts hinX4 hown hK hP 0 rfl rfl 15 (by decide) (hts (.fieldLink RX4 272 "OneShortModel" "isWrong" "Z") (List.mem_of_getElem? (i := 2) rfl)) (fun _ h9 => h9) rfl dX4_text_96 ?_
          refine nv_ifeq_b (tgt := 109) hx hb dX4_text_99 (by decide) (fun h9 => absurd h9 (by decide)) (fun _ => ?_)
          refine lv_iconst (v := -1) hx hb dX4_text_102 (by decide) ?_
          refine lv_aload_n hx hb dX4_text_103 rfl (lv_at hl 0 rfl) ?_
          refine va_get (D := D) (ci := 4) (v := .int (nI (stt X.2.2.2.2.2.1 X.2.2.2.2.1 r.2))) (C := RX4) (T := TX4) (N := 24) hx hb hts hinX4 hown hK hP 0 rfl rfl 11 (by decide) (hts (.fieldLink RX4 253 "OneShortModel" "begins" "I") (List.mem_of_getElem? (i := 8) rfl)) (fun _ h9 => h9) rfl dX4_text_104 ?_
          refine lv_isub hx hb dX4_text_107 ?_
          have hp : p_text X = ((-1 - nI (stt X.2.2.2.2.2.1 X.2.2.2.2.1 r.2)), toL X (0)) := (by first | exact tx_f (txi_b1 (by omega) h_x c2) | exact tx_f (txi_b2 (by omega) h_x h_r1 (by omega) (by omega)) | exact tx_f (txi_b2 (by omega) h_x h_r1 (by omega) (sr_n59 f_sl rfl)) | (exfalso; omega))
          refine nv_cv (show (-1 - nI (stt X.2.2.2.2.2.1 X.2.2.2.2.1 r.2)) = (p_text X).1 from by rw [hp]) ?_
          exact mu_iret hx hb hr hlocks hS ((by rw [hp]; exact ⟨_, _, _, _, _, _, _, _, _, _, _, _, _, _, _, hkr, hP⟩)) dX4_text_108
        · refine lv_iconst (v := nI (1)) hx hb dX4_text_82 (by decide) ?_
          refine lv_goto (tgt := 87) hx hb dX4_text_83 (by decide) ?_
          refine nv_cv (show nI (1) = bI (true) from rfl) ?_
          refine mu_V (n := 1) (As := [.int (bI (true))]) (rest := []) ⟨hx, hb, hml, hown, hts⟩ (c_X4_must l D ci am X kr (nI (stt X.2.2.2.2.2.1 X.2.2.2.2.1 r.2)) (nI (nxt X.2.2.2.2.2.1 X.2.2.2.2.1 r.2)) (nI (min (srt X.2.2.2.2.2.1 X.2.2.2.2.1 r.2) 3)) (nI (vlu X.2.2.2.2.2.1 X.2.2.2.2.1 r.2)) (nI (mm)) (nI (n5)) true kn y0 y1 y2 y3 y4 y5 y6 hI G adK adV fx (true) (true) (r.2) hGA h_kn h_tl h_tb (by omega)) gX4_text_X4_must rfl ⟨rfl, rfl⟩ (by decide +kernel) rfl ⟨Nat.le_of_ble_eq_true rfl, Nat.le_of_ble_eq_true rfl⟩ hE (enW_S hGA hs0 hS) hK hP (ci := 4) (q0 := 0) rfl rfl hl.1 rfl (Nat.le_of_ble_eq_true rfl) dX4_text_87 ⟨Nat.zero_le _, Nat.zero_le _⟩ hS (fun _ h => h) (fun H1 locs hz hfr hB hS => ?_)
          have hP := hB
          have hP : va_P D vwCl (wN ci am X kr (nI (stt X.2.2.2.2.2.1 X.2.2.2.2.1 (mP X.2.2.2.2.2.1 X.2.2.2.2.1 true true r.2))) (nI (nxt X.2.2.2.2.2.1 X.2.2.2.2.1 (mP X.2.2.2.2.2.1 X.2.2.2.2.1 true true r.2))) (nI (min (srt X.2.2.2.2.2.1 X.2.2.2.2.1 (mP X.2.2.2.2.2.1 X.2.2.2.2.1 true true r.2)) 3)) (nI (vlu X.2.2.2.2.2.1 X.2.2.2.2.1 (mP X.2.2.2.2.2.1 X.2.2.2.2.1 true true r.2))) (nI (mm)) (nI (n5)) (mW true true) kn y0 y1 y2 y3 y4 y5 y6) H1 := hP
          generalize H1 = H at hP hS ⊢
          have hD : va_D (aM am) (wN ci am X kr (nI (stt X.2.2.2.2.2.1 X.2.2.2.2.1 (mP X.2.2.2.2.2.1 X.2.2.2.2.1 true true r.2))) (nI (nxt X.2.2.2.2.2.1 X.2.2.2.2.1 (mP X.2.2.2.2.2.1 X.2.2.2.2.1 true true r.2))) (nI (min (srt X.2.2.2.2.2.1 X.2.2.2.2.1 (mP X.2.2.2.2.2.1 X.2.2.2.2.1 true true r.2)) 3)) (nI (vlu X.2.2.2.2.2.1 X.2.2.2.2.1 (mP X.2.2.2.2.2.1 X.2.2.2.2.1 true true r.2))) (nI (mm)) (nI (n5)) (mW true true) kn y0 y1 y2 y3 y4 y5 y6) := wN_D hI
          have f7 := mP_le (tb := X.2.2.2.2.2.1) (wr := true) (is := true) (show r.2 ≤ X.2.2.2.2.1 by omega)
          have f8 := tokf (tb := X.2.2.2.2.2.1) (mP_le (tb := X.2.2.2.2.2.1) (wr := true) (is := true) (show r.2 ≤ X.2.2.2.2.1 by omega))
          have hP : va_P D vwCl (wN ci am X kr (nI (stt X.2.2.2.2.2.1 X.2.2.2.2.1 r.2)) (nI (nxt X.2.2.2.2.2.1 X.2.2.2.2.1 r.2)) (nI (min (srt X.2.2.2.2.2.1 X.2.2.2.2.1 r.2) 3)) (nI (vlu X.2.2.2.2.2.1 X.2.2.2.2.1 r.2)) (nI (mm)) (nI (n5)) true kn y0 y1 y2 y3 y4 y5 y6) H := hP
          have hD : va_D (aM am) (wN ci am X kr (nI (stt X.2.2.2.2.2.1 X.2.2.2.2.1 r.2)) (nI (nxt X.2.2.2.2.2.1 X.2.2.2.2.1 r.2)) (nI (min (srt X.2.2.2.2.2.1 X.2.2.2.2.1 r.2) 3)) (nI (vlu X.2.2.2.2.2.1 X.2.2.2.2.1 r.2)) (nI (mm)) (nI (n5)) true kn y0 y1 y2 y3 y4 y5 y6) := wN_D hI
          refine lv_aload_n hx hb dX4_text_90 rfl (lv_at hl 0 rfl) ?_
          refine lv_iconst (v := nI (0)) hx hb dX4_text_91 (by decide) ?_
          refine va_put (D := D) (ci := 4) (v := .int (nI 0)) (ty := .int) (C := RX4) (T := TX4) (N := 24) hx hb hts hinX4 tyX4 tyX4_ok nmX4 hown hK hP hD hS 0 rfl rfl 10 (by decide) (hts (.fieldLink RX4 246 "OneShortModel" "taped" "I") (List.mem_of_getElem? (i := 9) rfl)) (fun _ h9 => h9) rfl (by decide +kernel) rfl rfl (Nat.le_of_ble_eq_true rfl) dX4_text_92 (fun H locs hP hD hS => ?_)
          have hP : va_P D vwCl (wN ci am (toL X (0)) kr (nI (stt X.2.2.2.2.2.1 X.2.2.2.2.1 r.2)) (nI (nxt X.2.2.2.2.2.1 X.2.2.2.2.1 r.2)) (nI (min (srt X.2.2.2.2.2.1 X.2.2.2.2.1 r.2) 3)) (nI (vlu X.2.2.2.2.2.1 X.2.2.2.2.1 r.2)) (nI (mm)) (nI (n5)) true kn y0 y1 y2 y3 y4 y5 y6) H := va_P.re (wN_tl ci am X kr (nI (stt X.2.2.2.2.2.1 X.2.2.2.2.1 r.2)) (nI (nxt X.2.2.2.2.2.1 X.2.2.2.2.1 r.2)) (nI (min (srt X.2.2.2.2.2.1 X.2.2.2.2.1 r.2) 3)) (nI (vlu X.2.2.2.2.2.1 X.2.2.2.2.1 r.2)) (nI (mm)) (nI (n5)) true kn y0 y1 y2 y3 y4 y5 y6 (0)) hP
          have hD : va_D (aM am) (wN ci am (toL X (0)) kr (nI (stt X.2.2.2.2.2.1 X.2.2.2.2.1 r.2)) (nI (nxt X.2.2.2.2.2.1 X.2.2.2.2.1 r.2)) (nI (min (srt X.2.2.2.2.2.1 X.2.2.2.2.1 r.2) 3)) (nI (vlu X.2.2.2.2.2.1 X.2.2.2.2.1 r.2)) (nI (mm)) (nI (n5)) true kn y0 y1 y2 y3 y4 y5 y6) := wN_D hI
          refine lv_aload_n hx hb dX4_text_95 rfl (lv_at hl 0 rfl) ?_
          refine va_get (D := D) (ci := 4) (v := .int (bI (true))) (C := RX4) (T := TX4) (N := 24) hx hb hts hinX4 hown hK hP 0 rfl rfl 15 (by decide) (hts (.fieldLink RX4 272 "OneShortModel" "isWrong" "Z") (List.mem_of_getElem? (i := 2) rfl)) (fun _ h9 => h9) rfl dX4_text_96 ?_
          refine nv_ifeq_b (tgt := 109) hx hb dX4_text_99 (by decide) (fun h9 => absurd h9 (by decide)) (fun _ => ?_)
          refine lv_iconst (v := -1) hx hb dX4_text_102 (by decide) ?_
          refine lv_aload_n hx hb dX4_text_103 rfl (lv_at hl 0 rfl) ?_
          refine va_get (D := D) (ci := 4) (v := .int (nI (stt X.2.2.2.2.2.1 X.2.2.2.2.1 r.2))) (C := RX4) (T := TX4) (N := 24) hx hb hts hinX4 hown hK hP 0 rfl rfl 11 (by decide) (hts (.fieldLink RX4 253 "OneShortModel" "begins" "I") (List.mem_of_getElem? (i := 8) rfl)) (fun _ h9 => h9) rfl dX4_text_104 ?_
          refine lv_isub hx hb dX4_text_107 ?_
          have hp : p_text X = ((-1 - nI (stt X.2.2.2.2.2.1 X.2.2.2.2.1 r.2)), toL X (0)) := (by first | exact tx_f (txi_b1 (by omega) h_x c2) | exact tx_f (txi_b2 (by omega) h_x h_r1 (by omega) (by omega)) | exact tx_f (txi_b2 (by omega) h_x h_r1 (by omega) (sr_n59 f_sl rfl)) | (exfalso; omega))
          refine nv_cv (show (-1 - nI (stt X.2.2.2.2.2.1 X.2.2.2.2.1 r.2)) = (p_text X).1 from by rw [hp]) ?_
          exact mu_iret hx hb hr hlocks hS ((by rw [hp]; exact ⟨_, _, _, _, _, _, _, _, _, _, _, _, _, _, _, hkr, hP⟩)) dX4_text_108
      · rw [c2] at hP
        have hP : va_P D vwCl (wN ci am X kr (nI (stt X.2.2.2.2.2.1 X.2.2.2.2.1 r.2)) (nI (nxt X.2.2.2.2.2.1 X.2.2.2.2.1 r.2)) (nI (min (srt X.2.2.2.2.2.1 X.2.2.2.2.1 r.2) 3)) (nI (vlu X.2.2.2.2.2.1 X.2.2.2.2.1 r.2)) (nI (mm)) (nI (n5)) false kn y0 y1 y2 y3 y4 y5 y6) H := hP
        have hD : va_D (aM am) (wN ci am X kr (nI (stt X.2.2.2.2.2.1 X.2.2.2.2.1 r.2)) (nI (nxt X.2.2.2.2.2.1 X.2.2.2.2.1 r.2)) (nI (min (srt X.2.2.2.2.2.1 X.2.2.2.2.1 r.2) 3)) (nI (vlu X.2.2.2.2.2.1 X.2.2.2.2.1 r.2)) (nI (mm)) (nI (n5)) false kn y0 y1 y2 y3 y4 y5 y6) := wN_D hI
        have h_r1 := c2
        have f_n5 := txi_n h_x h_r1
        refine lv_aload_n hx hb dX4_text_40 rfl (lv_at hl 0 rfl) ?_
        refine va_get (D := D) (ci := 4) (v := .int (nI (min (srt X.2.2.2.2.2.1 X.2.2.2.2.1 r.2) 3))) (C := RX4) (T := TX4) (N := 24) hx hb hts hinX4 hown hK hP 0 rfl rfl 13 (by decide) (hts (.fieldLink RX4 262 "OneShortModel" "sort" "I") (List.mem_of_getElem? (i := 6) rfl)) (fun _ h9 => h9) rfl dX4_text_41 ?_
        refine lv_iconst (v := nI (3)) hx hb dX4_text_44 (by decide) ?_
        refine nv_icmp_ne (tgt := 74) hx hb (by omega) (by omega) dX4_text_45 (by decide) (fun c10 => ?_) (fun c10 => ?_)
        · refine lv_aload_n hx hb dX4_text_74 rfl (lv_at hl 0 rfl) ?_
          refine lv_aload_n hx hb dX4_text_75 rfl (lv_at hl 0 rfl) ?_
          refine va_get (D := D) (ci := 4) (v := .int (nI (min (srt X.2.2.2.2.2.1 X.2.2.2.2.1 r.2) 3))) (C := RX4) (T := TX4) (N := 24) hx hb hts hinX4 hown hK hP 0 rfl rfl 13 (by decide) (hts (.fieldLink RX4 262 "OneShortModel" "sort" "I") (List.mem_of_getElem? (i := 6) rfl)) (fun _ h9 => h9) rfl dX4_text_76 ?_
          refine nv_ifne (tgt := 86) hx hb (by omega) dX4_text_79 (by decide) (fun c11 => ?_) (fun c11 => ?_)
          · refine lv_iconst (v := nI (0)) hx hb dX4_text_86 (by decide) ?_
            refine nv_cv (show nI (0) = bI (false) from rfl) ?_
            refine mu_V (n := 1) (As := [.int (bI (false))]) (rest := []) ⟨hx, hb, hml, hown, hts⟩ (c_X4_must l D ci am X kr (nI (stt X.2.2.2.2.2.1 X.2.2.2.2.1 r.2)) (nI (nxt X.2.2.2.2.2.1 X.2.2.2.2.1 r.2)) (nI (min (srt X.2.2.2.2.2.1 X.2.2.2.2.1 r.2) 3)) (nI (vlu X.2.2.2.2.2.1 X.2.2.2.2.1 r.2)) (nI (mm)) (nI (n5)) false kn y0 y1 y2 y3 y4 y5 y6 hI G adK adV fx (false) (false) (r.2) hGA h_kn h_tl h_tb (by omega)) gX4_text_X4_must rfl ⟨rfl, rfl⟩ (by decide +kernel) rfl ⟨Nat.le_of_ble_eq_true rfl, Nat.le_of_ble_eq_true rfl⟩ hE (enW_S hGA hs0 hS) hK hP (ci := 4) (q0 := 0) rfl rfl hl.1 rfl (Nat.le_of_ble_eq_true rfl) dX4_text_87 ⟨Nat.zero_le _, Nat.zero_le _⟩ hS (fun _ h => h) (fun H1 locs hz hfr hB hS => ?_)
            have hP := hB
            have hP : va_P D vwCl (wN ci am X kr (nI (stt X.2.2.2.2.2.1 X.2.2.2.2.1 (mP X.2.2.2.2.2.1 X.2.2.2.2.1 false false r.2))) (nI (nxt X.2.2.2.2.2.1 X.2.2.2.2.1 (mP X.2.2.2.2.2.1 X.2.2.2.2.1 false false r.2))) (nI (min (srt X.2.2.2.2.2.1 X.2.2.2.2.1 (mP X.2.2.2.2.2.1 X.2.2.2.2.1 false false r.2)) 3)) (nI (vlu X.2.2.2.2.2.1 X.2.2.2.2.1 (mP X.2.2.2.2.2.1 X.2.2.2.2.1 false false r.2))) (nI (mm)) (nI (n5)) (mW false false) kn y0 y1 y2 y3 y4 y5 y6) H1 := hP
            generalize H1 = H at hP hS ⊢
            have hD : va_D (aM am) (wN ci am X kr (nI (stt X.2.2.2.2.2.1 X.2.2.2.2.1 (mP X.2.2.2.2.2.1 X.2.2.2.2.1 false false r.2))) (nI (nxt X.2.2.2.2.2.1 X.2.2.2.2.1 (mP X.2.2.2.2.2.1 X.2.2.2.2.1 false false r.2))) (nI (min (srt X.2.2.2.2.2.1 X.2.2.2.2.1 (mP X.2.2.2.2.2.1 X.2.2.2.2.1 false false r.2)) 3)) (nI (vlu X.2.2.2.2.2.1 X.2.2.2.2.1 (mP X.2.2.2.2.2.1 X.2.2.2.2.1 false false r.2))) (nI (mm)) (nI (n5)) (mW false false) kn y0 y1 y2 y3 y4 y5 y6) := wN_D hI
            have f12 := mP_le (tb := X.2.2.2.2.2.1) (wr := false) (is := false) (show r.2 ≤ X.2.2.2.2.1 by omega)
            have f13 := tokf (tb := X.2.2.2.2.2.1) (mP_le (tb := X.2.2.2.2.2.1) (wr := false) (is := false) (show r.2 ≤ X.2.2.2.2.1 by omega))
            have hP : va_P D vwCl (wN ci am X kr (nI (stt X.2.2.2.2.2.1 X.2.2.2.2.1 r.2)) (nI (nxt X.2.2.2.2.2.1 X.2.2.2.2.1 r.2)) (nI (min (srt X.2.2.2.2.2.1 X.2.2.2.2.1 r.2) 3)) (nI (vlu X.2.2.2.2.2.1 X.2.2.2.2.1 r.2)) (nI (mm)) (nI (n5)) true kn y0 y1 y2 y3 y4 y5 y6) H := hP
            have hD : va_D (aM am) (wN ci am X kr (nI (stt X.2.2.2.2.2.1 X.2.2.2.2.1 r.2)) (nI (nxt X.2.2.2.2.2.1 X.2.2.2.2.1 r.2)) (nI (min (srt X.2.2.2.2.2.1 X.2.2.2.2.1 r.2) 3)) (nI (vlu X.2.2.2.2.2.1 X.2.2.2.2.1 r.2)) (nI (mm)) (nI (n5)) true kn y0 y1 y2 y3 y4 y5 y6) := wN_D hI
            refine lv_aload_n hx hb dX4_text_90 rfl (lv_at hl 0 rfl) ?_
            refine lv_iconst (v := nI (0)) hx hb dX4_text_91 (by decide) ?_
            refine va_put (D := D) (ci := 4) (v := .int (nI 0)) (ty := .int) (C := RX4) (T := TX4) (N := 24) hx hb hts hinX4 tyX4 tyX4_ok nmX4 hown hK hP hD hS 0 rfl rfl 10 (by decide) (hts (.fieldLink RX4 246 "OneShortModel" "taped" "I") (List.mem_of_getElem? (i := 9) rfl)) (fun _ h9 => h9) rfl (by decide +kernel) rfl rfl (Nat.le_of_ble_eq_true rfl) dX4_text_92 (fun H locs hP hD hS => ?_)
            have hP : va_P D vwCl (wN ci am (toL X (0)) kr (nI (stt X.2.2.2.2.2.1 X.2.2.2.2.1 r.2)) (nI (nxt X.2.2.2.2.2.1 X.2.2.2.2.1 r.2)) (nI (min (srt X.2.2.2.2.2.1 X.2.2.2.2.1 r.2) 3)) (nI (vlu X.2.2.2.2.2.1 X.2.2.2.2.1 r.2)) (nI (mm)) (nI (n5)) true kn y0 y1 y2 y3 y4 y5 y6) H := va_P.re (wN_tl ci am X kr (nI (stt X.2.2.2.2.2.1 X.2.2.2.2.1 r.2)) (nI (nxt X.2.2.2.2.2.1 X.2.2.2.2.1 r.2)) (nI (min (srt X.2.2.2.2.2.1 X.2.2.2.2.1 r.2) 3)) (nI (vlu X.2.2.2.2.2.1 X.2.2.2.2.1 r.2)) (nI (mm)) (nI (n5)) true kn y0 y1 y2 y3 y4 y5 y6 (0)) hP
            have hD : va_D (aM am) (wN ci am (toL X (0)) kr (nI (stt X.2.2.2.2.2.1 X.2.2.2.2.1 r.2)) (nI (nxt X.2.2.2.2.2.1 X.2.2.2.2.1 r.2)) (nI (min (srt X.2.2.2.2.2.1 X.2.2.2.2.1 r.2) 3)) (nI (vlu X.2.2.2.2.2.1 X.2.2.2.2.1 r.2)) (nI (mm)) (nI (n5)) true kn y0 y1 y2 y3 y4 y5 y6) := wN_D hI
            refine lv_aload_n hx hb dX4_text_95 rfl (lv_at hl 0 rfl) ?_
            refine va_get (D := D) (ci := 4) (v := .int (bI (true))) (C := RX4) (T := TX4) (N := 24) hx hb hts hinX4 hown hK hP 0 rfl rfl 15 (by decide) (hts (.fieldLink RX4 272 "OneShortModel" "isWrong" "Z") (List.mem_of_getElem? (i := 2) rfl)) (fun _ h9 => h9) rfl dX4_text_96 ?_
            refine nv_ifeq_b (tgt := 109) hx hb dX4_text_99 (by decide) (fun h9 => absurd h9 (by decide)) (fun _ => ?_)
            refine lv_iconst (v := -1) hx hb dX4_text_102 (by decide) ?_
            refine lv_aload_n hx hb dX4_text_103 rfl (lv_at hl 0 rfl) ?_
            refine va_get (D := D) (ci := 4) (v := .int (nI (stt X.2.2.2.2.2.1 X.2.2.2.2.1 r.2))) (C := RX4) (T := TX4) (N := 24) hx hb hts hinX4 hown hK hP 0 rfl rfl 11 (by decide) (hts (.fieldLink RX4 253 "OneShortModel" "begins" "I") (List.mem_of_getElem? (i := 8) rfl)) (fun _ h9 => h9) rfl dX4_text_104 ?_
            refine lv_isub hx hb dX4_text_107 ?_
            have hp : p_text X = ((-1 - nI (stt X.2.2.2.2.2.1 X.2.2.2.2.1 r.2)), toL X (0)) := (by first | exact tx_f (txi_b1 (by omega) h_x c2) | exact tx_f (txi_b2 (by omega) h_x h_r1 (by omega) (by omega)) | exact tx_f (txi_b2 (by omega) h_x h_r1 (by omega) (sr_n59 f_sl c11)) | (exfalso; omega))
            refine nv_cv (show (-1 - nI (stt X.2.2.2.2.2.1 X.2.2.2.2.1 r.2)) = (p_text X).1 from by rw [hp]) ?_
            exact mu_iret hx hb hr hlocks hS ((by rw [hp]; exact ⟨_, _, _, _, _, _, _, _, _, _, _, _, _, _, _, hkr, hP⟩)) dX4_text_108
          · refine lv_iconst (v := nI (1)) hx hb dX4_text_82 (by decide) ?_
            refine lv_goto (tgt := 87) hx hb dX4_text_83 (by decide) ?_
            refine nv_cv (show nI (1) = bI (true) from rfl) ?_
            refine mu_V (n := 1) (As := [.int (bI (true))]) (rest := []) ⟨hx, hb, hml, hown, hts⟩ (c_X4_must l D ci am X kr (nI (stt X.2.2.2.2.2.1 X.2.2.2.2.1 r.2)) (nI (nxt X.2.2.2.2.2.1 X.2.2.2.2.1 r.2)) (nI (min (srt X.2.2.2.2.2.1 X.2.2.2.2.1 r.2) 3)) (nI (vlu X.2.2.2.2.2.1 X.2.2.2.2.1 r.2)) (nI (mm)) (nI (n5)) false kn y0 y1 y2 y3 y4 y5 y6 hI G adK adV fx (true) (false) (r.2) hGA h_kn h_tl h_tb (by omega)) gX4_text_X4_must rfl ⟨rfl, rfl⟩ (by decide +kernel) rfl ⟨Nat.le_of_ble_eq_true rfl, Nat.le_of_ble_eq_true rfl⟩ hE (enW_S hGA hs0 hS) hK hP (ci := 4) (q0 := 0) rfl rfl hl.1 rfl (Nat.le_of_ble_eq_true rfl) dX4_text_87 ⟨Nat.zero_le _, Nat.zero_le _⟩ hS (fun _ h => h) (fun H1 locs hz hfr hB hS => ?_)
            have hP := hB
            have hP : va_P D vwCl (wN ci am X kr (nI (stt X.2.2.2.2.2.1 X.2.2.2.2.1 (mP X.2.2.2.2.2.1 X.2.2.2.2.1 false true r.2))) (nI (nxt X.2.2.2.2.2.1 X.2.2.2.2.1 (mP X.2.2.2.2.2.1 X.2.2.2.2.1 false true r.2))) (nI (min (srt X.2.2.2.2.2.1 X.2.2.2.2.1 (mP X.2.2.2.2.2.1 X.2.2.2.2.1 false true r.2)) 3)) (nI (vlu X.2.2.2.2.2.1 X.2.2.2.2.1 (mP X.2.2.2.2.2.1 X.2.2.2.2.1 false true r.2))) (nI (mm)) (nI (n5)) (mW false true) kn y0 y1 y2 y3 y4 y5 y6) H1 := hP
            generalize H1 = H at hP hS ⊢
            have hD : va_D (aM am) (wN ci am X kr (nI (stt X.2.2.2.2.2.1 X.2.2.2.2.1 (mP X.2.2.2.2.2.1 X.2.2.2.2.1 false true r.2))) (nI (nxt X.2.2.2.2.2.1 X.2.2.2.2.1 (mP X.2.2.2.2.2.1 X.2.2.2.2.1 false true r.2))) (nI (min (srt X.2.2.2.2.2.1 X.2.2.2.2.1 (mP X.2.2.2.2.2.1 X.2.2.2.2.1 false true r.2)) 3)) (nI (vlu X.2.2.2.2.2.1 X.2.2.2.2.1 (mP X.2.2.2.2.2.1 X.2.2.2.2.1 false true r.2))) (nI (mm)) (nI (n5)) (mW false true) kn y0 y1 y2 y3 y4 y5 y6) := wN_D hI
            have f15 := mP_le (tb := X.2.2.2.2.2.1) (wr := false) (is := true) (show r.2 ≤ X.2.2.2.2.1 by omega)
            have f16 := tokf (tb := X.2.2.2.2.2.1) (mP_le (tb := X.2.2.2.2.2.1) (wr := false) (is := true) (show r.2 ≤ X.2.2.2.2.1 by omega))
            have hP : va_P D vwCl (wN ci am X kr (nI (stt X.2.2.2.2.2.1 X.2.2.2.2.1 (nxt X.2.2.2.2.2.1 X.2.2.2.2.1 r.2))) (nI (nxt X.2.2.2.2.2.1 X.2.2.2.2.1 (nxt X.2.2.2.2.2.1 X.2.2.2.2.1 r.2))) (nI (min (srt X.2.2.2.2.2.1 X.2.2.2.2.1 (nxt X.2.2.2.2.2.1 X.2.2.2.2.1 r.2)) 3)) (nI (vlu X.2.2.2.2.2.1 X.2.2.2.2.1 (nxt X.2.2.2.2.2.1 X.2.2.2.2.1 r.2))) (nI (mm)) (nI (n5)) false kn y0 y1 y2 y3 y4 y5 y6) H := hP
            have hD : va_D (aM am) (wN ci am X kr (nI (stt X.2.2.2.2.2.1 X.2.2.2.2.1 (nxt X.2.2.2.2.2.1 X.2.2.2.2.1 r.2))) (nI (nxt X.2.2.2.2.2.1 X.2.2.2.2.1 (nxt X.2.2.2.2.2.1 X.2.2.2.2.1 r.2))) (nI (min (srt X.2.2.2.2.2.1 X.2.2.2.2.1 (nxt X.2.2.2.2.2.1 X.2.2.2.2.1 r.2)) 3)) (nI (vlu X.2.2.2.2.2.1 X.2.2.2.2.1 (nxt X.2.2.2.2.2.1 X.2.2.2.2.1 r.2))) (nI (mm)) (nI (n5)) false kn y0 y1 y2 y3 y4 y5 y6) := wN_D hI
            refine lv_aload_n hx hb dX4_text_90 rfl (lv_at hl 0 rfl) ?_
            refine lv_iconst (v := nI (0)) hx hb dX4_text_91 (by decide) ?_
            refine va_put (D := D) (ci := 4) (v := .int (nI 0)) (ty := .int) (C := RX4) (T := TX4) (N := 24) hx hb hts hinX4 tyX4 tyX4_ok nmX4 hown hK hP hD hS 0 rfl rfl 10 (by decide) (hts (.fieldLink RX4 246 "OneShortModel" "taped" "I") (List.mem_of_getElem? (i := 9) rfl)) (fun _ h9 => h9) rfl (by decide +kernel) rfl rfl (Nat.le_of_ble_eq_true rfl) dX4_text_92 (fun H locs hP hD hS => ?_)
            have hP : va_P D vwCl (wN ci am (toL X (0)) kr (nI (stt X.2.2.2.2.2.1 X.2.2.2.2.1 (nxt X.2.2.2.2.2.1 X.2.2.2.2.1 r.2))) (nI (nxt X.2.2.2.2.2.1 X.2.2.2.2.1 (nxt X.2.2.2.2.2.1 X.2.2.2.2.1 r.2))) (nI (min (srt X.2.2.2.2.2.1 X.2.2.2.2.1 (nxt X.2.2.2.2.2.1 X.2.2.2.2.1 r.2)) 3)) (nI (vlu X.2.2.2.2.2.1 X.2.2.2.2.1 (nxt X.2.2.2.2.2.1 X.2.2.2.2.1 r.2))) (nI (mm)) (nI (n5)) false kn y0 y1 y2 y3 y4 y5 y6) H := va_P.re (wN_tl ci am X kr (nI (stt X.2.2.2.2.2.1 X.2.2.2.2.1 (nxt X.2.2.2.2.2.1 X.2.2.2.2.1 r.2))) (nI (nxt X.2.2.2.2.2.1 X.2.2.2.2.1 (nxt X.2.2.2.2.2.1 X.2.2.2.2.1 r.2))) (nI (min (srt X.2.2.2.2.2.1 X.2.2.2.2.1 (nxt X.2.2.2.2.2.1 X.2.2.2.2.1 r.2)) 3)) (nI (vlu X.2.2.2.2.2.1 X.2.2.2.2.1 (nxt X.2.2.2.2.2.1 X.2.2.2.2.1 r.2))) (nI (mm)) (nI (n5)) false kn y0 y1 y2 y3 y4 y5 y6 (0)) hP
            have hD : va_D (aM am) (wN ci am (toL X (0)) kr (nI (stt X.2.2.2.2.2.1 X.2.2.2.2.1 (nxt X.2.2.2.2.2.1 X.2.2.2.2.1 r.2))) (nI (nxt X.2.2.2.2.2.1 X.2.2.2.2.1 (nxt X.2.2.2.2.2.1 X.2.2.2.2.1 r.2))) (nI (min (srt X.2.2.2.2.2.1 X.2.2.2.2.1 (nxt X.2.2.2.2.2.1 X.2.2.2.2.1 r.2)) 3)) (nI (vlu X.2.2.2.2.2.1 X.2.2.2.2.1 (nxt X.2.2.2.2.2.1 X.2.2.2.2.1 r.2))) (nI (mm)) (nI (n5)) false kn y0 y1 y2 y3 y4 y5 y6) := wN_D hI
            refine lv_aload_n hx hb dX4_text_95 rfl (lv_at hl 0 rfl) ?_
            refine va_get (D := D) (ci := 4) (v := .int (bI (false))) (C := RX4) (T := TX4) (N := 24) hx hb hts hinX4 hown hK hP 0 rfl rfl 15 (by decide) (hts (.fieldLink RX4 272 "OneShortModel" "isWrong" "Z") (List.mem_of_getElem? (i := 2) rfl)) (fun _ h9 => h9) rfl dX4_text_96 ?_
            refine nv_ifeq_b (tgt := 109) hx hb dX4_text_99 (by decide) (fun _ => ?_) (fun h9 => absurd h9 (by decide))
            have h_e := txi_e (by omega) h_x h_r1 (by omega)
            obtain ⟨h_end, h_ok⟩ := h_e
            have hP : va_P D vwCl (wN ci am (toS (toL X (0)) (itA y5 X.1 0)) kr (nI (stt X.2.2.2.2.2.1 X.2.2.2.2.1 (nxt X.2.2.2.2.2.1 X.2.2.2.2.1 r.2))) (nI (nxt X.2.2.2.2.2.1 X.2.2.2.2.1 (nxt X.2.2.2.2.2.1 X.2.2.2.2.1 r.2))) (nI (min (srt X.2.2.2.2.2.1 X.2.2.2.2.1 (nxt X.2.2.2.2.2.1 X.2.2.2.2.1 r.2)) 3)) (nI (vlu X.2.2.2.2.2.1 X.2.2.2.2.1 (nxt X.2.2.2.2.2.1 X.2.2.2.2.1 r.2))) (nI (mm)) (nI (n5)) false kn y0 y1 y2 y3 y4 y5 y6) H := hP
            have hD : va_D (aM am) (wN ci am (toS (toL X (0)) (itA y5 X.1 0)) kr (nI (stt X.2.2.2.2.2.1 X.2.2.2.2.1 (nxt X.2.2.2.2.2.1 X.2.2.2.2.1 r.2))) (nI (nxt X.2.2.2.2.2.1 X.2.2.2.2.1 (nxt X.2.2.2.2.2.1 X.2.2.2.2.1 r.2))) (nI (min (srt X.2.2.2.2.2.1 X.2.2.2.2.1 (nxt X.2.2.2.2.2.1 X.2.2.2.2.1 r.2)) 3)) (nI (vlu X.2.2.2.2.2.1 X.2.2.2.2.1 (nxt X.2.2.2.2.2.1 X.2.2.2.2.1 r.2))) (nI (mm)) (nI (n5)) false kn y0 y1 y2 y3 y4 y5 y6) := wN_D hI
            refine lv_iconst (v := nI (0)) hx hb dX4_text_109 (by decide) ?_
            refine lv_istore_n (lv' := [(1, .int (nI 0)), (0, .ref (am 0))]) hx hb dX4_text_110 rfl hl (by decide) rfl (fun ls hl => ?_)
            refine lv_iconst (v := nI (0)) hx hb dX4_text_111 (by decide) ?_
            refine lv_istore_n (lv' := [(2, .int (nI 0)), (1, .int (nI 0)), (0, .ref (am 0))]) hx hb dX4_text_112 rfl hl (by decide) rfl (fun ls hl => ?_)
            have L113 : ∀ (k113 : Nat) (i : Nat), mm - i < k113 → (i ≤ mm) → ∀ (x1 : Int32), ∀ (x2 : Int32), x1 = nI (i) → x2 = nI (i) → ∀ (H : Heap) (locs : List Loc), va_P D vwCl (wN ci am (toS (toL X (0)) (itA y5 X.1 i)) kr (nI (stt X.2.2.2.2.2.1 X.2.2.2.2.1 (nxt X.2.2.2.2.2.1 X.2.2.2.2.1 r.2))) (nI (nxt X.2.2.2.2.2.1 X.2.2.2.2.1 (nxt X.2.2.2.2.2.1 X.2.2.2.2.1 r.2))) (nI (min (srt X.2.2.2.2.2.1 X.2.2.2.2.1 (nxt X.2.2.2.2.2.1 X.2.2.2.2.1 r.2)) 3)) (nI (vlu X.2.2.2.2.2.1 X.2.2.2.2.1 (nxt X.2.2.2.2.2.1 X.2.2.2.2.1 r.2))) (nI (mm)) (nI (n5)) false kn y0 y1 y2 y3 y4 y5 y6) H → va_S (aM am) s.heap H locs → ∀ ls : Array Slot, lv_has ls 3 [(1, .int (x1)), (2, .int (x2)), (0, .ref (am 0))] → W p l e (headSpec wsX4_text ({ frames := 7, cells := 0, slots := 0, locals := 155 } : Room)).room s m ([.ref (am 0)] : List Value).toArray below meth c H locs 0 0 (MQ below (mu_Q (aM am) (some (.int ((p_text X).1))) (fun H => ∃ (kr : Nat → Int32) (q0 : Int32) (q1 : Int32) (q2 : Int32) (q3 : Int32) (q4 : Int32) (q5 : Int32) (iw : Bool) (y0 : Nat → Int32) (y1 : Nat → Int32) (y2 : Nat → Int32) (y3 : Nat → Int32) (y4 : Nat → Int32) (y5 : Nat → Int32) (y6 : Nat → Int32), kOK (p_text X).2 kr ∧ va_P D vwCl (wN ci am ((p_text X).2) kr q0 q1 q2 q3 q4 q5 iw kn y0 y1 y2 y3 y4 y5 y6) H)) ([.ref (am 0)] : List Value).toArray s 0 0 (aM am)) (F0 m 113 ls []) := by
              intro k113
              induction k113 with
              | zero => intro i h0; exact absurd h0 (Nat.not_lt_zero _)
              | succ k113 ih113 =>
                intro i hk113 h_i x1 x2 e1 e2  H locs hP hS ls hl
                subst e1
                subst e2
                have hD : va_D (aM am) (wN ci am (toS (toL X (0)) (itA y5 X.1 i)) kr (nI (stt X.2.2.2.2.2.1 X.2.2.2.2.1 (nxt X.2.2.2.2.2.1 X.2.2.2.2.1 r.2))) (nI (nxt X.2.2.2.2.2.1 X.2.2.2.2.1 (nxt X.2.2.2.2.2.1 X.2.2.2.2.1 r.2))) (nI (min (srt X.2.2.2.2.2.1 X.2.2.2.2.1 (nxt X.2.2.2.2.2.1 X.2.2.2.2.1 r.2)) 3)) (nI (vlu X.2.2.2.2.2.1 X.2.2.2.2.1 (nxt X.2.2.2.2.2.1 X.2.2.2.2.1 r.2))) (nI (mm)) (nI (n5)) false kn y0 y1 y2 y3 y4 y5 y6) := wN_D hI
                have hWFi := WF_itA hWF h_ok i h_i
                refine lv_iload_n hx hb dX4_text_113 rfl (lv_at hl 1 rfl) ?_
                refine lv_aload_n hx hb dX4_text_114 rfl (lv_at hl 2 rfl) ?_
                refine va_get (D := D) (ci := 4) (v := .int (nI mm)) (C := RX4) (T := TX4) (N := 24) hx hb hts hinX4 hown hK hP 0 rfl rfl 18 (by decide) (hts (.fieldLink RX4 283 "OneShortModel" "itemMany" "I") (List.mem_of_getElem? (i := 3) rfl)) (fun _ h9 => h9) rfl dX4_text_115 ?_
                refine nv_icmp_ge (tgt := 145) hx hb (by omega) (by omega) dX4_text_118 (by decide) (fun c18 => ?_) (fun c18 => ?_)
                · refine lv_iload_n hx hb dX4_text_145 rfl (lv_at hl 0 rfl) ?_
                  have hp : p_text X = (nI (i), toS (toL X (0)) (itA y5 X.1 i)) := (by rw [show i = mm by omega]; exact tx_t h_end)
                  refine nv_cv (show nI (i) = (p_text X).1 from by rw [hp]) ?_
                  exact mu_iret hx hb hr hlocks hS ((by rw [hp]; exact ⟨_, _, _, _, _, _, _, _, _, _, _, _, _, _, _, hkr, hP⟩)) dX4_text_146
                · refine lv_iload_n hx hb dX4_text_121 rfl (lv_at hl 0 rfl) ?_
                  refine lv_aload_n hx hb dX4_text_122 rfl (lv_at hl 2 rfl) ?_
                  refine lv_iconst (v := nI (5)) hx hb dX4_text_123 (by decide) ?_
                  refine lv_iload_n hx hb dX4_text_124 rfl (lv_at hl 1 rfl) ?_
                  refine nv_imul hx hb dX4_text_125 ?_
                  refine mu_V (n := 1) (As := [.int (nI ((5 * i)))]) (rest := [.int (nI i)]) ⟨hx, hb, hml, hown, hts⟩ (c_X4_isToldSo l D ci am (toS (toL X (0)) (itA y5 X.1 i)) kr (nI (stt X.2.2.2.2.2.1 X.2.2.2.2.1 (nxt X.2.2.2.2.2.1 X.2.2.2.2.1 r.2))) (nI (nxt X.2.2.2.2.2.1 X.2.2.2.2.1 (nxt X.2.2.2.2.2.1 X.2.2.2.2.1 r.2))) (nI (min (srt X.2.2.2.2.2.1 X.2.2.2.2.1 (nxt X.2.2.2.2.2.1 X.2.2.2.2.1 r.2)) 3)) (nI (vlu X.2.2.2.2.2.1 X.2.2.2.2.1 (nxt X.2.2.2.2.2.1 X.2.2.2.2.1 r.2))) (nI (mm)) (nI (n5)) false kn y0 y1 y2 y3 y4 y5 y6 hI (i) (tn (y5 (5 * i))) (tn (y5 (5 * i + 1))) (tn (y5 (5 * i + 2))) (tn (y5 (5 * i + 3))) (tn (y5 (5 * i + 4))) hWFi (by omega) ((h_ok i (by omega)).2 0 (by decide)) ((h_ok i (by omega)).2 1 (by decide)) ((h_ok i (by omega)).2 2 (by decide)) ((h_ok i (by omega)).2 3 (by decide)) ((h_ok i (by omega)).2 4 (by decide)) (h_ok i (by omega)).1) gX4_text_X4_isToldSo rfl ⟨rfl, rfl⟩ (by decide +kernel) rfl ⟨Nat.le_of_ble_eq_true rfl, Nat.le_of_ble_eq_true rfl⟩ hE_T trivial hK hP (ci := 4) (q0 := 0) rfl rfl hl.1 rfl (Nat.le_of_ble_eq_true rfl) dX4_text_126 ⟨Nat.zero_le _, Nat.zero_le _⟩ hS (fun _ h => h) (fun H1 locs hz hfr hB hS => ?_)
                  have hP := hB
                  have hP : va_P D vwCl (wN ci am (toS (toS (toL X (0)) (itA y5 X.1 i)) (apI (itA y5 X.1 i) (tn (y5 (5 * i))) (tn (y5 (5 * i + 1))) (tn (y5 (5 * i + 2))) (tn (y5 (5 * i + 3))) (tn (y5 (5 * i + 4))))) kr (nI (stt X.2.2.2.2.2.1 X.2.2.2.2.1 (nxt X.2.2.2.2.2.1 X.2.2.2.2.1 r.2))) (nI (nxt X.2.2.2.2.2.1 X.2.2.2.2.1 (nxt X.2.2.2.2.2.1 X.2.2.2.2.1 r.2))) (nI (min (srt X.2.2.2.2.2.1 X.2.2.2.2.1 (nxt X.2.2.2.2.2.1 X.2.2.2.2.1 r.2)) 3)) (nI (vlu X.2.2.2.2.2.1 X.2.2.2.2.1 (nxt X.2.2.2.2.2.1 X.2.2.2.2.1 r.2))) (nI (mm)) (nI (n5)) false kn y0 y1 y2 y3 y4 y5 y6) H1 := hP
                  generalize H1 = H at hP hS ⊢
                  have hD : va_D (aM am) (wN ci am (toS (toS (toL X (0)) (itA y5 X.1 i)) (apI (itA y5 X.1 i) (tn (y5 (5 * i))) (tn (y5 (5 * i + 1))) (tn (y5 (5 * i + 2))) (tn (y5 (5 * i + 3))) (tn (y5 (5 * i + 4))))) kr (nI (stt X.2.2.2.2.2.1 X.2.2.2.2.1 (nxt X.2.2.2.2.2.1 X.2.2.2.2.1 r.2))) (nI (nxt X.2.2.2.2.2.1 X.2.2.2.2.1 (nxt X.2.2.2.2.2.1 X.2.2.2.2.1 r.2))) (nI (min (srt X.2.2.2.2.2.1 X.2.2.2.2.1 (nxt X.2.2.2.2.2.1 X.2.2.2.2.1 r.2)) 3)) (nI (vlu X.2.2.2.2.2.1 X.2.2.2.2.1 (nxt X.2.2.2.2.2.1 X.2.2.2.2.1 r.2))) (nI (mm)) (nI (n5)) false kn y0 y1 y2 y3 y4 y5 y6) := wN_D hI
                  have f19 := show (if (tn (y5 (5 * i))) = 10 then (toS (toL X (0)) (itA y5 X.1 i)).1 0 (tn (y5 (5 * i + 1))) else (toS (toL X (0)) (itA y5 X.1 i)).1 7 0) < 64 from apR_lt hWFi (tn (y5 (5 * i))) (tn (y5 (5 * i + 1)))
                  refine nv_ifge (tgt := 136) hx hb (by omega) dX4_text_129 (by decide) ?_
                  refine lv_iconst (v := nI (1)) hx hb dX4_text_136 (by decide) ?_
                  refine nv_iadd hx hb dX4_text_137 ?_
                  refine lv_istore_n (lv' := [(1, .int (nI ((i + 1)))), (2, .int (nI i)), (0, .ref (am 0))]) hx hb dX4_text_138 rfl hl (by decide) rfl (fun ls hl => ?_)
                  refine nv_iinc1 (lv' := [(2, .int (nI (i + 1))), (1, .int (nI ((i + 1)))), (0, .ref (am 0))]) hx hb dX4_text_139 hl (k := 1) rfl (by decide) rfl (fun ls hl => ?_)
                  refine lv_goto (tgt := 113) hx hb dX4_text_142 (by decide) ?_
                  exact ih113 (i + 1) (by omega) (by omega) (nI ((i + 1))) (nI (i + 1)) rfl rfl _ _ (va_P.re (by rfl) hP) hS ls (lv_sub hl [1, 0, 2] rfl)
            exact L113 _ (0) (Nat.lt_succ_self _) (by omega) (nI (0)) (nI (0)) rfl rfl _ _ hP hS ls (lv_sub hl [1, 0, 2] rfl)
        · have f_sl := srt_lt (tb := X.2.2.2.2.2.1) (tl := X.2.2.2.2.1) (p := r.2) (by omega)
          have f_59 := h_tb (stt X.2.2.2.2.2.1 X.2.2.2.2.1 r.2)
          refine lv_aload_n hx hb dX4_text_48 rfl (lv_at hl 0 rfl) ?_
          refine va_get (D := D) (ci := 4) (v := .ref (am 9)) (C := RX4) (T := TX4) (N := 24) hx hb hts hinX4 hown hK hP 0 rfl rfl 9 (by decide) (hts (.fieldLink RX4 34 "OneShortModel" "tape" "[I") (List.mem_of_getElem? (i := 7) rfl)) (fun _ h9 => h9) rfl dX4_text_49 ?_
          refine lv_aload_n hx hb dX4_text_52 rfl (lv_at hl 0 rfl) ?_
          refine va_get (D := D) (ci := 4) (v := .int (nI (stt X.2.2.2.2.2.1 X.2.2.2.2.1 r.2))) (C := RX4) (T := TX4) (N := 24) hx hb hts hinX4 hown hK hP 0 rfl rfl 11 (by decide) (hts (.fieldLink RX4 253 "OneShortModel" "begins" "I") (List.mem_of_getElem? (i := 8) rfl)) (fun _ h9 => h9) rfl dX4_text_53 ?_
          refine nv_iald (v := nI (X.2.2.2.2.2.1 (stt X.2.2.2.2.2.1 X.2.2.2.2.1 r.2))) hx hb hK hP 9 0 rfl rfl (by omega) (by decide) rfl dX4_text_56 ?_
          refine lv_bipush (v := nI (59)) hx hb dX4_text_57 (by decide) ?_
          refine nv_icmp_ne (tgt := 74) hx hb (by omega) (by omega) dX4_text_59 (by decide) (fun c21 => ?_) (fun c21 => ?_)
          · refine lv_aload_n hx hb dX4_text_74 rfl (lv_at hl 0 rfl) ?_
            refine lv_aload_n hx hb dX4_text_75 rfl (lv_at hl 0 rfl) ?_
            refine va_get (D := D) (ci := 4) (v := .int (nI (min (srt X.2.2.2.2.2.1 X.2.2.2.2.1 r.2) 3))) (C := RX4) (T := TX4) (N := 24) hx hb hts hinX4 hown hK hP 0 rfl rfl 13 (by decide) (hts (.fieldLink RX4 262 "OneShortModel" "sort" "I") (List.mem_of_getElem? (i := 6) rfl)) (fun _ h9 => h9) rfl dX4_text_76 ?_
            refine nv_ifne (tgt := 86) hx hb (by omega) dX4_text_79 (by decide) (fun c22 => ?_) (fun c22 => ?_)
            · refine lv_iconst (v := nI (0)) hx hb dX4_text_86 (by decide) ?_
              refine nv_cv (show nI (0) = bI (false) from rfl) ?_
              refine mu_V (n := 1) (As := [.int (bI (false))]) (rest := []) ⟨hx, hb, hml, hown, hts⟩ (c_X4_must l D ci am X kr (nI (stt X.2.2.2.2.2.1 X.2.2.2.2.1 r.2)) (nI (nxt X.2.2.2.2.2.1 X.2.2.2.2.1 r.2)) (nI (min (srt X.2.2.2.2.2.1 X.2.2.2.2.1 r.2) 3)) (nI (vlu X.2.2.2.2.2.1 X.2.2.2.2.1 r.2)) (nI (mm)) (nI (n5)) false kn y0 y1 y2 y3 y4 y5 y6 hI G adK adV fx (false) (false) (r.2) hGA h_kn h_tl h_tb (by omega)) gX4_text_X4_must rfl ⟨rfl, rfl⟩ (by decide +kernel) rfl ⟨Nat.le_of_ble_eq_true rfl, Nat.le_of_ble_eq_true rfl⟩ hE (enW_S hGA hs0 hS) hK hP (ci := 4) (q0 := 0) rfl rfl hl.1 rfl (Nat.le_of_ble_eq_true rfl) dX4_text_87 ⟨Nat.zero_le _, Nat.zero_le _⟩ hS (fun _ h => h) (fun H1 locs hz hfr hB hS => ?_)
              have hP := hB
              have hP : va_P D vwCl (wN ci am X kr (nI (stt X.2.2.2.2.2.1 X.2.2.2.2.1 (mP X.2.2.2.2.2.1 X.2.2.2.2.1 false false r.2))) (nI (nxt X.2.2.2.2.2.1 X.2.2.2.2.1 (mP X.2.2.2.2.2.1 X.2.2.2.2.1 false false r.2))) (nI (min (srt X.2.2.2.2.2.1 X.2.2.2.2.1 (mP X.2.2.2.2.2.1 X.2.2.2.2.1 false false r.2)) 3)) (nI (vlu X.2.2.2.2.2.1 X.2.2.2.2.1 (mP X.2.2.2.2.2.1 X.2.2.2.2.1 false false r.2))) (nI (mm)) (nI (n5)) (mW false false) kn y0 y1 y2 y3 y4 y5 y6) H1 := hP
              generalize H1 = H at hP hS ⊢
              have hD : va_D (aM am) (wN ci am X kr (nI (stt X.2.2.2.2.2.1 X.2.2.2.2.1 (mP X.2.2.2.2.2.1 X.2.2.2.2.1 false false r.2))) (nI (nxt X.2.2.2.2.2.1 X.2.2.2.2.1 (mP X.2.2.2.2.2.1 X.2.2.2.2.1 false false r.2))) (nI (min (srt X.2.2.2.2.2.1 X.2.2.2.2.1 (mP X.2.2.2.2.2.1 X.2.2.2.2.1 false false r.2)) 3)) (nI (vlu X.2.2.2.2.2.1 X.2.2.2.2.1 (mP X.2.2.2.2.2.1 X.2.2.2.2.1 false false r.2))) (nI (mm)) (nI (n5)) (mW false false) kn y0 y1 y2 y3 y4 y5 y6) := wN_D hI
              have f23 := mP_le (tb := X.2.2.2.2.2.1) (wr := false) (is := false) (show r.2 ≤ X.2.2.2.2.1 by omega)
              have f24 := tokf (tb := X.2.2.2.2.2.1) (mP_le (tb := X.2.2.2.2.2.1) (wr := false) (is := false) (show r.2 ≤ X.2.2.2.2.1 by omega))
              have hP : va_P D vwCl (wN ci am X kr (nI (stt X.2.2.2.2.2.1 X.2.2.2.2.1 r.2)) (nI (nxt X.2.2.2.2.2.1 X.2.2.2.2.1 r.2)) (nI (min (srt X.2.2.2.2.2.1 X.2.2.2.2.1 r.2) 3)) (nI (vlu X.2.2.2.2.2.1 X.2.2.2.2.1 r.2)) (nI (mm)) (nI (n5)) true kn y0 y1 y2 y3 y4 y5 y6) H := hP
              have hD : va_D (aM am) (wN ci am X kr (nI (stt X.2.2.2.2.2.1 X.2.2.2.2.1 r.2)) (nI (nxt X.2.2.2.2.2.1 X.2.2.2.2.1 r.2)) (nI (min (srt X.2.2.2.2.2.1 X.2.2.2.2.1 r.2) 3)) (nI (vlu X.2.2.2.2.2.1 X.2.2.2.2.1 r.2)) (nI (mm)) (nI (n5)) true kn y0 y1 y2 y3 y4 y5 y6) := wN_D hI
              refine lv_aload_n hx hb dX4_text_90 rfl (lv_at hl 0 rfl) ?_
              refine lv_iconst (v := nI (0)) hx hb dX4_text_91 (by decide) ?_
              refine va_put (D := D) (ci := 4) (v := .int (nI 0)) (ty := .int) (C := RX4) (T := TX4) (N := 24) hx hb hts hinX4 tyX4 tyX4_ok nmX4 hown hK hP hD hS 0 rfl rfl 10 (by decide) (hts (.fieldLink RX4 246 "OneShortModel" "taped" "I") (List.mem_of_getElem? (i := 9) rfl)) (fun _ h9 => h9) rfl (by decide +kernel) rfl rfl (Nat.le_of_ble_eq_true rfl) dX4_text_92 (fun H locs hP hD hS => ?_)
              have hP : va_P D vwCl (wN ci am (toL X (0)) kr (nI (stt X.2.2.2.2.2.1 X.2.2.2.2.1 r.2)) (nI (nxt X.2.2.2.2.2.1 X.2.2.2.2.1 r.2)) (nI (min (srt X.2.2.2.2.2.1 X.2.2.2.2.1 r.2) 3)) (nI (vlu X.2.2.2.2.2.1 X.2.2.2.2.1 r.2)) (nI (mm)) (nI (n5)) true kn y0 y1 y2 y3 y4 y5 y6) H := va_P.re (wN_tl ci am X kr (nI (stt X.2.2.2.2.2.1 X.2.2.2.2.1 r.2)) (nI (nxt X.2.2.2.2.2.1 X.2.2.2.2.1 r.2)) (nI (min (srt X.2.2.2.2.2.1 X.2.2.2.2.1 r.2) 3)) (nI (vlu X.2.2.2.2.2.1 X.2.2.2.2.1 r.2)) (nI (mm)) (nI (n5)) true kn y0 y1 y2 y3 y4 y5 y6 (0)) hP
              have hD : va_D (aM am) (wN ci am (toL X (0)) kr (nI (stt X.2.2.2.2.2.1 X.2.2.2.2.1 r.2)) (nI (nxt X.2.2.2.2.2.1 X.2.2.2.2.1 r.2)) (nI (min (srt X.2.2.2.2.2.1 X.2.2.2.2.1 r.2) 3)) (nI (vlu X.2.2.2.2.2.1 X.2.2.2.2.1 r.2)) (nI (mm)) (nI (n5)) true kn y0 y1 y2 y3 y4 y5 y6) := wN_D hI
              refine lv_aload_n hx hb dX4_text_95 rfl (lv_at hl 0 rfl) ?_
              refine va_get (D := D) (ci := 4) (v := .int (bI (true))) (C := RX4) (T := TX4) (N := 24) hx hb hts hinX4 hown hK hP 0 rfl rfl 15 (by decide) (hts (.fieldLink RX4 272 "OneShortModel" "isWrong" "Z") (List.mem_of_getElem? (i := 2) rfl)) (fun _ h9 => h9) rfl dX4_text_96 ?_
              refine nv_ifeq_b (tgt := 109) hx hb dX4_text_99 (by decide) (fun h9 => absurd h9 (by decide)) (fun _ => ?_)
              refine lv_iconst (v := -1) hx hb dX4_text_102 (by decide) ?_
              refine lv_aload_n hx hb dX4_text_103 rfl (lv_at hl 0 rfl) ?_
              refine va_get (D := D) (ci := 4) (v := .int (nI (stt X.2.2.2.2.2.1 X.2.2.2.2.1 r.2))) (C := RX4) (T := TX4) (N := 24) hx hb hts hinX4 hown hK hP 0 rfl rfl 11 (by decide) (hts (.fieldLink RX4 253 "OneShortModel" "begins" "I") (List.mem_of_getElem? (i := 8) rfl)) (fun _ h9 => h9) rfl dX4_text_104 ?_
              refine lv_isub hx hb dX4_text_107 ?_
              have hp : p_text X = ((-1 - nI (stt X.2.2.2.2.2.1 X.2.2.2.2.1 r.2)), toL X (0)) := (by first | exact tx_f (txi_b1 (by omega) h_x c2) | exact tx_f (txi_b2 (by omega) h_x h_r1 (by omega) (by omega)) | exact tx_f (txi_b2 (by omega) h_x h_r1 (by omega) (sr_n59 f_sl c21)) | (exfalso; omega))
              refine nv_cv (show (-1 - nI (stt X.2.2.2.2.2.1 X.2.2.2.2.1 r.2)) = (p_text X).1 from by rw [hp]) ?_
              exact mu_iret hx hb hr hlocks hS ((by rw [hp]; exact ⟨_, _, _, _, _, _, _, _, _, _, _, _, _, _, _, hkr, hP⟩)) dX4_text_108
            · refine lv_iconst (v := nI (1)) hx hb dX4_text_82 (by decide) ?_
              refine lv_goto (tgt := 87) hx hb dX4_text_83 (by decide) ?_
              refine nv_cv (show nI (1) = bI (true) from rfl) ?_
              refine mu_V (n := 1) (As := [.int (bI (true))]) (rest := []) ⟨hx, hb, hml, hown, hts⟩ (c_X4_must l D ci am X kr (nI (stt X.2.2.2.2.2.1 X.2.2.2.2.1 r.2)) (nI (nxt X.2.2.2.2.2.1 X.2.2.2.2.1 r.2)) (nI (min (srt X.2.2.2.2.2.1 X.2.2.2.2.1 r.2) 3)) (nI (vlu X.2.2.2.2.2.1 X.2.2.2.2.1 r.2)) (nI (mm)) (nI (n5)) false kn y0 y1 y2 y3 y4 y5 y6 hI G adK adV fx (true) (false) (r.2) hGA h_kn h_tl h_tb (by omega)) gX4_text_X4_must rfl ⟨rfl, rfl⟩ (by decide +kernel) rfl ⟨Nat.le_of_ble_eq_true rfl, Nat.le_of_ble_eq_true rfl⟩ hE (enW_S hGA hs0 hS) hK hP (ci := 4) (q0 := 0) rfl rfl hl.1 rfl (Nat.le_of_ble_eq_true rfl) dX4_text_87 ⟨Nat.zero_le _, Nat.zero_le _⟩ hS (fun _ h => h) (fun H1 locs hz hfr hB hS => ?_)
              have hP := hB
              have hP : va_P D vwCl (wN ci am X kr (nI (stt X.2.2.2.2.2.1 X.2.2.2.2.1 (mP X.2.2.2.2.2.1 X.2.2.2.2.1 false true r.2))) (nI (nxt X.2.2.2.2.2.1 X.2.2.2.2.1 (mP X.2.2.2.2.2.1 X.2.2.2.2.1 false true r.2))) (nI (min (srt X.2.2.2.2.2.1 X.2.2.2.2.1 (mP X.2.2.2.2.2.1 X.2.2.2.2.1 false true r.2)) 3)) (nI (vlu X.2.2.2.2.2.1 X.2.2.2.2.1 (mP X.2.2.2.2.2.1 X.2.2.2.2.1 false true r.2))) (nI (mm)) (nI (n5)) (mW false true) kn y0 y1 y2 y3 y4 y5 y6) H1 := hP
              generalize H1 = H at hP hS ⊢
              have hD : va_D (aM am) (wN ci am X kr (nI (stt X.2.2.2.2.2.1 X.2.2.2.2.1 (mP X.2.2.2.2.2.1 X.2.2.2.2.1 false true r.2))) (nI (nxt X.2.2.2.2.2.1 X.2.2.2.2.1 (mP X.2.2.2.2.2.1 X.2.2.2.2.1 false true r.2))) (nI (min (srt X.2.2.2.2.2.1 X.2.2.2.2.1 (mP X.2.2.2.2.2.1 X.2.2.2.2.1 false true r.2)) 3)) (nI (vlu X.2.2.2.2.2.1 X.2.2.2.2.1 (mP X.2.2.2.2.2.1 X.2.2.2.2.1 false true r.2))) (nI (mm)) (nI (n5)) (mW false true) kn y0 y1 y2 y3 y4 y5 y6) := wN_D hI
              have f26 := mP_le (tb := X.2.2.2.2.2.1) (wr := false) (is := true) (show r.2 ≤ X.2.2.2.2.1 by omega)
              have f27 := tokf (tb := X.2.2.2.2.2.1) (mP_le (tb := X.2.2.2.2.2.1) (wr := false) (is := true) (show r.2 ≤ X.2.2.2.2.1 by omega))
              have hP : va_P D vwCl (wN ci am X kr (nI (stt X.2.2.2.2.2.1 X.2.2.2.2.1 (nxt X.2.2.2.2.2.1 X.2.2.2.2.1 r.2))) (nI (nxt X.2.2.2.2.2.1 X.2.2.2.2.1 (nxt X.2.2.2.2.2.1 X.2.2.2.2.1 r.2))) (nI (min (srt X.2.2.2.2.2.1 X.2.2.2.2.1 (nxt X.2.2.2.2.2.1 X.2.2.2.2.1 r.2)) 3)) (nI (vlu X.2.2.2.2.2.1 X.2.2.2.2.1 (nxt X.2.2.2.2.2.1 X.2.2.2.2.1 r.2))) (nI (mm)) (nI (n5)) false kn y0 y1 y2 y3 y4 y5 y6) H := hP
              have hD : va_D (aM am) (wN ci am X kr (nI (stt X.2.2.2.2.2.1 X.2.2.2.2.1 (nxt X.2.2.2.2.2.1 X.2.2.2.2.1 r.2))) (nI (nxt X.2.2.2.2.2.1 X.2.2.2.2.1 (nxt X.2.2.2.2.2.1 X.2.2.2.2.1 r.2))) (nI (min (srt X.2.2.2.2.2.1 X.2.2.2.2.1 (nxt X.2.2.2.2.2.1 X.2.2.2.2.1 r.2)) 3)) (nI (vlu X.2.2.2.2.2.1 X.2.2.2.2.1 (nxt X.2.2.2.2.2.1 X.2.2.2.2.1 r.2))) (nI (mm)) (nI (n5)) false kn y0 y1 y2 y3 y4 y5 y6) := wN_D hI
              refine lv_aload_n hx hb dX4_text_90 rfl (lv_at hl 0 rfl) ?_
              refine lv_iconst (v := nI (0)) hx hb dX4_text_91 (by decide) ?_
              refine va_put (D := D) (ci := 4) (v := .int (nI 0)) (ty := .int) (C := RX4) (T := TX4) (N := 24) hx hb hts hinX4 tyX4 tyX4_ok nmX4 hown hK hP hD hS 0 rfl rfl 10 (by decide) (hts (.fieldLink RX4 246 "OneShortModel" "taped" "I") (List.mem_of_getElem? (i := 9) rfl)) (fun _ h9 => h9) rfl (by decide +kernel) rfl rfl (Nat.le_of_ble_eq_true rfl) dX4_text_92 (fun H locs hP hD hS => ?_)
              have hP : va_P D vwCl (wN ci am (toL X (0)) kr (nI (stt X.2.2.2.2.2.1 X.2.2.2.2.1 (nxt X.2.2.2.2.2.1 X.2.2.2.2.1 r.2))) (nI (nxt X.2.2.2.2.2.1 X.2.2.2.2.1 (nxt X.2.2.2.2.2.1 X.2.2.2.2.1 r.2))) (nI (min (srt X.2.2.2.2.2.1 X.2.2.2.2.1 (nxt X.2.2.2.2.2.1 X.2.2.2.2.1 r.2)) 3)) (nI (vlu X.2.2.2.2.2.1 X.2.2.2.2.1 (nxt X.2.2.2.2.2.1 X.2.2.2.2.1 r.2))) (nI (mm)) (nI (n5)) false kn y0 y1 y2 y3 y4 y5 y6) H := va_P.re (wN_tl ci am X kr (nI (stt X.2.2.2.2.2.1 X.2.2.2.2.1 (nxt X.2.2.2.2.2.1 X.2.2.2.2.1 r.2))) (nI (nxt X.2.2.2.2.2.1 X.2.2.2.2.1 (nxt X.2.2.2.2.2.1 X.2.2.2.2.1 r.2))) (nI (min (srt X.2.2.2.2.2.1 X.2.2.2.2.1 (nxt X.2.2.2.2.2.1 X.2.2.2.2.1 r.2)) 3)) (nI (vlu X.2.2.2.2.2.1 X.2.2.2.2.1 (nxt X.2.2.2.2.2.1 X.2.2.2.2.1 r.2))) (nI (mm)) (nI (n5)) false kn y0 y1 y2 y3 y4 y5 y6 (0)) hP
              have hD : va_D (aM am) (wN ci am (toL X (0)) kr (nI (stt X.2.2.2.2.2.1 X.2.2.2.2.1 (nxt X.2.2.2.2.2.1 X.2.2.2.2.1 r.2))) (nI (nxt X.2.2.2.2.2.1 X.2.2.2.2.1 (nxt X.2.2.2.2.2.1 X.2.2.2.2.1 r.2))) (nI (min (srt X.2.2.2.2.2.1 X.2.2.2.2.1 (nxt X.2.2.2.2.2.1 X.2.2.2.2.1 r.2)) 3)) (nI (vlu X.2.2.2.2.2.1 X.2.2.2.2.1 (nxt X.2.2.2.2.2.1 X.2.2.2.2.1 r.2))) (nI (mm)) (nI (n5)) false kn y0 y1 y2 y3 y4 y5 y6) := wN_D hI
              refine lv_aload_n hx hb dX4_text_95 rfl (lv_at hl 0 rfl) ?_
              refine va_get (D := D) (ci := 4) (v := .int (bI (false))) (C := RX4) (T := TX4) (N := 24) hx hb hts hinX4 hown hK hP 0 rfl rfl 15 (by decide) (hts (.fieldLink RX4 272 "OneShortModel" "isWrong" "Z") (List.mem_of_getElem? (i := 2) rfl)) (fun _ h9 => h9) rfl dX4_text_96 ?_
              refine nv_ifeq_b (tgt := 109) hx hb dX4_text_99 (by decide) (fun _ => ?_) (fun h9 => absurd h9 (by decide))
              have h_e := txi_e (by omega) h_x h_r1 (by omega)
              obtain ⟨h_end, h_ok⟩ := h_e
              have hP : va_P D vwCl (wN ci am (toS (toL X (0)) (itA y5 X.1 0)) kr (nI (stt X.2.2.2.2.2.1 X.2.2.2.2.1 (nxt X.2.2.2.2.2.1 X.2.2.2.2.1 r.2))) (nI (nxt X.2.2.2.2.2.1 X.2.2.2.2.1 (nxt X.2.2.2.2.2.1 X.2.2.2.2.1 r.2))) (nI (min (srt X.2.2.2.2.2.1 X.2.2.2.2.1 (nxt X.2.2.2.2.2.1 X.2.2.2.2.1 r.2)) 3)) (nI (vlu X.2.2.2.2.2.1 X.2.2.2.2.1 (nxt X.2.2.2.2.2.1 X.2.2.2.2.1 r.2))) (nI (mm)) (nI (n5)) false kn y0 y1 y2 y3 y4 y5 y6) H := hP
              have hD : va_D (aM am) (wN ci am (toS (toL X (0)) (itA y5 X.1 0)) kr (nI (stt X.2.2.2.2.2.1 X.2.2.2.2.1 (nxt X.2.2.2.2.2.1 X.2.2.2.2.1 r.2))) (nI (nxt X.2.2.2.2.2.1 X.2.2.2.2.1 (nxt X.2.2.2.2.2.1 X.2.2.2.2.1 r.2))) (nI (min (srt X.2.2.2.2.2.1 X.2.2.2.2.1 (nxt X.2.2.2.2.2.1 X.2.2.2.2.1 r.2)) 3)) (nI (vlu X.2.2.2.2.2.1 X.2.2.2.2.1 (nxt X.2.2.2.2.2.1 X.2.2.2.2.1 r.2))) (nI (mm)) (nI (n5)) false kn y0 y1 y2 y3 y4 y5 y6) := wN_D hI
              refine lv_iconst (v := nI (0)) hx hb dX4_text_109 (by decide) ?_
              refine lv_istore_n (lv' := [(1, .int (nI 0)), (0, .ref (am 0))]) hx hb dX4_text_110 rfl hl (by decide) rfl (fun ls hl => ?_)
              refine lv_iconst (v := nI (0)) hx hb dX4_text_111 (by decide) ?_
              refine lv_istore_n (lv' := [(2, .int (nI 0)), (1, .int (nI 0)), (0, .ref (am 0))]) hx hb dX4_text_112 rfl hl (by decide) rfl (fun ls hl => ?_)
              have L113 : ∀ (k113 : Nat) (i : Nat), mm - i < k113 → (i ≤ mm) → ∀ (x1 : Int32), ∀ (x2 : Int32), x1 = nI (i) → x2 = nI (i) → ∀ (H : Heap) (locs : List Loc), va_P D vwCl (wN ci am (toS (toL X (0)) (itA y5 X.1 i)) kr (nI (stt X.2.2.2.2.2.1 X.2.2.2.2.1 (nxt X.2.2.2.2.2.1 X.2.2.2.2.1 r.2))) (nI (nxt X.2.2.2.2.2.1 X.2.2.2.2.1 (nxt X.2.2.2.2.2.1 X.2.2.2.2.1 r.2))) (nI (min (srt X.2.2.2.2.2.1 X.2.2.2.2.1 (nxt X.2.2.2.2.2.1 X.2.2.2.2.1 r.2)) 3)) (nI (vlu X.2.2.2.2.2.1 X.2.2.2.2.1 (nxt X.2.2.2.2.2.1 X.2.2.2.2.1 r.2))) (nI (mm)) (nI (n5)) false kn y0 y1 y2 y3 y4 y5 y6) H → va_S (aM am) s.heap H locs → ∀ ls : Array Slot, lv_has ls 3 [(1, .int (x1)), (2, .int (x2)), (0, .ref (am 0))] → W p l e (headSpec wsX4_text ({ frames := 7, cells := 0, slots := 0, locals := 155 } : Room)).room s m ([.ref (am 0)] : List Value).toArray below meth c H locs 0 0 (MQ below (mu_Q (aM am) (some (.int ((p_text X).1))) (fun H => ∃ (kr : Nat → Int32) (q0 : Int32) (q1 : Int32) (q2 : Int32) (q3 : Int32) (q4 : Int32) (q5 : Int32) (iw : Bool) (y0 : Nat → Int32) (y1 : Nat → Int32) (y2 : Nat → Int32) (y3 : Nat → Int32) (y4 : Nat → Int32) (y5 : Nat → Int32) (y6 : Nat → Int32), kOK (p_text X).2 kr ∧ va_P D vwCl (wN ci am ((p_text X).2) kr q0 q1 q2 q3 q4 q5 iw kn y0 y1 y2 y3 y4 y5 y6) H)) ([.ref (am 0)] : List Value).toArray s 0 0 (aM am)) (F0 m 113 ls []) := by
                intro k113
                induction k113 with
                | zero => intro i h0; exact absurd h0 (Nat.not_lt_zero _)
                | succ k113 ih113 =>
                  intro i hk113 h_i x1 x2 e1 e2  H locs hP hS ls hl
                  subst e1
                  subst e2
                  have hD : va_D (aM am) (wN ci am (toS (toL X (0)) (itA y5 X.1 i)) kr (nI (stt X.2.2.2.2.2.1 X.2.2.2.2.1 (nxt X.2.2.2.2.2.1 X.2.2.2.2.1 r.2))) (nI (nxt X.2.2.2.2.2.1 X.2.2.2.2.1 (nxt X.2.2.2.2.2.1 X.2.2.2.2.1 r.2))) (nI (min (srt X.2.2.2.2.2.1 X.2.2.2.2.1 (nxt X.2.2.2.2.2.1 X.2.2.2.2.1 r.2)) 3)) (nI (vlu X.2.2.2.2.2.1 X.2.2.2.2.1 (nxt X.2.2.2.2.2.1 X.2.2.2.2.1 r.2))) (nI (mm)) (nI (n5)) false kn y0 y1 y2 y3 y4 y5 y6) := wN_D hI
                  have hWFi := WF_itA hWF h_ok i h_i
                  refine lv_iload_n hx hb dX4_text_113 rfl (lv_at hl 1 rfl) ?_
                  refine lv_aload_n hx hb dX4_text_114 rfl (lv_at hl 2 rfl) ?_
                  refine va_get (D := D) (ci := 4) (v := .int (nI mm)) (C := RX4) (T := TX4) (N := 24) hx hb hts hinX4 hown hK hP 0 rfl rfl 18 (by decide) (hts (.fieldLink RX4 283 "OneShortModel" "itemMany" "I") (List.mem_of_getElem? (i := 3) rfl)) (fun _ h9 => h9) rfl dX4_text_115 ?_
                  refine nv_icmp_ge (tgt := 145) hx hb (by omega) (by omega) dX4_text_118 (by decide) (fun c29 => ?_) (fun c29 => ?_)
                  · refine lv_iload_n hx hb dX4_text_145 rfl (lv_at hl 0 rfl) ?_
                    have hp : p_text X = (nI (i), toS (toL X (0)) (itA y5 X.1 i)) := (by rw [show i = mm by omega]; exact tx_t h_end)
                    refine nv_cv (show nI (i) = (p_text X).1 from by rw [hp]) ?_
                    exact mu_iret hx hb hr hlocks hS ((by rw [hp]; exact ⟨_, _, _, _, _, _, _, _, _, _, _, _, _, _, _, hkr, hP⟩)) dX4_text_146
                  · refine lv_iload_n hx hb dX4_text_121 rfl (lv_at hl 0 rfl) ?_
                    refine lv_aload_n hx hb dX4_text_122 rfl (lv_at hl 2 rfl) ?_
                    refine lv_iconst (v := nI (5)) hx hb dX4_text_123 (by decide) ?_
                    refine lv_iload_n hx hb dX4_text_124 rfl (lv_at hl 1 rfl) ?_
                    refine nv_imul hx hb dX4_text_125 ?_
                    refine mu_V (n := 1) (As := [.int (nI ((5 * i)))]) (rest := [.int (nI i)]) ⟨hx, hb, hml, hown, hts⟩ (c_X4_isToldSo l D ci am (toS (toL X (0)) (itA y5 X.1 i)) kr (nI (stt X.2.2.2.2.2.1 X.2.2.2.2.1 (nxt X.2.2.2.2.2.1 X.2.2.2.2.1 r.2))) (nI (nxt X.2.2.2.2.2.1 X.2.2.2.2.1 (nxt X.2.2.2.2.2.1 X.2.2.2.2.1 r.2))) (nI (min (srt X.2.2.2.2.2.1 X.2.2.2.2.1 (nxt X.2.2.2.2.2.1 X.2.2.2.2.1 r.2)) 3)) (nI (vlu X.2.2.2.2.2.1 X.2.2.2.2.1 (nxt X.2.2.2.2.2.1 X.2.2.2.2.1 r.2))) (nI (mm)) (nI (n5)) false kn y0 y1 y2 y3 y4 y5 y6 hI (i) (tn (y5 (5 * i))) (tn (y5 (5 * i + 1))) (tn (y5 (5 * i + 2))) (tn (y5 (5 * i + 3))) (tn (y5 (5 * i + 4))) hWFi (by omega) ((h_ok i (by omega)).2 0 (by decide)) ((h_ok i (by omega)).2 1 (by decide)) ((h_ok i (by omega)).2 2 (by decide)) ((h_ok i (by omega)).2 3 (by decide)) ((h_ok i (by omega)).2 4 (by decide)) (h_ok i (by omega)).1) gX4_text_X4_isToldSo rfl ⟨rfl, rfl⟩ (by decide +kernel) rfl ⟨Nat.le_of_ble_eq_true rfl, Nat.le_of_ble_eq_true rfl⟩ hE_T trivial hK hP (ci := 4) (q0 := 0) rfl rfl hl.1 rfl (Nat.le_of_ble_eq_true rfl) dX4_text_126 ⟨Nat.zero_le _, Nat.zero_le _⟩ hS (fun _ h => h) (fun H1 locs hz hfr hB hS => ?_)
                    have hP := hB
                    have hP : va_P D vwCl (wN ci am (toS (toS (toL X (0)) (itA y5 X.1 i)) (apI (itA y5 X.1 i) (tn (y5 (5 * i))) (tn (y5 (5 * i + 1))) (tn (y5 (5 * i + 2))) (tn (y5 (5 * i + 3))) (tn (y5 (5 * i + 4))))) kr (nI (stt X.2.2.2.2.2.1 X.2.2.2.2.1 (nxt X.2.2.2.2.2.1 X.2.2.2.2.1 r.2))) (nI (nxt X.2.2.2.2.2.1 X.2.2.2.2.1 (nxt X.2.2.2.2.2.1 X.2.2.2.2.1 r.2))) (nI (min (srt X.2.2.2.2.2.1 X.2.2.2.2.1 (nxt X.2.2.2.2.2.1 X.2.2.2.2.1 r.2)) 3)) (nI (vlu X.2.2.2.2.2.1 X.2.2.2.2.1 (nxt X.2.2.2.2.2.1 X.2.2.2.2.1 r.2))) (nI (mm)) (nI (n5)) false kn y0 y1 y2 y3 y4 y5 y6) H1 := hP
                    generalize H1 = H at hP hS ⊢
                    have hD : va_D (aM am) (wN ci am (toS (toS (toL X (0)) (itA y5 X.1 i)) (apI (itA y5 X.1 i) (tn (y5 (5 * i))) (tn (y5 (5 * i + 1))) (tn (y5 (5 * i + 2))) (tn (y5 (5 * i + 3))) (tn (y5 (5 * i + 4))))) kr (nI (stt X.2.2.2.2.2.1 X.2.2.2.2.1 (nxt X.2.2.2.2.2.1 X.2.2.2.2.1 r.2))) (nI (nxt X.2.2.2.2.2.1 X.2.2.2.2.1 (nxt X.2.2.2.2.2.1 X.2.2.2.2.1 r.2))) (nI (min (srt X.2.2.2.2.2.1 X.2.2.2.2.1 (nxt X.2.2.2.2.2.1 X.2.2.2.2.1 r.2)) 3)) (nI (vlu X.2.2.2.2.2.1 X.2.2.2.2.1 (nxt X.2.2.2.2.2.1 X.2.2.2.2.1 r.2))) (nI (mm)) (nI (n5)) false kn y0 y1 y2 y3 y4 y5 y6) := wN_D hI
                    have f30 := show (if (tn (y5 (5 * i))) = 10 then (toS (toL X (0)) (itA y5 X.1 i)).1 0 (tn (y5 (5 * i + 1))) else (toS (toL X (0)) (itA y5 X.1 i)).1 7 0) < 64 from apR_lt hWFi (tn (y5 (5 * i))) (tn (y5 (5 * i + 1)))
                    refine nv_ifge (tgt := 136) hx hb (by omega) dX4_text_129 (by decide) ?_
                    refine lv_iconst (v := nI (1)) hx hb dX4_text_136 (by decide) ?_
                    refine nv_iadd hx hb dX4_text_137 ?_
                    refine lv_istore_n (lv' := [(1, .int (nI ((i + 1)))), (2, .int (nI i)), (0, .ref (am 0))]) hx hb dX4_text_138 rfl hl (by decide) rfl (fun ls hl => ?_)
                    refine nv_iinc1 (lv' := [(2, .int (nI (i + 1))), (1, .int (nI ((i + 1)))), (0, .ref (am 0))]) hx hb dX4_text_139 hl (k := 1) rfl (by decide) rfl (fun ls hl => ?_)
                    refine lv_goto (tgt := 113) hx hb dX4_text_142 (by decide) ?_
                    exact ih113 (i + 1) (by omega) (by omega) (nI ((i + 1))) (nI (i + 1)) rfl rfl _ _ (va_P.re (by rfl) hP) hS ls (lv_sub hl [1, 0, 2] rfl)
              exact L113 _ (0) (Nat.lt_succ_self _) (by omega) (nI (0)) (nI (0)) rfl rfl _ _ hP hS ls (lv_sub hl [1, 0, 2] rfl)
          · refine lv_aload_n hx hb dX4_text_62 rfl (lv_at hl 0 rfl) ?_
            refine lv_iconst (v := nI (1)) hx hb dX4_text_63 (by decide) ?_
            refine nv_cv (show nI (1) = bI (true) from rfl) ?_
            refine mu_V (n := 1) (As := [.int (bI (true))]) (rest := []) ⟨hx, hb, hml, hown, hts⟩ (c_X4_must l D ci am X kr (nI (stt X.2.2.2.2.2.1 X.2.2.2.2.1 r.2)) (nI (nxt X.2.2.2.2.2.1 X.2.2.2.2.1 r.2)) (nI (min (srt X.2.2.2.2.2.1 X.2.2.2.2.1 r.2) 3)) (nI (vlu X.2.2.2.2.2.1 X.2.2.2.2.1 r.2)) (nI (mm)) (nI (n5)) false kn y0 y1 y2 y3 y4 y5 y6 hI G adK adV fx (true) (false) (r.2) hGA h_kn h_tl h_tb (by omega)) gX4_text_X4_must rfl ⟨rfl, rfl⟩ (by decide +kernel) rfl ⟨Nat.le_of_ble_eq_true rfl, Nat.le_of_ble_eq_true rfl⟩ hE (enW_S hGA hs0 hS) hK hP (ci := 4) (q0 := 0) rfl rfl hl.1 rfl (Nat.le_of_ble_eq_true rfl) dX4_text_64 ⟨Nat.zero_le _, Nat.zero_le _⟩ hS (fun _ h => h) (fun H1 locs hz hfr hB hS => ?_)
            have hP := hB
            have hP : va_P D vwCl (wN ci am X kr (nI (stt X.2.2.2.2.2.1 X.2.2.2.2.1 (mP X.2.2.2.2.2.1 X.2.2.2.2.1 false true r.2))) (nI (nxt X.2.2.2.2.2.1 X.2.2.2.2.1 (mP X.2.2.2.2.2.1 X.2.2.2.2.1 false true r.2))) (nI (min (srt X.2.2.2.2.2.1 X.2.2.2.2.1 (mP X.2.2.2.2.2.1 X.2.2.2.2.1 false true r.2)) 3)) (nI (vlu X.2.2.2.2.2.1 X.2.2.2.2.1 (mP X.2.2.2.2.2.1 X.2.2.2.2.1 false true r.2))) (nI (mm)) (nI (n5)) (mW false true) kn y0 y1 y2 y3 y4 y5 y6) H1 := hP
            generalize H1 = H at hP hS ⊢
            have hD : va_D (aM am) (wN ci am X kr (nI (stt X.2.2.2.2.2.1 X.2.2.2.2.1 (mP X.2.2.2.2.2.1 X.2.2.2.2.1 false true r.2))) (nI (nxt X.2.2.2.2.2.1 X.2.2.2.2.1 (mP X.2.2.2.2.2.1 X.2.2.2.2.1 false true r.2))) (nI (min (srt X.2.2.2.2.2.1 X.2.2.2.2.1 (mP X.2.2.2.2.2.1 X.2.2.2.2.1 false true r.2)) 3)) (nI (vlu X.2.2.2.2.2.1 X.2.2.2.2.1 (mP X.2.2.2.2.2.1 X.2.2.2.2.1 false true r.2))) (nI (mm)) (nI (n5)) (mW false true) kn y0 y1 y2 y3 y4 y5 y6) := wN_D hI
            have f32 := mP_le (tb := X.2.2.2.2.2.1) (wr := false) (is := true) (show r.2 ≤ X.2.2.2.2.1 by omega)
            have f33 := tokf (tb := X.2.2.2.2.2.1) (mP_le (tb := X.2.2.2.2.2.1) (wr := false) (is := true) (show r.2 ≤ X.2.2.2.2.1 by omega))
            have hP : va_P D vwCl (wN ci am X kr (nI (stt X.2.2.2.2.2.1 X.2.2.2.2.1 (nxt X.2.2.2.2.2.1 X.2.2.2.2.1 r.2))) (nI (nxt X.2.2.2.2.2.1 X.2.2.2.2.1 (nxt X.2.2.2.2.2.1 X.2.2.2.2.1 r.2))) (nI (min (srt X.2.2.2.2.2.1 X.2.2.2.2.1 (nxt X.2.2.2.2.2.1 X.2.2.2.2.1 r.2)) 3)) (nI (vlu X.2.2.2.2.2.1 X.2.2.2.2.1 (nxt X.2.2.2.2.2.1 X.2.2.2.2.1 r.2))) (nI (mm)) (nI (n5)) false kn y0 y1 y2 y3 y4 y5 y6) H := hP
            have hD : va_D (aM am) (wN ci am X kr (nI (stt X.2.2.2.2.2.1 X.2.2.2.2.1 (nxt X.2.2.2.2.2.1 X.2.2.2.2.1 r.2))) (nI (nxt X.2.2.2.2.2.1 X.2.2.2.2.1 (nxt X.2.2.2.2.2.1 X.2.2.2.2.1 r.2))) (nI (min (srt X.2.2.2.2.2.1 X.2.2.2.2.1 (nxt X.2.2.2.2.2.1 X.2.2.2.2.1 r.2)) 3)) (nI (vlu X.2.2.2.2.2.1 X.2.2.2.2.1 (nxt X.2.2.2.2.2.1 X.2.2.2.2.1 r.2))) (nI (mm)) (nI (n5)) false kn y0 y1 y2 y3 y4 y5 y6) := wN_D hI
            have f_nx := txi_s (by omega) h_x h_r1 (sr_59 f_sl c21)
            have f_nt := tokf (tb := X.2.2.2.2.2.1) (tl := X.2.2.2.2.1) (p := nxt X.2.2.2.2.2.1 X.2.2.2.2.1 r.2) (by omega)
            refine lv_aload_n hx hb dX4_text_67 rfl (lv_at hl 0 rfl) ?_
            refine mu_V (n := 0) (As := []) (rest := []) ⟨hx, hb, hml, hown, hts⟩ (c_X4_readItem l D ci am X kr (nI (stt X.2.2.2.2.2.1 X.2.2.2.2.1 (nxt X.2.2.2.2.2.1 X.2.2.2.2.1 r.2))) (nI (nxt X.2.2.2.2.2.1 X.2.2.2.2.1 (nxt X.2.2.2.2.2.1 X.2.2.2.2.1 r.2))) (nI (min (srt X.2.2.2.2.2.1 X.2.2.2.2.1 (nxt X.2.2.2.2.2.1 X.2.2.2.2.1 r.2)) 3)) (nI (vlu X.2.2.2.2.2.1 X.2.2.2.2.1 (nxt X.2.2.2.2.2.1 X.2.2.2.2.1 r.2))) (nI (mm)) (nI (n5)) false kn y0 y1 y2 y3 y4 y5 y6 hI G adK adV fx ((nxt X.2.2.2.2.2.1 X.2.2.2.2.1 r.2)) (mm) (n5) hGA h_kn h_tl h_tb (by omega) (by omega) (by omega)) gX4_text_X4_readItem rfl ⟨rfl, rfl⟩ (by decide +kernel) rfl ⟨Nat.le_of_ble_eq_true rfl, Nat.le_of_ble_eq_true rfl⟩ hE (enW_S hGA hs0 hS) hK hP (ci := 4) (q0 := 0) rfl rfl hl.1 rfl (Nat.le_of_ble_eq_true rfl) dX4_text_68 ⟨Nat.zero_le _, Nat.zero_le _⟩ hS (fun _ h => h) (fun H1 locs hz hfr hB hS => ?_)
            have hP := hB
            have hP : va_P D vwCl (wN ci am X kr (nI (stt X.2.2.2.2.2.1 X.2.2.2.2.1 ((riS X.2.2.2.2.2.1 X.2.2.2.2.1 (nxt X.2.2.2.2.2.1 X.2.2.2.2.1 r.2) n5).2))) (nI (nxt X.2.2.2.2.2.1 X.2.2.2.2.1 ((riS X.2.2.2.2.2.1 X.2.2.2.2.1 (nxt X.2.2.2.2.2.1 X.2.2.2.2.1 r.2) n5).2))) (nI (min (srt X.2.2.2.2.2.1 X.2.2.2.2.1 ((riS X.2.2.2.2.2.1 X.2.2.2.2.1 (nxt X.2.2.2.2.2.1 X.2.2.2.2.1 r.2) n5).2)) 3)) (nI (vlu X.2.2.2.2.2.1 X.2.2.2.2.1 ((riS X.2.2.2.2.2.1 X.2.2.2.2.1 (nxt X.2.2.2.2.2.1 X.2.2.2.2.1 r.2) n5).2))) (nI ((mm + 1))) (nI (riN X.2.2.2.2.2.1 X.2.2.2.2.1 (nxt X.2.2.2.2.2.1 X.2.2.2.2.1 r.2) n5)) ((riS X.2.2.2.2.2.1 X.2.2.2.2.1 (nxt X.2.2.2.2.2.1 X.2.2.2.2.1 r.2) n5).1) kn y0 y1 y2 y3 y4 (riY X.2.2.2.2.2.1 X.2.2.2.2.1 y5 (mm) (nxt X.2.2.2.2.2.1 X.2.2.2.2.1 r.2) n5) y6) H1 := hP
            generalize H1 = H at hP hS ⊢
            have hD : va_D (aM am) (wN ci am X kr (nI (stt X.2.2.2.2.2.1 X.2.2.2.2.1 ((riS X.2.2.2.2.2.1 X.2.2.2.2.1 (nxt X.2.2.2.2.2.1 X.2.2.2.2.1 r.2) n5).2))) (nI (nxt X.2.2.2.2.2.1 X.2.2.2.2.1 ((riS X.2.2.2.2.2.1 X.2.2.2.2.1 (nxt X.2.2.2.2.2.1 X.2.2.2.2.1 r.2) n5).2))) (nI (min (srt X.2.2.2.2.2.1 X.2.2.2.2.1 ((riS X.2.2.2.2.2.1 X.2.2.2.2.1 (nxt X.2.2.2.2.2.1 X.2.2.2.2.1 r.2) n5).2)) 3)) (nI (vlu X.2.2.2.2.2.1 X.2.2.2.2.1 ((riS X.2.2.2.2.2.1 X.2.2.2.2.1 (nxt X.2.2.2.2.2.1 X.2.2.2.2.1 r.2) n5).2))) (nI ((mm + 1))) (nI (riN X.2.2.2.2.2.1 X.2.2.2.2.1 (nxt X.2.2.2.2.2.1 X.2.2.2.2.1 r.2) n5)) ((riS X.2.2.2.2.2.1 X.2.2.2.2.1 (nxt X.2.2.2.2.2.1 X.2.2.2.2.1 r.2) n5).1) kn y0 y1 y2 y3 y4 (riY X.2.2.2.2.2.1 X.2.2.2.2.1 y5 (mm) (nxt X.2.2.2.2.2.1 X.2.2.2.2.1 r.2) n5) y6) := wN_D hI
            refine lv_goto (tgt := 33) hx hb dX4_text_71 (by decide) ?_
            exact ih33 ((mm + 1)) (nxt X.2.2.2.2.2.1 X.2.2.2.2.1 r.2) (riN X.2.2.2.2.2.1 X.2.2.2.2.1 (nxt X.2.2.2.2.2.1 X.2.2.2.2.1 r.2) n5) ((iR X.2.2.2.2.2.1 X.2.2.2.2.1 p1 S1).2.2) (riS X.2.2.2.2.2.1 X.2.2.2.2.1 (nxt X.2.2.2.2.2.1 X.2.2.2.2.1 r.2) n5) ((riY X.2.2.2.2.2.1 X.2.2.2.2.1 y5 (mm) (nxt X.2.2.2.2.2.1 X.2.2.2.2.1 r.2) n5)) (by omega) f_nx  _ _ hP hS ls (lv_sub hl [0] rfl)
  exact L33 _ ((0 + 1)) (0) (riN X.2.2.2.2.2.1 X.2.2.2.2.1 0 (X.1 7 0)) (X.1) (riS X.2.2.2.2.2.1 X.2.2.2.2.1 0 (X.1 7 0)) ((riY X.2.2.2.2.2.1 X.2.2.2.2.1 y5 (0) 0 (X.1 7 0))) (Nat.lt_succ_self _) (txi_0 (by omega) hWF)  _ _ hP hS ls (lv_sub hl [0] rfl)
