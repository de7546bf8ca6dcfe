/-! walks laid by program -/
set_option maxHeartbeats 4000000 in
set_option maxRecDepth 100000 in
/-- X3_sheet -/
theorem c_X3_sheet (l : Launch) (D : va_G) (ci : Nat → ClassId) (G : Nat → Prop) (ka : Nat) (ad : Nat → Nat) (X : AS) (T : OS) (tq la tt : Nat → Int32) (z : Nat → Nat → Int32) (hI : injA ad 48) (hG : ∀ k, k < 48 → G (ad k)) (s_ bt nn : Int32) (hWX : WFX X) : Met l yX3_sheet wsX3_sheet ({ frames := 1, cells := 0, slots := 0, locals := 23 } : Room) (va_Pc [.ref (ad 0), .int (s_), .int (bt), .int (nn)] (ro_B D (tyL ci) (wX ci ad X T tq la tt z) (en D (ci 0) G ka))) (mu_Q (aX ad) (some (.int ((p_sheet X s_ bt nn).1))) (fun H => ∃ T tq la tt z, va_P D vwCl (wX ci ad ((p_sheet X s_ bt nn).2) T tq la tt z) H)) 0 0 (aX ad) := by
  refine mu_Met (cc := cX3_sheet) (maxL := 4) (ret := (some .int)) [(0, .ref (ad 0)), (1, .int (s_)), (2, .int (bt)), (3, .int (nn))] (wX_D hI) (by decide) rfl (Nat.le_of_ble_eq_true rfl) rfl ?_
  intro p e s m below meth c H locs hx hb hml hr hlocks hts hown hP hK hs0 hD hS ls hl
  have hown : s.vm.findClass RX3 = some m.cls := hown
  have hinX1 : ∀ w ∈ wsX10, w ∈ wsX3_sheet := by decide +kernel
  have hinX3 : ∀ w ∈ wsX30, w ∈ wsX3_sheet := by decide +kernel
  have hE := hE_en D (ci 0) G ka
  have hWF := hWX.w
  have f_n := hWF.n
  have f_e := hWX.e
  have f_tl := hWX.t
  have hGA := aX_G hG
  have hWK := hWX.k
  refine lv_aload_n hx hb dX3_sheet_0 rfl (lv_at hl 0 rfl) ?_
  refine lv_iload_n hx hb dX3_sheet_1 rfl (lv_at hl 1 rfl) ?_
  refine ro_V (n := 1) (As := [.int (s_)]) (rest := []) ⟨hx, hb, hml, hown, hts⟩ (c_X3_isSheet l D ci G ka ad X T tq la tt z (s_) hWX) gX3_sheet_X3_isSheet rfl ⟨rfl, rfl⟩ (by decide +kernel) rfl ⟨Nat.le_of_ble_eq_true rfl, Nat.le_of_ble_eq_true rfl⟩ hE (en_S hGA hs0 hS) hK hP (ci := 3) (q0 := 0) rfl rfl hl.1 rfl (Nat.le_of_ble_eq_true rfl) dX3_sheet_2 ⟨Nat.zero_le _, Nat.zero_le _⟩ ?_
  refine nv_ifeq_b (tgt := 30) hx hb dX3_sheet_5 (by decide) (fun c1 => ?_) (fun c1 => ?_)
  · refine lv_aload_n hx hb dX3_sheet_30 rfl (lv_at hl 0 rfl) ?_
    refine lv_iconst (v := nI (0)) hx hb dX3_sheet_31 (by decide) ?_
    refine mu_V (n := 1) (As := [.int (nI 0)]) (rest := []) ⟨hx, hb, hml, hown, hts⟩ (c_X3_finding l D ci G ka ad X T tq la tt z hI hG (0) hWX (by omega)) gX3_sheet_X3_finding rfl ⟨rfl, rfl⟩ (by decide +kernel) rfl ⟨Nat.le_of_ble_eq_true rfl, Nat.le_of_ble_eq_true rfl⟩ hE (en_S hGA hs0 hS) hK hP (ci := 3) (q0 := 0) rfl rfl hl.1 rfl (Nat.le_of_ble_eq_true rfl) dX3_sheet_32 ⟨Nat.zero_le _, Nat.zero_le _⟩ hS (fun _ h => h) (fun H1 locs hz hfr hB hS => ?_)
    obtain ⟨T, tq, la, tt, z, hP⟩ := hB
    generalize H1 = H at hP hS ⊢
    have hD : va_D (aX ad) (wX ci ad (toF X (inc X.2.2.2.1 0)) T tq la tt z) := wX_D hI
    have hp : p_sheet X s_ bt nn = (fnd 0, toF X (inc X.2.2.2.1 0)) := by first | (simp [p_sheet, bk, fl_eq, updF_s, c1]; done)
    refine nv_cv (show fnd 0 = (p_sheet X s_ bt nn).1 from by rw [hp]) ?_
    exact mu_iret hx hb hr hlocks hS ((by rw [hp]; exact ⟨_, _, _, _, _, hP⟩)) dX3_sheet_35
  · obtain ⟨s_n, h_s_n, rfl⟩ := in_ex c1 (by omega)
    have t_s_n : tn (nI s_n) = s_n := tn_nI (by omega)
    have f2 := hWX.sl s_n
    have f3 := sb_lt hWX s_n
    refine lv_iload_n hx hb dX3_sheet_8 rfl (lv_at hl 2 rfl) ?_
    refine lv_if_eq (tgt := 36) hx hb dX3_sheet_9 (by decide) (fun c4 => ?_) (fun c4 => ?_)
    · obtain rfl : bt = nI 0 := c4
      have t_bt : tn (nI 0) = 0 := tn_nI (by decide)
      refine lv_iload_n hx hb dX3_sheet_36 rfl (lv_at hl 3 rfl) ?_
      refine lv_if_ge (tgt := 47) hx hb dX3_sheet_37 (by decide) (fun c5 => ?_) (fun c5 => ?_)
      · refine lv_iload_n hx hb dX3_sheet_47 rfl (lv_at hl 3 rfl) ?_
        refine lv_bipush (v := nI (40)) hx hb dX3_sheet_48 (by decide) ?_
        refine lv_icmp_le (tgt := 59) hx hb dX3_sheet_50 (by decide) (fun c6 => ?_) (fun c6 => ?_)
        · have i7 : inN nn 41 = true := in_t3 (by omega) (Int32.not_lt.mpr c5) c6
          obtain ⟨nnn, h_nnn, rfl⟩ := in_ex i7 (by omega)
          have t_nnn : tn (nI nnn) = nnn := tn_nI (by omega)
          refine lv_aload_n hx hb dX3_sheet_59 rfl (lv_at hl 0 rfl) ?_
          refine va_get (D := D) (ci := 3) (v := .ref (ad 1)) (C := RX3) (T := TX3) (N := 9) hx hb hts hinX3 hown hK hP 0 rfl rfl 5 (by decide) (hts (.fieldLink RX3 35 "OneShort" "sheets" "[LOneShort$Sheet;") (List.mem_of_getElem? (i := 1) rfl)) (fun _ h9 => h9) rfl dX3_sheet_60 ?_
          refine lv_iload_n hx hb dX3_sheet_63 rfl (lv_at hl 1 rfl) ?_
          refine nv_aald (v := .ref (ad (40 + 2 * (s_n)))) hx hb hK hP 1 1 rfl rfl (by omega) (by decide) rfl dX3_sheet_64 ?_
          refine lv_iload_n hx hb dX3_sheet_65 rfl (lv_at hl 2 rfl) ?_
          refine lv_iload_n hx hb dX3_sheet_66 rfl (lv_at hl 3 rfl) ?_
          refine mu_V (n := 2) (As := [.int (nI 0), .int (nI nnn)]) (rest := []) ⟨hx, hb, hml, hown, hts⟩ (c_X1_begin l D ci G ka (sh ad (40 + 2 * (s_n))) (X.2.2.2.2.2.2.1 (s_n)) (X.2.2.2.2.2.2.2.1 (s_n)) (X.2.2.2.2.2.2.2.2 (s_n)) (injA_sh2 hI (by omega)) (G_sh2 hG (by omega)) (0) (nnn) (by omega) (by omega)) gX3_sheet_X1_begin rfl ⟨rfl, rfl⟩ (by decide +kernel) rfl ⟨Nat.le_of_ble_eq_true rfl, Nat.le_of_ble_eq_true rfl⟩ hE (en_S hGA hs0 hS) hK (wX_sh (k := s_n) (by omega) hP) (ci := 1) (q0 := 0) rfl rfl hl.1 rfl (Nat.le_of_ble_eq_true rfl) dX3_sheet_67 ⟨Nat.zero_le _, Nat.zero_le _⟩ hS (fun q h => aR_X (by omega) q (aT_sh q h)) (fun H1 locs hz hfr hB hS => ?_)
          have hP := wX_jS hI (k := s_n) (by omega) hP hfr hB
          generalize H1 = H at hP hS ⊢
          have hD : va_D (aX ad) (wX ci ad (toH X (updF X.2.2.2.2.2.2.1 (s_n) (0)) (updF X.2.2.2.2.2.2.2.1 (s_n) ((if 0 = 0 then 0 else nnn))) (updF X.2.2.2.2.2.2.2.2 (s_n) ((fun _ => 0)))) T tq la tt z) := wX_D hI
          refine lv_aload_n hx hb dX3_sheet_70 rfl (lv_at hl 0 rfl) ?_
          refine va_get (D := D) (ci := 3) (v := .ref (ad 1)) (C := RX3) (T := TX3) (N := 9) hx hb hts hinX3 hown hK hP 0 rfl rfl 5 (by decide) (hts (.fieldLink RX3 35 "OneShort" "sheets" "[LOneShort$Sheet;") (List.mem_of_getElem? (i := 1) rfl)) (fun _ h9 => h9) rfl dX3_sheet_71 ?_
          refine lv_iload_n hx hb dX3_sheet_74 rfl (lv_at hl 1 rfl) ?_
          refine nv_aald (v := .ref (ad (40 + 2 * (s_n)))) hx hb hK hP 1 1 rfl rfl (by omega) (by decide) rfl dX3_sheet_75 ?_
          refine va_get (D := D) (ci := 1) (v := .int (nI ((updF X.2.2.2.2.2.2.2.1 (s_n) ((if 0 = 0 then 0 else nnn))) (s_n)))) (C := RX1) (T := TX1) (N := 3) hx hb hts hinX1 hown hK (wX_sh (k := s_n) (by omega) hP) 0 rfl rfl 2 (by decide) (hts (.fieldLink RX3 221 "OneShort$Sheet" "length" "I") (List.mem_of_getElem? (i := 2) rfl)) (fun _ h9 => h9) rfl dX3_sheet_76 ?_
          have hp : p_sheet X (nI s_n) (nI 0) (nI nnn) = (nI ((updF X.2.2.2.2.2.2.2.1 (s_n) ((if 0 = 0 then 0 else nnn))) (s_n)), toH X (updF X.2.2.2.2.2.2.1 (s_n) (0)) (updF X.2.2.2.2.2.2.2.1 (s_n) ((if 0 = 0 then 0 else nnn))) (updF X.2.2.2.2.2.2.2.2 (s_n) ((fun _ => 0)))) := by first | (simp [p_sheet, bk, fl_eq, updF_s, c1, Nat.lt_irrefl, c5, c6, t_s_n, t_bt, i7, t_nnn]; done)
          refine nv_cv (show nI ((updF X.2.2.2.2.2.2.2.1 (s_n) ((if 0 = 0 then 0 else nnn))) (s_n)) = (p_sheet X (nI s_n) (nI 0) (nI nnn)).1 from by rw [hp]) ?_
          exact mu_iret hx hb hr hlocks hS ((by rw [hp]; exact ⟨_, _, _, _, _, hP⟩)) dX3_sheet_79
        · have i8 : inN nn 41 = false := in_f3 (by omega) c6
          refine lv_aload_n hx hb dX3_sheet_53 rfl (lv_at hl 0 rfl) ?_
          refine lv_iconst (v := nI (0)) hx hb dX3_sheet_54 (by decide) ?_
          refine mu_V (n := 1) (As := [.int (nI 0)]) (rest := []) ⟨hx, hb, hml, hown, hts⟩ (c_X3_finding l D ci G ka ad X T tq la tt z hI hG (0) hWX (by omega)) gX3_sheet_X3_finding rfl ⟨rfl, rfl⟩ (by decide +kernel) rfl ⟨Nat.le_of_ble_eq_true rfl, Nat.le_of_ble_eq_true rfl⟩ hE (en_S hGA hs0 hS) hK hP (ci := 3) (q0 := 0) rfl rfl hl.1 rfl (Nat.le_of_ble_eq_true rfl) dX3_sheet_55 ⟨Nat.zero_le _, Nat.zero_le _⟩ hS (fun _ h => h) (fun H1 locs hz hfr hB hS => ?_)
          obtain ⟨T, tq, la, tt, z, hP⟩ := hB
          generalize H1 = H at hP hS ⊢
          have hD : va_D (aX ad) (wX ci ad (toF X (inc X.2.2.2.1 0)) T tq la tt z) := wX_D hI
          have hp : p_sheet X (nI s_n) (nI 0) nn = (fnd 0, toF X (inc X.2.2.2.1 0)) := by first | (simp [p_sheet, bk, fl_eq, updF_s, c1, Nat.lt_irrefl, c5, c6, t_s_n, t_bt, i8]; done)
          refine nv_cv (show fnd 0 = (p_sheet X (nI s_n) (nI 0) nn).1 from by rw [hp]) ?_
          exact mu_iret hx hb hr hlocks hS ((by rw [hp]; exact ⟨_, _, _, _, _, hP⟩)) dX3_sheet_58
      · have i9 : ∀ u9, inN nn u9 = false := fun u9 => in_f0 (Int32.not_le.mp c5)
        refine lv_aload_n hx hb dX3_sheet_40 rfl (lv_at hl 0 rfl) ?_
        refine lv_bipush (v := nI (6)) hx hb dX3_sheet_41 (by decide) ?_
        refine mu_V (n := 1) (As := [.int (nI 6)]) (rest := []) ⟨hx, hb, hml, hown, hts⟩ (c_X3_finding l D ci G ka ad X T tq la tt z hI hG (6) hWX (by omega)) gX3_sheet_X3_finding rfl ⟨rfl, rfl⟩ (by decide +kernel) rfl ⟨Nat.le_of_ble_eq_true rfl, Nat.le_of_ble_eq_true rfl⟩ hE (en_S hGA hs0 hS) hK hP (ci := 3) (q0 := 0) rfl rfl hl.1 rfl (Nat.le_of_ble_eq_true rfl) dX3_sheet_43 ⟨Nat.zero_le _, Nat.zero_le _⟩ hS (fun _ h => h) (fun H1 locs hz hfr hB hS => ?_)
        obtain ⟨T, tq, la, tt, z, hP⟩ := hB
        generalize H1 = H at hP hS ⊢
        have hD : va_D (aX ad) (wX ci ad (toF X (inc X.2.2.2.1 6)) T tq la tt z) := wX_D hI
        have hp : p_sheet X (nI s_n) (nI 0) nn = (fnd 6, toF X (inc X.2.2.2.1 6)) := by first | (simp [p_sheet, bk, fl_eq, updF_s, c1, Nat.lt_irrefl, c5, t_s_n, t_bt, i9]; done)
        refine nv_cv (show fnd 6 = (p_sheet X (nI s_n) (nI 0) nn).1 from by rw [hp]) ?_
        exact mu_iret hx hb hr hlocks hS ((by rw [hp]; exact ⟨_, _, _, _, _, hP⟩)) dX3_sheet_46
    · have d10 : ¬ bt = nI 0 := c4
      refine lv_iload_n hx hb dX3_sheet_12 rfl (lv_at hl 2 rfl) ?_
      refine lv_bipush (v := nI (8)) hx hb dX3_sheet_13 (by decide) ?_
      refine lv_icmp_eq (tgt := 36) hx hb dX3_sheet_15 (by decide) (fun c11 => ?_) (fun c11 => ?_)
      · subst c11
        have t_bt : tn (nI 8) = 8 := tn_nI (by decide)
        refine lv_iload_n hx hb dX3_sheet_36 rfl (lv_at hl 3 rfl) ?_
        refine lv_if_ge (tgt := 47) hx hb dX3_sheet_37 (by decide) (fun c12 => ?_) (fun c12 => ?_)
        · refine lv_iload_n hx hb dX3_sheet_47 rfl (lv_at hl 3 rfl) ?_
          refine lv_bipush (v := nI (40)) hx hb dX3_sheet_48 (by decide) ?_
          refine lv_icmp_le (tgt := 59) hx hb dX3_sheet_50 (by decide) (fun c13 => ?_) (fun c13 => ?_)
          · have i14 : inN nn 41 = true := in_t3 (by omega) (Int32.not_lt.mpr c12) c13
            obtain ⟨nnn, h_nnn, rfl⟩ := in_ex i14 (by omega)
            have t_nnn : tn (nI nnn) = nnn := tn_nI (by omega)
            refine lv_aload_n hx hb dX3_sheet_59 rfl (lv_at hl 0 rfl) ?_
            refine va_get (D := D) (ci := 3) (v := .ref (ad 1)) (C := RX3) (T := TX3) (N := 9) hx hb hts hinX3 hown hK hP 0 rfl rfl 5 (by decide) (hts (.fieldLink RX3 35 "OneShort" "sheets" "[LOneShort$Sheet;") (List.mem_of_getElem? (i := 1) rfl)) (fun _ h9 => h9) rfl dX3_sheet_60 ?_
            refine lv_iload_n hx hb dX3_sheet_63 rfl (lv_at hl 1 rfl) ?_
            refine nv_aald (v := .ref (ad (40 + 2 * (s_n)))) hx hb hK hP 1 1 rfl rfl (by omega) (by decide) rfl dX3_sheet_64 ?_
            refine lv_iload_n hx hb dX3_sheet_65 rfl (lv_at hl 2 rfl) ?_
            refine lv_iload_n hx hb dX3_sheet_66 rfl (lv_at hl 3 rfl) ?_
            refine mu_V (n := 2) (As := [.int (nI 8), .int (nI nnn)]) (rest := []) ⟨hx, hb, hml, hown, hts⟩ (c_X1_begin l D ci G ka (sh ad (40 + 2 * (s_n))) (X.2.2.2.2.2.2.1 (s_n)) (X.2.2.2.2.2.2.2.1 (s_n)) (X.2.2.2.2.2.2.2.2 (s_n)) (injA_sh2 hI (by omega)) (G_sh2 hG (by omega)) (8) (nnn) (by omega) (by omega)) gX3_sheet_X1_begin rfl ⟨rfl, rfl⟩ (by decide +kernel) rfl ⟨Nat.le_of_ble_eq_true rfl, Nat.le_of_ble_eq_true rfl⟩ hE (en_S hGA hs0 hS) hK (wX_sh (k := s_n) (by omega) hP) (ci := 1) (q0 := 0) rfl rfl hl.1 rfl (Nat.le_of_ble_eq_true rfl) dX3_sheet_67 ⟨Nat.zero_le _, Nat.zero_le _⟩ hS (fun q h => aR_X (by omega) q (aT_sh q h)) (fun H1 locs hz hfr hB hS => ?_)
            have hP := wX_jS hI (k := s_n) (by omega) hP hfr hB
            generalize H1 = H at hP hS ⊢
            have hD : va_D (aX ad) (wX ci ad (toH X (updF X.2.2.2.2.2.2.1 (s_n) (8)) (updF X.2.2.2.2.2.2.2.1 (s_n) ((if 8 = 0 then 0 else nnn))) (updF X.2.2.2.2.2.2.2.2 (s_n) ((fun _ => 0)))) T tq la tt z) := wX_D hI
            refine lv_aload_n hx hb dX3_sheet_70 rfl (lv_at hl 0 rfl) ?_
            refine va_get (D := D) (ci := 3) (v := .ref (ad 1)) (C := RX3) (T := TX3) (N := 9) hx hb hts hinX3 hown hK hP 0 rfl rfl 5 (by decide) (hts (.fieldLink RX3 35 "OneShort" "sheets" "[LOneShort$Sheet;") (List.mem_of_getElem? (i := 1) rfl)) (fun _ h9 => h9) rfl dX3_sheet_71 ?_
            refine lv_iload_n hx hb dX3_sheet_74 rfl (lv_at hl 1 rfl) ?_
            refine nv_aald (v := .ref (ad (40 + 2 * (s_n)))) hx hb hK hP 1 1 rfl rfl (by omega) (by decide) rfl dX3_sheet_75 ?_
            refine va_get (D := D) (ci := 1) (v := .int (nI ((updF X.2.2.2.2.2.2.2.1 (s_n) ((if 8 = 0 then 0 else nnn))) (s_n)))) (C := RX1) (T := TX1) (N := 3) hx hb hts hinX1 hown hK (wX_sh (k := s_n) (by omega) hP) 0 rfl rfl 2 (by decide) (hts (.fieldLink RX3 221 "OneShort$Sheet" "length" "I") (List.mem_of_getElem? (i := 2) rfl)) (fun _ h9 => h9) rfl dX3_sheet_76 ?_
            have hp : p_sheet X (nI s_n) (nI 8) (nI nnn) = (nI ((updF X.2.2.2.2.2.2.2.1 (s_n) ((if 8 = 0 then 0 else nnn))) (s_n)), toH X (updF X.2.2.2.2.2.2.1 (s_n) (8)) (updF X.2.2.2.2.2.2.2.1 (s_n) ((if 8 = 0 then 0 else nnn))) (updF X.2.2.2.2.2.2.2.2 (s_n) ((fun _ => 0)))) := by first | (simp [p_sheet, bk, fl_eq, updF_s, c1, c4, Nat.lt_irrefl, c12, c13, t_s_n, d10, t_bt, i14, t_nnn]; done)
            refine nv_cv (show nI ((updF X.2.2.2.2.2.2.2.1 (s_n) ((if 8 = 0 then 0 else nnn))) (s_n)) = (p_sheet X (nI s_n) (nI 8) (nI nnn)).1 from by rw [hp]) ?_
            exact mu_iret hx hb hr hlocks hS ((by rw [hp]; exact ⟨_, _, _, _, _, hP⟩)) dX3_sheet_79
          · have i15 : inN nn 41 = false := in_f3 (by omega) c13
            refine lv_aload_n hx hb dX3_sheet_53 rfl (lv_at hl 0 rfl) ?_
            refine lv_iconst (v := nI (0)) hx hb dX3_sheet_54 (by decide) ?_
            refine mu_V (n := 1) (As := [.int (nI 0)]) (rest := []) ⟨hx, hb, hml, hown, hts⟩ (c_X3_finding l D ci G ka ad X T tq la tt z hI hG (0) hWX (by omega)) gX3_sheet_X3_finding rfl ⟨rfl, rfl⟩ (by decide +kernel) rfl ⟨Nat.le_of_ble_eq_true rfl, Nat.le_of_ble_eq_true rfl⟩ hE (en_S hGA hs0 hS) hK hP (ci := 3) (q0 := 0) rfl rfl hl.1 rfl (Nat.le_of_ble_eq_true rfl) dX3_sheet_55 ⟨Nat.zero_le _, Nat.zero_le _⟩ hS (fun _ h => h) (fun H1 locs hz hfr hB hS => ?_)
            obtain ⟨T, tq, la, tt, z, hP⟩ := hB
            generalize H1 = H at hP hS ⊢
            have hD : va_D (aX ad) (wX ci ad (toF X (inc X.2.2.2.1 0)) T tq la tt z) := wX_D hI
            have hp : p_sheet X (nI s_n) (nI 8) nn = (fnd 0, toF X (inc X.2.2.2.1 0)) := by first | (simp [p_sheet, bk, fl_eq, updF_s, c1, c4, Nat.lt_irrefl, c12, c13, t_s_n, d10, t_bt, i15]; done)
            refine nv_cv (show fnd 0 = (p_sheet X (nI s_n) (nI 8) nn).1 from by rw [hp]) ?_
            exact mu_iret hx hb hr hlocks hS ((by rw [hp]; exact ⟨_, _, _, _, _, hP⟩)) dX3_sheet_58
        · have i16 : ∀ u9, inN nn u9 = false := fun u9 => in_f0 (Int32.not_le.mp c12)
          refine lv_aload_n hx hb dX3_sheet_40 rfl (lv_at hl 0 rfl) ?_
          refine lv_bipush (v := nI (6)) hx hb dX3_sheet_41 (by decide) ?_
          refine mu_V (n := 1) (As := [.int (nI 6)]) (rest := []) ⟨hx, hb, hml, hown, hts⟩ (c_X3_finding l D ci G ka ad X T tq la tt z hI hG (6) hWX (by omega)) gX3_sheet_X3_finding rfl ⟨rfl, rfl⟩ (by decide +kernel) rfl ⟨Nat.le_of_ble_eq_true rfl, Nat.le_of_ble_eq_true rfl⟩ hE (en_S hGA hs0 hS) hK hP (ci := 3) (q0 := 0) rfl rfl hl.1 rfl (Nat.le_of_ble_eq_true rfl) dX3_sheet_43 ⟨Nat.zero_le _, Nat.zero_le _⟩ hS (fun _ h => h) (fun H1 locs hz hfr hB hS => ?_)
          obtain ⟨T, tq, la, tt, z, hP⟩ := hB
          generalize H1 = H at hP hS ⊢
          have hD : va_D (aX ad) (wX ci ad (toF X (inc X.2.2.2.1 6)) T tq la tt z) := wX_D hI
          have hp : p_sheet X (nI s_n) (nI 8) nn = (fnd 6, toF X (inc X.2.2.2.1 6)) := by first | (simp [p_sheet, bk, fl_eq, updF_s, c1, c4, Nat.lt_irrefl, c12, t_s_n, d10, t_bt, i16]; done)
          refine nv_cv (show fnd 6 = (p_sheet X (nI s_n) (nI 8) nn).1 from by rw [hp]) ?_
          exact mu_iret hx hb hr hlocks hS ((by rw [hp]; exact ⟨_, _, _, _, _, hP⟩)) dX3_sheet_46
      · refine lv_iload_n hx hb dX3_sheet_18 rfl (lv_at hl 2 rfl) ?_
        refine lv_bipush (v := nI (16)) hx hb dX3_sheet_19 (by decide) ?_
        refine lv_icmp_eq (tgt := 36) hx hb dX3_sheet_21 (by decide) (fun c17 => ?_) (fun c17 => ?_)
        · subst c17
          have t_bt : tn (nI 16) = 16 := tn_nI (by decide)
          refine lv_iload_n hx hb dX3_sheet_36 rfl (lv_at hl 3 rfl) ?_
          refine lv_if_ge (tgt := 47) hx hb dX3_sheet_37 (by decide) (fun c18 => ?_) (fun c18 => ?_)
          · refine lv_iload_n hx hb dX3_sheet_47 rfl (lv_at hl 3 rfl) ?_
            refine lv_bipush (v := nI (40)) hx hb dX3_sheet_48 (by decide) ?_
            refine lv_icmp_le (tgt := 59) hx hb dX3_sheet_50 (by decide) (fun c19 => ?_) (fun c19 => ?_)
            · have i20 : inN nn 41 = true := in_t3 (by omega) (Int32.not_lt.mpr c18) c19
              obtain ⟨nnn, h_nnn, rfl⟩ := in_ex i20 (by omega)
              have t_nnn : tn (nI nnn) = nnn := tn_nI (by omega)
              refine lv_aload_n hx hb dX3_sheet_59 rfl (lv_at hl 0 rfl) ?_
              refine va_get (D := D) (ci := 3) (v := .ref (ad 1)) (C := RX3) (T := TX3) (N := 9) hx hb hts hinX3 hown hK hP 0 rfl rfl 5 (by decide) (hts (.fieldLink RX3 35 "OneShort" "sheets" "[LOneShort$Sheet;") (List.mem_of_getElem? (i := 1) rfl)) (fun _ h9 => h9) rfl dX3_sheet_60 ?_
              refine lv_iload_n hx hb dX3_sheet_63 rfl (lv_at hl 1 rfl) ?_
              refine nv_aald (v := .ref (ad (40 + 2 * (s_n)))) hx hb hK hP 1 1 rfl rfl (by omega) (by decide) rfl dX3_sheet_64 ?_
              refine lv_iload_n hx hb dX3_sheet_65 rfl (lv_at hl 2 rfl) ?_
              refine lv_iload_n hx hb dX3_sheet_66 rfl (lv_at hl 3 rfl) ?_
              refine mu_V (n := 2) (As := [.int (nI 16), .int (nI nnn)]) (rest := []) ⟨hx, hb, hml, hown, hts⟩ (c_X1_begin l D ci G ka (sh ad (40 + 2 * (s_n))) (X.2.2.2.2.2.2.1 (s_n)) (X.2.2.2.2.2.2.2.1 (s_n)) (X.2.2.2.2.2.2.2.2 (s_n)) (injA_sh2 hI (by omega)) (G_sh2 hG (by omega)) (16) (nnn) (by omega) (by omega)) gX3_sheet_X1_begin rfl ⟨rfl, rfl⟩ (by decide +kernel) rfl ⟨Nat.le_of_ble_eq_true rfl, Nat.le_of_ble_eq_true rfl⟩ hE (en_S hGA hs0 hS) hK (wX_sh (k := s_n) (by omega) hP) (ci := 1) (q0 := 0) rfl rfl hl.1 rfl (Nat.le_of_ble_eq_true rfl) dX3_sheet_67 ⟨Nat.zero_le _, Nat.zero_le _⟩ hS (fun q h => aR_X (by omega) q (aT_sh q h)) (fun H1 locs hz hfr hB hS => ?_)
              have hP := wX_jS hI (k := s_n) (by omega) hP hfr hB
              generalize H1 = H at hP hS ⊢
              have hD : va_D (aX ad) (wX ci ad (toH X (updF X.2.2.2.2.2.2.1 (s_n) (16)) (updF X.2.2.2.2.2.2.2.1 (s_n) ((if 16 = 0 then 0 else nnn))) (updF X.2.2.2.2.2.2.2.2 (s_n) ((fun _ => 0)))) T tq la tt z) := wX_D hI
              refine lv_aload_n hx hb dX3_sheet_70 rfl (lv_at hl 0 rfl) ?_
              refine va_get (D := D) (ci := 3) (v := .ref (ad 1)) (C := RX3) (T := TX3) (N := 9) hx hb hts hinX3 hown hK hP 0 rfl rfl 5 (by decide) (hts (.fieldLink RX3 35 "OneShort" "sheets" "[LOneShort$Sheet;") (List.mem_of_getElem? (i := 1) rfl)) (fun _ h9 => h9) rfl dX3_sheet_71 ?_
              refine lv_iload_n hx hb dX3_sheet_74 rfl (lv_at hl 1 rfl) ?_
              refine nv_aald (v := .ref (ad (40 + 2 * (s_n)))) hx hb hK hP 1 1 rfl rfl (by omega) (by decide) rfl dX3_sheet_75 ?_
              refine va_get (D := D) (ci := 1) (v := .int (nI ((updF X.2.2.2.2.2.2.2.1 (s_n) ((if 16 = 0 then 0 else nnn))) (s_n)))) (C := RX1) (T := TX1) (N := 3) hx hb hts hinX1 hown hK (wX_sh (k := s_n) (by omega) hP) 0 rfl rfl 2 (by decide) (hts (.fieldLink RX3 221 "OneShort$Sheet" "length" "I") (List.mem_of_getElem? (i := 2) rfl)) (fun _ h9 => h9) rfl dX3_sheet_76 ?_
              have hp : p_sheet X (nI s_n) (nI 16) (nI nnn) = (nI ((updF X.2.2.2.2.2.2.2.1 (s_n) ((if 16 = 0 then 0 else nnn))) (s_n)), toH X (updF X.2.2.2.2.2.2.1 (s_n) (16)) (updF X.2.2.2.2.2.2.2.1 (s_n) ((if 16 = 0 then 0 else nnn))) (updF X.2.2.2.2.2.2.2.2 (s_n) ((fun _ => 0)))) := by first | (simp [p_sheet, bk, fl_eq, updF_s, c1, c4, c11, Nat.lt_irrefl, c18, c19, t_s_n, d10, t_bt, i20, t_nnn]; done)
              refine nv_cv (show nI ((updF X.2.2.2.2.2.2.2.1 (s_n) ((if 16 = 0 then 0 else nnn))) (s_n)) = (p_sheet X (nI s_n) (nI 16) (nI nnn)).1 from by rw [hp]) ?_
              exact mu_iret hx hb hr hlocks hS ((by rw [hp]; exact ⟨_, _, _, _, _, hP⟩)) dX3_sheet_79
            · have i21 : inN nn 41 = false := in_f3 (by omega) c19
              refine lv_aload_n hx hb dX3_sheet_53 rfl (lv_at hl 0 rfl) ?_
              refine lv_iconst (v := nI (0)) hx hb dX3_sheet_54 (by decide) ?_
              refine mu_V (n := 1) (As := [.int (nI 0)]) (rest := []) ⟨hx, hb, hml, hown, hts⟩ (c_X3_finding l D ci G ka ad X T tq la tt z hI hG (0) hWX (by omega)) gX3_sheet_X3_finding rfl ⟨rfl, rfl⟩ (by decide +kernel) rfl ⟨Nat.le_of_ble_eq_true rfl, Nat.le_of_ble_eq_true rfl⟩ hE (en_S hGA hs0 hS) hK hP (ci := 3) (q0 := 0) rfl rfl hl.1 rfl (Nat.le_of_ble_eq_true rfl) dX3_sheet_55 ⟨Nat.zero_le _, Nat.zero_le _⟩ hS (fun _ h => h) (fun H1 locs hz hfr hB hS => ?_)
              obtain ⟨T, tq, la, tt, z, hP⟩ := hB
              generalize H1 = H at hP hS ⊢
              have hD : va_D (aX ad) (wX ci ad (toF X (inc X.2.2.2.1 0)) T tq la tt z) := wX_D hI
              have hp : p_sheet X (nI s_n) (nI 16) nn = (fnd 0, toF X (inc X.2.2.2.1 0)) := by first | (simp [p_sheet, bk, fl_eq, updF_s, c1, c4, c11, Nat.lt_irrefl, c18, c19, t_s_n, d10, t_bt, i21]; done)
              refine nv_cv (show fnd 0 = (p_sheet X (nI s_n) (nI 16) nn).1 from by rw [hp]) ?_
              exact mu_iret hx hb hr hlocks hS ((by rw [hp]; exact ⟨_, _, _, _, _, hP⟩)) dX3_sheet_58
          · have i22 : ∀ u9, inN nn u9 = false := fun u9 => in_f0 (Int32.not_le.mp c18)
            refine lv_aload_n hx hb dX3_sheet_40 rfl (lv_at hl 0 rfl) ?_
            refine lv_bipush (v := nI (6)) hx hb dX3_sheet_41 (by decide) ?_
            refine mu_V (n := 1) (As := [.int (nI 6)]) (rest := []) ⟨hx, hb, hml, hown, hts⟩ (c_X3_finding l D ci G ka ad X T tq la tt z hI hG (6) hWX (by omega)) gX3_sheet_X3_finding rfl ⟨rfl, rfl⟩ (by decide +kernel) rfl ⟨Nat.le_of_ble_eq_true rfl, Nat.le_of_ble_eq_true rfl⟩ hE (en_S hGA hs0 hS) hK hP (ci := 3) (q0 := 0) rfl rfl hl.1 rfl (Nat.le_of_ble_eq_true rfl) dX3_sheet_43 ⟨Nat.zero_le _, Nat.zero_le _⟩ hS (fun _ h => h) (fun H1 locs hz hfr hB hS => ?_)
            obtain ⟨T, tq, la, tt, z, hP⟩ := hB
            generalize H1 = H at hP hS ⊢
            have hD : va_D (aX ad) (wX ci ad (toF X (inc X.2.2.2.1 6)) T tq la tt z) := wX_D hI
            have hp : p_sheet X (nI s_n) (nI 16) nn = (fnd 6, toF X (inc X.2.2.2.1 6)) := by first | (simp [p_sheet, bk, fl_eq, updF_s, c1, c4, c11, Nat.lt_irrefl, c18, t_s_n, d10, t_bt, i22]; done)
            refine nv_cv (show fnd 6 = (p_sheet X (nI s_n) (nI 16) nn).1 from by rw [hp]) ?_
            exact mu_iret hx hb hr hlocks hS ((by rw [hp]; exact ⟨_, _, _, _, _, hP⟩)) dX3_sheet_46
        · refine lv_iload_n hx hb dX3_sheet_24 rfl (lv_at hl 2 rfl) ?_
          refine lv_bipush (v := nI (32)) hx hb dX3_sheet_25 (by decide) ?_
          refine lv_icmp_eq (tgt := 36) hx hb dX3_sheet_27 (by decide) (fun c23 => ?_) (fun c23 => ?_)
          · subst c23
            have t_bt : tn (nI 32) = 32 := tn_nI (by decide)
            refine lv_iload_n hx hb dX3_sheet_36 rfl (lv_at hl 3 rfl) ?_
            refine lv_if_ge (tgt := 47) hx hb dX3_sheet_37 (by decide) (fun c24 => ?_) (fun c24 => ?_)
            · refine lv_iload_n hx hb dX3_sheet_47 rfl (lv_at hl 3 rfl) ?_
              refine lv_bipush (v := nI (40)) hx hb dX3_sheet_48 (by decide) ?_
              refine lv_icmp_le (tgt := 59) hx hb dX3_sheet_50 (by decide) (fun c25 => ?_) (fun c25 => ?_)
              · have i26 : inN nn 41 = true := in_t3 (by omega) (Int32.not_lt.mpr c24) c25
                obtain ⟨nnn, h_nnn, rfl⟩ := in_ex i26 (by omega)
                have t_nnn : tn (nI nnn) = nnn := tn_nI (by omega)
                refine lv_aload_n hx hb dX3_sheet_59 rfl (lv_at hl 0 rfl) ?_
                refine va_get (D := D) (ci := 3) (v := .ref (ad 1)) (C := RX3) (T := TX3) (N := 9) hx hb hts hinX3 hown hK hP 0 rfl rfl 5 (by decide) (hts (.fieldLink RX3 35 "OneShort" "sheets" "[LOneShort$Sheet;") (List.mem_of_getElem? (i := 1) rfl)) (fun _ h9 => h9) rfl dX3_sheet_60 ?_
                refine lv_iload_n hx hb dX3_sheet_63 rfl (lv_at hl 1 rfl) ?_
                refine nv_aald (v := .ref (ad (40 + 2 * (s_n)))) hx hb hK hP 1 1 rfl rfl (by omega) (by decide) rfl dX3_sheet_64 ?_
                refine lv_iload_n hx hb dX3_sheet_65 rfl (lv_at hl 2 rfl) ?_
                refine lv_iload_n hx hb dX3_sheet_66 rfl (lv_at hl 3 rfl) ?_
                refine mu_V (n := 2) (As := [.int (nI 32), .int (nI nnn)]) (rest := []) ⟨hx, hb, hml, hown, hts⟩ (c_X1_begin l D ci G ka (sh ad (40 + 2 * (s_n))) (X.2.2.2.2.2.2.1 (s_n)) (X.2.2.2.2.2.2.2.1 (s_n)) (X.2.2.2.2.2.2.2.2 (s_n)) (injA_sh2 hI (by omega)) (G_sh2 hG (by omega)) (32) (nnn) (by omega) (by omega)) gX3_sheet_X1_begin rfl ⟨rfl, rfl⟩ (by decide +kernel) rfl ⟨Nat.le_of_ble_eq_true rfl, Nat.le_of_ble_eq_true rfl⟩ hE (en_S hGA hs0 hS) hK (wX_sh (k := s_n) (by omega) hP) (ci := 1) (q0 := 0) rfl rfl hl.1 rfl (Nat.le_of_ble_eq_true rfl) dX3_sheet_67 ⟨Nat.zero_le _, Nat.zero_le _⟩ hS (fun q h => aR_X (by omega) q (aT_sh q h)) (fun H1 locs hz hfr hB hS => ?_)
                have hP := wX_jS hI (k := s_n) (by omega) hP hfr hB
                generalize H1 = H at hP hS ⊢
                have hD : va_D (aX ad) (wX ci ad (toH X (updF X.2.2.2.2.2.2.1 (s_n) (32)) (updF X.2.2.2.2.2.2.2.1 (s_n) ((if 32 = 0 then 0 else nnn))) (updF X.2.2.2.2.2.2.2.2 (s_n) ((fun _ => 0)))) T tq la tt z) := wX_D hI
                refine lv_aload_n hx hb dX3_sheet_70 rfl (lv_at hl 0 rfl) ?_
                refine va_get (D := D) (ci := 3) (v := .ref (ad 1)) (C := RX3) (T := TX3) (N := 9) hx hb hts hinX3 hown hK hP 0 rfl rfl 5 (by decide) (hts (.fieldLink RX3 35 "OneShort" "sheets" "[LOneShort$Sheet;") (List.mem_of_getElem? (i := 1) rfl)) (fun _ h9 => h9) rfl dX3_sheet_71 ?_
                refine lv_iload_n hx hb dX3_sheet_74 rfl (lv_at hl 1 rfl) ?_
                refine nv_aald (v := .ref (ad (40 + 2 * (s_n)))) hx hb hK hP 1 1 rfl rfl (by omega) (by decide) rfl dX3_sheet_75 ?_
                refine va_get (D := D) (ci := 1) (v := .int (nI ((updF X.2.2.2.2.2.2.2.1 (s_n) ((if 32 = 0 then 0 else nnn))) (s_n)))) (C := RX1) (T := TX1) (N := 3) hx hb hts hinX1 hown hK (wX_sh (k := s_n) (by omega) hP) 0 rfl rfl 2 (by decide) (hts (.fieldLink RX3 221 "OneShort$Sheet" "length" "I") (List.mem_of_getElem? (i := 2) rfl)) (fun _ h9 => h9) rfl dX3_sheet_76 ?_
                have hp : p_sheet X (nI s_n) (nI 32) (nI nnn) = (nI ((updF X.2.2.2.2.2.2.2.1 (s_n) ((if 32 = 0 then 0 else nnn))) (s_n)), toH X (updF X.2.2.2.2.2.2.1 (s_n) (32)) (updF X.2.2.2.2.2.2.2.1 (s_n) ((if 32 = 0 then 0 else nnn))) (updF X.2.2.2.2.2.2.2.2 (s_n) ((fun _ => 0)))) := by first | (simp [p_sheet, bk, fl_eq, updF_s, c1, c4, c11, c17, Nat.lt_irrefl, c24, c25, t_s_n, d10, t_bt, i26, t_nnn]; done)
                refine nv_cv (show nI ((updF X.2.2.2.2.2.2.2.1 (s_n) ((if 32 = 0 then 0 else nnn))) (s_n)) = (p_sheet X (nI s_n) (nI 32) (nI nnn)).1 from by rw [hp]) ?_
                exact mu_iret hx hb hr hlocks hS ((by rw [hp]; exact ⟨_, _, _, _, _, hP⟩)) dX3_sheet_79
              · have i27 : inN nn 41 = false := in_f3 (by omega) c25
                refine lv_aload_n hx hb dX3_sheet_53 rfl (lv_at hl 0 rfl) ?_
                refine lv_iconst (v := nI (0)) hx hb dX3_sheet_54 (by decide) ?_
                refine mu_V (n := 1) (As := [.int (nI 0)]) (rest := []) ⟨hx, hb, hml, hown, hts⟩ (c_X3_finding l D ci G ka ad X T tq la tt z hI hG (0) hWX (by omega)) gX3_sheet_X3_finding rfl ⟨rfl, rfl⟩ (by decide +kernel) rfl ⟨Nat.le_of_ble_eq_true rfl, Nat.le_of_ble_eq_true rfl⟩ hE (en_S hGA hs0 hS) hK hP (ci := 3) (q0 := 0) rfl rfl hl.1 rfl (Nat.le_of_ble_eq_true rfl) dX3_sheet_55 ⟨Nat.zero_le _, Nat.zero_le _⟩ hS (fun _ h => h) (fun H1 locs hz hfr hB hS => ?_)
                obtain ⟨T, tq, la, tt, z, hP⟩ := hB
                generalize H1 = H at hP hS ⊢
                have hD : va_D (aX ad) (wX ci ad (toF X (inc X.2.2.2.1 0)) T tq la tt z) := wX_D hI
                have hp : p_sheet X (nI s_n) (nI 32) nn = (fnd 0, toF X (inc X.2.2.2.1 0)) := by first | (simp [p_sheet, bk, fl_eq, updF_s, c1, c4, c11, c17, Nat.lt_irrefl, c24, c25, t_s_n, d10, t_bt, i27]; done)
                refine nv_cv (show fnd 0 = (p_sheet X (nI s_n) (nI 32) nn).1 from by rw [hp]) ?_
                exact mu_iret hx hb hr hlocks hS ((by rw [hp]; exact ⟨_, _, _, _, _, hP⟩)) dX3_sheet_58
            · have i28 : ∀ u9, inN nn u9 = false := fun u9 => in_f0 (Int32.not_le.mp c24)
              refine lv_aload_n hx hb dX3_sheet_40 rfl (lv_at hl 0 rfl) ?_
              refine lv_bipush (v := nI (6)) hx hb dX3_sheet_41 (by decide) ?_
              refine mu_V (n := 1) (As := [.int (nI 6)]) (rest := []) ⟨hx, hb, hml, hown, hts⟩ (c_X3_finding l D ci G ka ad X T tq la tt z hI hG (6) hWX (by omega)) gX3_sheet_X3_finding rfl ⟨rfl, rfl⟩ (by decide +kernel) rfl ⟨Nat.le_of_ble_eq_true rfl, Nat.le_of_ble_eq_true rfl⟩ hE (en_S hGA hs0 hS) hK hP (ci := 3) (q0 := 0) rfl rfl hl.1 rfl (Nat.le_of_ble_eq_true rfl) dX3_sheet_43 ⟨Nat.zero_le _, Nat.zero_le _⟩ hS (fun _ h => h) (fun H1 locs hz hfr hB hS => ?_)
              obtain ⟨T, tq, la, tt, z, hP⟩ := hB
              generalize H1 = H at hP hS ⊢
              have hD : va_D (aX ad) (wX ci ad (toF X (inc X.2.2.2.1 6)) T tq la tt z) := wX_D hI
              have hp : p_sheet X (nI s_n) (nI 32) nn = (fnd 6, toF X (inc X.2.2.2.1 6)) := by first | (simp [p_sheet, bk, fl_eq, updF_s, c1, c4, c11, c17, Nat.lt_irrefl, c24, t_s_n, d10, t_bt, i28]; done)
              refine nv_cv (show fnd 6 = (p_sheet X (nI s_n) (nI 32) nn).1 from by rw [hp]) ?_
              exact mu_iret hx hb hr hlocks hS ((by rw [hp]; exact ⟨_, _, _, _, _, hP⟩)) dX3_sheet_46
          · refine lv_aload_n hx hb dX3_sheet_30 rfl (lv_at hl 0 rfl) ?_
            refine lv_iconst (v := nI (0)) hx hb dX3_sheet_31 (by decide) ?_
            refine mu_V (n := 1) (As := [.int (nI 0)]) (rest := []) ⟨hx, hb, hml, hown, hts⟩ (c_X3_finding l D ci G ka ad X T tq la tt z hI hG (0) hWX (by omega)) gX3_sheet_X3_finding rfl ⟨rfl, rfl⟩ (by decide +kernel) rfl ⟨Nat.le_of_ble_eq_true rfl, Nat.le_of_ble_eq_true rfl⟩ hE (en_S hGA hs0 hS) hK hP (ci := 3) (q0 := 0) rfl rfl hl.1 rfl (Nat.le_of_ble_eq_true rfl) dX3_sheet_32 ⟨Nat.zero_le _, Nat.zero_le _⟩ hS (fun _ h => h) (fun H1 locs hz hfr hB hS => ?_)
            obtain ⟨T, tq, la, tt, z, hP⟩ := hB
            generalize H1 = H at hP hS ⊢
            have hD : va_D (aX ad) (wX ci ad (toF X (inc X.2.2.2.1 0)) T tq la tt z) := wX_D hI
            have hp : p_sheet X (nI s_n) bt nn = (fnd 0, toF X (inc X.2.2.2.1 0)) := by first | (simp [p_sheet, bk, fl_eq, updF_s, c1, c4, c11, c17, c23, t_s_n, d10]; done)
            refine nv_cv (show fnd 0 = (p_sheet X (nI s_n) bt nn).1 from by rw [hp]) ?_
            exact mu_iret hx hb hr hlocks hS ((by rw [hp]; exact ⟨_, _, _, _, _, hP⟩)) dX3_sheet_35
