/-! walks laid by program -/
set_option maxHeartbeats 4000000 in
set_option maxRecDepth 100000 in
/-- X3_copy -/
theorem c_X3_copy (l : Launch) (D : va_G) (ci : Nat → ClassId) (G : Nat → Prop) (ka : Nat) (ad : Nat → Nat) (X : AS) (T : OS) (tq la tt : Nat → Int32) (z : Nat → Nat → Int32) (hI : injA ad 48) (hG : ∀ k, k < 48 → G (ad k)) (s_ fr t_ to_ nn : Int32) (hWX : WFX X) : Met l yX3_copy wsX3_copy ({ frames := 1, cells := 0, slots := 0, locals := 60 } : Room) (va_Pc [.ref (ad 0), .int (s_), .int (fr), .int (t_), .int (to_), .int (nn)] (ro_B D (tyL ci) (wX ci ad X T tq la tt z) (en D (ci 0) G ka))) (mu_Q (aX ad) (some (.int ((p_copy X s_ fr t_ to_ nn).1))) (fun H => ∃ T tq la tt z, va_P D vwCl (wX ci ad ((p_copy X s_ fr t_ to_ nn).2) T tq la tt z) H)) 0 0 (aX ad) := by
  refine mu_Met (cc := cX3_copy) (maxL := 6) (ret := (some .int)) [(0, .ref (ad 0)), (1, .int (s_)), (2, .int (fr)), (3, .int (t_)), (4, .int (to_)), (5, .int (nn))] (wX_D hI) (by decide) rfl (Nat.le_of_ble_eq_true rfl) rfl ?_
  intro p e s m below meth c H locs hx hb hml hr hlocks hts hown hP hK hs0 hD hS ls hl
  have hown : s.vm.findClass RX3 = some m.cls := hown
  have hinX1 : ∀ w ∈ wsX10, w ∈ wsX3_copy := by decide +kernel
  have hinX3 : ∀ w ∈ wsX30, w ∈ wsX3_copy := by decide +kernel
  have hE := hE_en D (ci 0) G ka
  have hWF := hWX.w
  have f_n := hWF.n
  have f_e := hWX.e
  have f_tl := hWX.t
  have hGA := aX_G hG
  have hWK := hWX.k
  refine lv_aload_n hx hb dX3_copy_0 rfl (lv_at hl 0 rfl) ?_
  refine lv_iload_n hx hb dX3_copy_1 rfl (lv_at hl 1 rfl) ?_
  refine ro_V (n := 1) (As := [.int (s_)]) (rest := []) ⟨hx, hb, hml, hown, hts⟩ (c_X3_isSheet l D ci G ka ad X T tq la tt z (s_) hWX) gX3_copy_X3_isSheet rfl ⟨rfl, rfl⟩ (by decide +kernel) rfl ⟨Nat.le_of_ble_eq_true rfl, Nat.le_of_ble_eq_true rfl⟩ hE (en_S hGA hs0 hS) hK hP (ci := 3) (q0 := 0) rfl rfl hl.1 rfl (Nat.le_of_ble_eq_true rfl) dX3_copy_2 ⟨Nat.zero_le _, Nat.zero_le _⟩ ?_
  refine nv_ifeq_b (tgt := 16) hx hb dX3_copy_5 (by decide) (fun c1 => ?_) (fun c1 => ?_)
  · refine lv_aload_n hx hb dX3_copy_16 rfl (lv_at hl 0 rfl) ?_
    refine lv_iconst (v := nI (0)) hx hb dX3_copy_17 (by decide) ?_
    refine mu_V (n := 1) (As := [.int (nI 0)]) (rest := []) ⟨hx, hb, hml, hown, hts⟩ (c_X3_finding l D ci G ka ad X T tq la tt z hI hG (0) hWX (by omega)) gX3_copy_X3_finding rfl ⟨rfl, rfl⟩ (by decide +kernel) rfl ⟨Nat.le_of_ble_eq_true rfl, Nat.le_of_ble_eq_true rfl⟩ hE (en_S hGA hs0 hS) hK hP (ci := 3) (q0 := 0) rfl rfl hl.1 rfl (Nat.le_of_ble_eq_true rfl) dX3_copy_18 ⟨Nat.zero_le _, Nat.zero_le _⟩ hS (fun _ h => h) (fun H1 locs hz hfr hB hS => ?_)
    obtain ⟨T, tq, la, tt, z, hP⟩ := hB
    generalize H1 = H at hP hS ⊢
    have hD : va_D (aX ad) (wX ci ad (toF X (inc X.2.2.2.1 0)) T tq la tt z) := wX_D hI
    have hp : p_copy X s_ fr t_ to_ nn = (fnd 0, toF X (inc X.2.2.2.1 0)) := by first | (simp [p_copy, bk, fl_eq, c1]; done)
    refine nv_cv (show fnd 0 = (p_copy X s_ fr t_ to_ nn).1 from by rw [hp]) ?_
    exact mu_iret hx hb hr hlocks hS ((by rw [hp]; exact ⟨_, _, _, _, _, hP⟩)) dX3_copy_21
  · obtain ⟨s_n, h_s_n, rfl⟩ := in_ex c1 (by omega)
    have t_s_n : tn (nI s_n) = s_n := tn_nI (by omega)
    have f2 := hWX.sl s_n
    have f3 := sb_lt hWX s_n
    refine lv_aload_n hx hb dX3_copy_8 rfl (lv_at hl 0 rfl) ?_
    refine lv_iload_n hx hb dX3_copy_9 rfl (lv_at hl 3 rfl) ?_
    refine ro_V (n := 1) (As := [.int (t_)]) (rest := []) ⟨hx, hb, hml, hown, hts⟩ (c_X3_isSheet l D ci G ka ad X T tq la tt z (t_) hWX) gX3_copy_X3_isSheet rfl ⟨rfl, rfl⟩ (by decide +kernel) rfl ⟨Nat.le_of_ble_eq_true rfl, Nat.le_of_ble_eq_true rfl⟩ hE (en_S hGA hs0 hS) hK hP (ci := 3) (q0 := 0) rfl rfl hl.1 rfl (Nat.le_of_ble_eq_true rfl) dX3_copy_10 ⟨Nat.zero_le _, Nat.zero_le _⟩ ?_
    refine nv_ifne_b (tgt := 22) hx hb dX3_copy_13 (by decide) (fun c4 => ?_) (fun c4 => ?_)
    · obtain ⟨t_n, h_t_n, rfl⟩ := in_ex c4 (by omega)
      have t_t_n : tn (nI t_n) = t_n := tn_nI (by omega)
      have f5 := hWX.sl t_n
      have f6 := sb_lt hWX t_n
      refine lv_aload_n hx hb dX3_copy_22 rfl (lv_at hl 0 rfl) ?_
      refine va_get (D := D) (ci := 3) (v := .ref (ad 1)) (C := RX3) (T := TX3) (N := 9) hx hb hts hinX3 hown hK hP 0 rfl rfl 5 (by decide) (hts (.fieldLink RX3 35 "OneShort" "sheets" "[LOneShort$Sheet;") (List.mem_of_getElem? (i := 1) rfl)) (fun _ h9 => h9) rfl dX3_copy_23 ?_
      refine lv_iload_n hx hb dX3_copy_26 rfl (lv_at hl 1 rfl) ?_
      refine nv_aald (v := .ref (ad (40 + 2 * (s_n)))) hx hb hK hP 1 1 rfl rfl (by omega) (by decide) rfl dX3_copy_27 ?_
      refine ro_V (n := 0) (As := []) (rest := []) ⟨hx, hb, hml, hown, hts⟩ (c_X1_isMissing l D ci G ka (sh ad (40 + 2 * (s_n))) (X.2.2.2.2.2.2.1 (s_n)) (X.2.2.2.2.2.2.2.1 (s_n)) (X.2.2.2.2.2.2.2.2 (s_n))  (by omega)) gX3_copy_X1_isMissing rfl ⟨rfl, rfl⟩ (by decide +kernel) rfl ⟨Nat.le_of_ble_eq_true rfl, Nat.le_of_ble_eq_true rfl⟩ hE (en_S hGA hs0 hS) hK (wX_sh (k := s_n) (by omega) hP) (ci := 1) (q0 := 0) rfl rfl hl.1 rfl (Nat.le_of_ble_eq_true rfl) dX3_copy_28 ⟨Nat.zero_le _, Nat.zero_le _⟩ ?_
      refine nv_ifne_b (tgt := 46) hx hb dX3_copy_31 (by decide) (fun c7 => ?_) (fun c7 => ?_)
      · have d8 := of_decide_eq_true c7
        refine lv_aload_n hx hb dX3_copy_46 rfl (lv_at hl 0 rfl) ?_
        refine lv_iconst (v := nI (5)) hx hb dX3_copy_47 (by decide) ?_
        refine mu_V (n := 1) (As := [.int (nI 5)]) (rest := []) ⟨hx, hb, hml, hown, hts⟩ (c_X3_finding l D ci G ka ad X T tq la tt z hI hG (5) hWX (by omega)) gX3_copy_X3_finding rfl ⟨rfl, rfl⟩ (by decide +kernel) rfl ⟨Nat.le_of_ble_eq_true rfl, Nat.le_of_ble_eq_true rfl⟩ hE (en_S hGA hs0 hS) hK hP (ci := 3) (q0 := 0) rfl rfl hl.1 rfl (Nat.le_of_ble_eq_true rfl) dX3_copy_48 ⟨Nat.zero_le _, Nat.zero_le _⟩ hS (fun _ h => h) (fun H1 locs hz hfr hB hS => ?_)
        obtain ⟨T, tq, la, tt, z, hP⟩ := hB
        generalize H1 = H at hP hS ⊢
        have hD : va_D (aX ad) (wX ci ad (toF X (inc X.2.2.2.1 5)) T tq la tt z) := wX_D hI
        have hp : p_copy X (nI s_n) fr (nI t_n) to_ nn = (fnd 5, toF X (inc X.2.2.2.1 5)) := by first | (simp [p_copy, bk, fl_eq, c1, c4, c7, t_s_n, t_t_n, d8]; done)
        refine nv_cv (show fnd 5 = (p_copy X (nI s_n) fr (nI t_n) to_ nn).1 from by rw [hp]) ?_
        exact mu_iret hx hb hr hlocks hS ((by rw [hp]; exact ⟨_, _, _, _, _, hP⟩)) dX3_copy_51
      · have d9 := of_decide_eq_false c7
        refine lv_aload_n hx hb dX3_copy_34 rfl (lv_at hl 0 rfl) ?_
        refine va_get (D := D) (ci := 3) (v := .ref (ad 1)) (C := RX3) (T := TX3) (N := 9) hx hb hts hinX3 hown hK hP 0 rfl rfl 5 (by decide) (hts (.fieldLink RX3 35 "OneShort" "sheets" "[LOneShort$Sheet;") (List.mem_of_getElem? (i := 1) rfl)) (fun _ h9 => h9) rfl dX3_copy_35 ?_
        refine lv_iload_n hx hb dX3_copy_38 rfl (lv_at hl 3 rfl) ?_
        refine nv_aald (v := .ref (ad (40 + 2 * (t_n)))) hx hb hK hP 1 1 rfl rfl (by omega) (by decide) rfl dX3_copy_39 ?_
        refine ro_V (n := 0) (As := []) (rest := []) ⟨hx, hb, hml, hown, hts⟩ (c_X1_isMissing l D ci G ka (sh ad (40 + 2 * (t_n))) (X.2.2.2.2.2.2.1 (t_n)) (X.2.2.2.2.2.2.2.1 (t_n)) (X.2.2.2.2.2.2.2.2 (t_n))  (by omega)) gX3_copy_X1_isMissing rfl ⟨rfl, rfl⟩ (by decide +kernel) rfl ⟨Nat.le_of_ble_eq_true rfl, Nat.le_of_ble_eq_true rfl⟩ hE (en_S hGA hs0 hS) hK (wX_sh (k := t_n) (by omega) hP) (ci := 1) (q0 := 0) rfl rfl hl.1 rfl (Nat.le_of_ble_eq_true rfl) dX3_copy_40 ⟨Nat.zero_le _, Nat.zero_le _⟩ ?_
        refine nv_ifeq_b (tgt := 52) hx hb dX3_copy_43 (by decide) (fun c10 => ?_) (fun c10 => ?_)
        · have d11 := of_decide_eq_false c10
          refine lv_aload_n hx hb dX3_copy_52 rfl (lv_at hl 0 rfl) ?_
          refine va_get (D := D) (ci := 3) (v := .ref (ad 1)) (C := RX3) (T := TX3) (N := 9) hx hb hts hinX3 hown hK hP 0 rfl rfl 5 (by decide) (hts (.fieldLink RX3 35 "OneShort" "sheets" "[LOneShort$Sheet;") (List.mem_of_getElem? (i := 1) rfl)) (fun _ h9 => h9) rfl dX3_copy_53 ?_
          refine lv_iload_n hx hb dX3_copy_56 rfl (lv_at hl 1 rfl) ?_
          refine nv_aald (v := .ref (ad (40 + 2 * (s_n)))) hx hb hK hP 1 1 rfl rfl (by omega) (by decide) rfl dX3_copy_57 ?_
          refine va_get (D := D) (ci := 1) (v := .int (nI (X.2.2.2.2.2.2.1 (s_n)))) (C := RX1) (T := TX1) (N := 3) hx hb hts hinX1 hown hK (wX_sh (k := s_n) (by omega) hP) 0 rfl rfl 1 (by decide) (hts (.fieldLink RX3 231 "OneShort$Sheet" "bits" "I") (List.mem_of_getElem? (i := 2) rfl)) (fun _ h9 => h9) rfl dX3_copy_58 ?_
          refine lv_aload_n hx hb dX3_copy_61 rfl (lv_at hl 0 rfl) ?_
          refine va_get (D := D) (ci := 3) (v := .ref (ad 1)) (C := RX3) (T := TX3) (N := 9) hx hb hts hinX3 hown hK hP 0 rfl rfl 5 (by decide) (hts (.fieldLink RX3 35 "OneShort" "sheets" "[LOneShort$Sheet;") (List.mem_of_getElem? (i := 1) rfl)) (fun _ h9 => h9) rfl dX3_copy_62 ?_
          refine lv_iload_n hx hb dX3_copy_65 rfl (lv_at hl 3 rfl) ?_
          refine nv_aald (v := .ref (ad (40 + 2 * (t_n)))) hx hb hK hP 1 1 rfl rfl (by omega) (by decide) rfl dX3_copy_66 ?_
          refine va_get (D := D) (ci := 1) (v := .int (nI (X.2.2.2.2.2.2.1 (t_n)))) (C := RX1) (T := TX1) (N := 3) hx hb hts hinX1 hown hK (wX_sh (k := t_n) (by omega) hP) 0 rfl rfl 1 (by decide) (hts (.fieldLink RX3 231 "OneShort$Sheet" "bits" "I") (List.mem_of_getElem? (i := 2) rfl)) (fun _ h9 => h9) rfl dX3_copy_67 ?_
          refine nv_icmp_eq (tgt := 79) hx hb (by omega) (by omega) dX3_copy_70 (by decide) (fun c12 => ?_) (fun c12 => ?_)
          · refine lv_aload_n hx hb dX3_copy_79 rfl (lv_at hl 0 rfl) ?_
            refine va_get (D := D) (ci := 3) (v := .ref (ad 1)) (C := RX3) (T := TX3) (N := 9) hx hb hts hinX3 hown hK hP 0 rfl rfl 5 (by decide) (hts (.fieldLink RX3 35 "OneShort" "sheets" "[LOneShort$Sheet;") (List.mem_of_getElem? (i := 1) rfl)) (fun _ h9 => h9) rfl dX3_copy_80 ?_
            refine lv_iload_n hx hb dX3_copy_83 rfl (lv_at hl 1 rfl) ?_
            refine nv_aald (v := .ref (ad (40 + 2 * (s_n)))) hx hb hK hP 1 1 rfl rfl (by omega) (by decide) rfl dX3_copy_84 ?_
            refine lv_iload_n hx hb dX3_copy_85 rfl (lv_at hl 2 rfl) ?_
            refine lv_iload hx hb dX3_copy_86 (lv_at hl 5 rfl) ?_
            refine ro_V (n := 2) (As := [.int (fr), .int (nn)]) (rest := []) ⟨hx, hb, hml, hown, hts⟩ (c_X1_hasRange l D ci G ka (sh ad (40 + 2 * (s_n))) (X.2.2.2.2.2.2.1 (s_n)) (X.2.2.2.2.2.2.2.1 (s_n)) (X.2.2.2.2.2.2.2.2 (s_n)) (fr) (nn) (by omega)) gX3_copy_X1_hasRange rfl ⟨rfl, rfl⟩ (by decide +kernel) rfl ⟨Nat.le_of_ble_eq_true rfl, Nat.le_of_ble_eq_true rfl⟩ hE (en_S hGA hs0 hS) hK (wX_sh (k := s_n) (by omega) hP) (ci := 1) (q0 := 0) rfl rfl hl.1 rfl (Nat.le_of_ble_eq_true rfl) dX3_copy_88 ⟨Nat.zero_le _, Nat.zero_le _⟩ ?_
            refine nv_ifeq_b (tgt := 110) hx hb dX3_copy_91 (by decide) (fun c13 => ?_) (fun c13 => ?_)
            · refine lv_aload_n hx hb dX3_copy_110 rfl (lv_at hl 0 rfl) ?_
              refine lv_iconst (v := nI (0)) hx hb dX3_copy_111 (by decide) ?_
              refine mu_V (n := 1) (As := [.int (nI 0)]) (rest := []) ⟨hx, hb, hml, hown, hts⟩ (c_X3_finding l D ci G ka ad X T tq la tt z hI hG (0) hWX (by omega)) gX3_copy_X3_finding rfl ⟨rfl, rfl⟩ (by decide +kernel) rfl ⟨Nat.le_of_ble_eq_true rfl, Nat.le_of_ble_eq_true rfl⟩ hE (en_S hGA hs0 hS) hK hP (ci := 3) (q0 := 0) rfl rfl hl.1 rfl (Nat.le_of_ble_eq_true rfl) dX3_copy_112 ⟨Nat.zero_le _, Nat.zero_le _⟩ hS (fun _ h => h) (fun H1 locs hz hfr hB hS => ?_)
              obtain ⟨T, tq, la, tt, z, hP⟩ := hB
              generalize H1 = H at hP hS ⊢
              have hD : va_D (aX ad) (wX ci ad (toF X (inc X.2.2.2.1 0)) T tq la tt z) := wX_D hI
              have hp : p_copy X (nI s_n) fr (nI t_n) to_ nn = (fnd 0, toF X (inc X.2.2.2.1 0)) := by first | (simp [p_copy, bk, fl_eq, c1, c4, c7, c10, c12, c13, t_s_n, t_t_n, d9, d11]; done)
              refine nv_cv (show fnd 0 = (p_copy X (nI s_n) fr (nI t_n) to_ nn).1 from by rw [hp]) ?_
              exact mu_iret hx hb hr hlocks hS ((by rw [hp]; exact ⟨_, _, _, _, _, hP⟩)) dX3_copy_115
            · obtain ⟨frn, nnn, h_fn, rfl, rfl⟩ := hasR_ex c13 (by omega)
              have t_frn : tn (nI frn) = frn := tn_nI (by omega)
              have t_nnn : tn (nI nnn) = nnn := tn_nI (by omega)
              refine lv_aload_n hx hb dX3_copy_94 rfl (lv_at hl 0 rfl) ?_
              refine va_get (D := D) (ci := 3) (v := .ref (ad 1)) (C := RX3) (T := TX3) (N := 9) hx hb hts hinX3 hown hK hP 0 rfl rfl 5 (by decide) (hts (.fieldLink RX3 35 "OneShort" "sheets" "[LOneShort$Sheet;") (List.mem_of_getElem? (i := 1) rfl)) (fun _ h9 => h9) rfl dX3_copy_95 ?_
              refine lv_iload_n hx hb dX3_copy_98 rfl (lv_at hl 3 rfl) ?_
              refine nv_aald (v := .ref (ad (40 + 2 * (t_n)))) hx hb hK hP 1 1 rfl rfl (by omega) (by decide) rfl dX3_copy_99 ?_
              refine lv_iload hx hb dX3_copy_100 (lv_at hl 4 rfl) ?_
              refine lv_iload hx hb dX3_copy_102 (lv_at hl 5 rfl) ?_
              refine ro_V (n := 2) (As := [.int (to_), .int (nI nnn)]) (rest := []) ⟨hx, hb, hml, hown, hts⟩ (c_X1_hasRange l D ci G ka (sh ad (40 + 2 * (t_n))) (X.2.2.2.2.2.2.1 (t_n)) (X.2.2.2.2.2.2.2.1 (t_n)) (X.2.2.2.2.2.2.2.2 (t_n)) (to_) (nI (nnn)) (by omega)) gX3_copy_X1_hasRange rfl ⟨rfl, rfl⟩ (by decide +kernel) rfl ⟨Nat.le_of_ble_eq_true rfl, Nat.le_of_ble_eq_true rfl⟩ hE (en_S hGA hs0 hS) hK (wX_sh (k := t_n) (by omega) hP) (ci := 1) (q0 := 0) rfl rfl hl.1 rfl (Nat.le_of_ble_eq_true rfl) dX3_copy_104 ⟨Nat.zero_le _, Nat.zero_le _⟩ ?_
              refine nv_ifne_b (tgt := 116) hx hb dX3_copy_107 (by decide) (fun c14 => ?_) (fun c14 => ?_)
              · obtain ⟨to_n, h_tn, rfl⟩ := hasR_ex2 c14 (by omega) (by omega)
                have t_to_n : tn (nI to_n) = to_n := tn_nI (by omega)
                rcases (show s_n = 0 ∨ s_n = 1 ∨ s_n = 2 ∨ s_n = 3 by omega) with rfl | rfl | rfl | rfl <;> rcases (show t_n = 0 ∨ t_n = 1 ∨ t_n = 2 ∨ t_n = 3 by omega) with rfl | rfl | rfl | rfl
                · refine lv_aload_n hx hb dX3_copy_116 rfl (lv_at hl 0 rfl) ?_
                  refine va_get (D := D) (ci := 3) (v := .ref (ad 1)) (C := RX3) (T := TX3) (N := 9) hx hb hts hinX3 hown hK hP 0 rfl rfl 5 (by decide) (hts (.fieldLink RX3 35 "OneShort" "sheets" "[LOneShort$Sheet;") (List.mem_of_getElem? (i := 1) rfl)) (fun _ h9 => h9) rfl dX3_copy_117 ?_
                  refine lv_iload_n hx hb dX3_copy_120 rfl (lv_at hl 1 rfl) ?_
                  refine nv_aald (v := .ref (ad (40 + 2 * (0)))) hx hb hK hP 1 1 rfl rfl (by omega) (by decide) rfl dX3_copy_121 ?_
                  refine va_get (D := D) (ci := 1) (v := .ref (ad (40 + 2 * (0) + 1))) (C := RX1) (T := TX1) (N := 3) hx hb hts hinX1 hown hK hP 40 rfl rfl 0 (by decide) (hts (.fieldLink RX3 237 "OneShort$Sheet" "numbers" "[I") (List.mem_of_getElem? (i := 3) rfl)) (fun _ h9 => h9) rfl dX3_copy_122 ?_
                  refine lv_iload_n hx hb dX3_copy_125 rfl (lv_at hl 2 rfl) ?_
                  refine lv_aload_n hx hb dX3_copy_126 rfl (lv_at hl 0 rfl) ?_
                  refine va_get (D := D) (ci := 3) (v := .ref (ad 1)) (C := RX3) (T := TX3) (N := 9) hx hb hts hinX3 hown hK hP 0 rfl rfl 5 (by decide) (hts (.fieldLink RX3 35 "OneShort" "sheets" "[LOneShort$Sheet;") (List.mem_of_getElem? (i := 1) rfl)) (fun _ h9 => h9) rfl dX3_copy_127 ?_
                  refine lv_iload_n hx hb dX3_copy_130 rfl (lv_at hl 3 rfl) ?_
                  refine nv_aald (v := .ref (ad (40 + 2 * (0)))) hx hb hK hP 1 1 rfl rfl (by omega) (by decide) rfl dX3_copy_131 ?_
                  refine va_get (D := D) (ci := 1) (v := .ref (ad (40 + 2 * (0) + 1))) (C := RX1) (T := TX1) (N := 3) hx hb hts hinX1 hown hK hP 40 rfl rfl 0 (by decide) (hts (.fieldLink RX3 237 "OneShort$Sheet" "numbers" "[I") (List.mem_of_getElem? (i := 3) rfl)) (fun _ h9 => h9) rfl dX3_copy_132 ?_
                  refine lv_iload hx hb dX3_copy_135 (lv_at hl 4 rfl) ?_
                  refine lv_iload hx hb dX3_copy_137 (lv_at hl 5 rfl) ?_
                  refine nv_copy hx hb (hml.trans hl.1.symm) hown (hts (.methodLink RX3 240 arraycopyName) (List.mem_of_getElem? (i := 4) rfl)) (hts (.native arraycopyName) (List.mem_of_getElem? (i := 5) rfl)) (hts (.static arraycopyName) (List.mem_of_getElem? (i := 6) rfl)) (hts (.initialized "java/lang/System") (List.mem_of_getElem? (i := 7) rfl)) hK hP hD hS 41 41 0 rfl rfl rfl (by omega) (by omega) (by decide) (by decide) (Nat.le_of_ble_eq_true rfl) (Nat.le_of_ble_eq_true rfl) dX3_copy_139 (fun H locs hP hD hS => ?_)
                  have hP : va_P D vwCl (wX ci ad (toH X X.2.2.2.2.2.2.1 X.2.2.2.2.2.2.2.1 (updF X.2.2.2.2.2.2.2.2 0 (va_cpy (X.2.2.2.2.2.2.2.2 0) (X.2.2.2.2.2.2.2.2 0) (frn) (to_n) (nnn)))) T tq la tt z) H := hP
                  have hD : va_D (aX ad) (wX ci ad (toH X X.2.2.2.2.2.2.1 X.2.2.2.2.2.2.2.1 (updF X.2.2.2.2.2.2.2.2 0 (va_cpy (X.2.2.2.2.2.2.2.2 0) (X.2.2.2.2.2.2.2.2 0) (frn) (to_n) (nnn)))) T tq la tt z) := wX_D hI
                  refine lv_iload hx hb dX3_copy_142 (lv_at hl 5 rfl) ?_
                  have hp : p_copy X (nI 0) (nI frn) (nI 0) (nI to_n) (nI nnn) = (nI (nnn), toH X X.2.2.2.2.2.2.1 X.2.2.2.2.2.2.2.1 (updF X.2.2.2.2.2.2.2.2 0 (va_cpy (X.2.2.2.2.2.2.2.2 0) (X.2.2.2.2.2.2.2.2 0) (frn) (to_n) (nnn)))) := by first | (simp [p_copy, bk, fl_eq, c1, c4, c7, c10, c12, c13, c14, t_s_n, t_t_n, d9, d11, t_frn, t_nnn, t_to_n]; done)
                  refine nv_cv (show nI (nnn) = (p_copy X (nI 0) (nI frn) (nI 0) (nI to_n) (nI nnn)).1 from by rw [hp]) ?_
                  exact mu_iret hx hb hr hlocks hS ((by rw [hp]; exact ⟨_, _, _, _, _, hP⟩)) dX3_copy_144
                · refine lv_aload_n hx hb dX3_copy_116 rfl (lv_at hl 0 rfl) ?_
                  refine va_get (D := D) (ci := 3) (v := .ref (ad 1)) (C := RX3) (T := TX3) (N := 9) hx hb hts hinX3 hown hK hP 0 rfl rfl 5 (by decide) (hts (.fieldLink RX3 35 "OneShort" "sheets" "[LOneShort$Sheet;") (List.mem_of_getElem? (i := 1) rfl)) (fun _ h9 => h9) rfl dX3_copy_117 ?_
                  refine lv_iload_n hx hb dX3_copy_120 rfl (lv_at hl 1 rfl) ?_
                  refine nv_aald (v := .ref (ad (40 + 2 * (0)))) hx hb hK hP 1 1 rfl rfl (by omega) (by decide) rfl dX3_copy_121 ?_
                  refine va_get (D := D) (ci := 1) (v := .ref (ad (40 + 2 * (0) + 1))) (C := RX1) (T := TX1) (N := 3) hx hb hts hinX1 hown hK hP 40 rfl rfl 0 (by decide) (hts (.fieldLink RX3 237 "OneShort$Sheet" "numbers" "[I") (List.mem_of_getElem? (i := 3) rfl)) (fun _ h9 => h9) rfl dX3_copy_122 ?_
                  refine lv_iload_n hx hb dX3_copy_125 rfl (lv_at hl 2 rfl) ?_
                  refine lv_aload_n hx hb dX3_copy_126 rfl (lv_at hl 0 rfl) ?_
                  refine va_get (D := D) (ci := 3) (v := .ref (ad 1)) (C := RX3) (T := TX3) (N := 9) hx hb hts hinX3 hown hK hP 0 rfl rfl 5 (by decide) (hts (.fieldLink RX3 35 "OneShort" "sheets" "[LOneShort$Sheet;") (List.mem_of_getElem? (i := 1) rfl)) (fun _ h9 => h9) rfl dX3_copy_127 ?_
                  refine lv_iload_n hx hb dX3_copy_130 rfl (lv_at hl 3 rfl) ?_
                  refine nv_aald (v := .ref (ad (40 + 2 * (1)))) hx hb hK hP 1 1 rfl rfl (by omega) (by decide) rfl dX3_copy_131 ?_
                  refine va_get (D := D) (ci := 1) (v := .ref (ad (40 + 2 * (1) + 1))) (C := RX1) (T := TX1) (N := 3) hx hb hts hinX1 hown hK hP 42 rfl rfl 0 (by decide) (hts (.fieldLink RX3 237 "OneShort$Sheet" "numbers" "[I") (List.mem_of_getElem? (i := 3) rfl)) (fun _ h9 => h9) rfl dX3_copy_132 ?_
                  refine lv_iload hx hb dX3_copy_135 (lv_at hl 4 rfl) ?_
                  refine lv_iload hx hb dX3_copy_137 (lv_at hl 5 rfl) ?_
                  refine nv_copy hx hb (hml.trans hl.1.symm) hown (hts (.methodLink RX3 240 arraycopyName) (List.mem_of_getElem? (i := 4) rfl)) (hts (.native arraycopyName) (List.mem_of_getElem? (i := 5) rfl)) (hts (.static arraycopyName) (List.mem_of_getElem? (i := 6) rfl)) (hts (.initialized "java/lang/System") (List.mem_of_getElem? (i := 7) rfl)) hK hP hD hS 41 43 0 rfl rfl rfl (by omega) (by omega) (by decide) (by decide) (Nat.le_of_ble_eq_true rfl) (Nat.le_of_ble_eq_true rfl) dX3_copy_139 (fun H locs hP hD hS => ?_)
                  have hP : va_P D vwCl (wX ci ad (toH X X.2.2.2.2.2.2.1 X.2.2.2.2.2.2.2.1 (updF X.2.2.2.2.2.2.2.2 1 (va_cpy (X.2.2.2.2.2.2.2.2 0) (X.2.2.2.2.2.2.2.2 1) (frn) (to_n) (nnn)))) T tq la tt z) H := hP
                  have hD : va_D (aX ad) (wX ci ad (toH X X.2.2.2.2.2.2.1 X.2.2.2.2.2.2.2.1 (updF X.2.2.2.2.2.2.2.2 1 (va_cpy (X.2.2.2.2.2.2.2.2 0) (X.2.2.2.2.2.2.2.2 1) (frn) (to_n) (nnn)))) T tq la tt z) := wX_D hI
                  refine lv_iload hx hb dX3_copy_142 (lv_at hl 5 rfl) ?_
                  have hp : p_copy X (nI 0) (nI frn) (nI 1) (nI to_n) (nI nnn) = (nI (nnn), toH X X.2.2.2.2.2.2.1 X.2.2.2.2.2.2.2.1 (updF X.2.2.2.2.2.2.2.2 1 (va_cpy (X.2.2.2.2.2.2.2.2 0) (X.2.2.2.2.2.2.2.2 1) (frn) (to_n) (nnn)))) := by first | (simp [p_copy, bk, fl_eq, c1, c4, c7, c10, c12, c13, c14, t_s_n, t_t_n, d9, d11, t_frn, t_nnn, t_to_n]; done)
                  refine nv_cv (show nI (nnn) = (p_copy X (nI 0) (nI frn) (nI 1) (nI to_n) (nI nnn)).1 from by rw [hp]) ?_
                  exact mu_iret hx hb hr hlocks hS ((by rw [hp]; exact ⟨_, _, _, _, _, hP⟩)) dX3_copy_144
                · refine lv_aload_n hx hb dX3_copy_116 rfl (lv_at hl 0 rfl) ?_
                  refine va_get (D := D) (ci := 3) (v := .ref (ad 1)) (C := RX3) (T := TX3) (N := 9) hx hb hts hinX3 hown hK hP 0 rfl rfl 5 (by decide) (hts (.fieldLink RX3 35 "OneShort" "sheets" "[LOneShort$Sheet;") (List.mem_of_getElem? (i := 1) rfl)) (fun _ h9 => h9) rfl dX3_copy_117 ?_
                  refine lv_iload_n hx hb dX3_copy_120 rfl (lv_at hl 1 rfl) ?_
                  refine nv_aald (v := .ref (ad (40 + 2 * (0)))) hx hb hK hP 1 1 rfl rfl (by omega) (by decide) rfl dX3_copy_121 ?_
                  refine va_get (D := D) (ci := 1) (v := .ref (ad (40 + 2 * (0) + 1))) (C := RX1) (T := TX1) (N := 3) hx hb hts hinX1 hown hK hP 40 rfl rfl 0 (by decide) (hts (.fieldLink RX3 237 "OneShort$Sheet" "numbers" "[I") (List.mem_of_getElem? (i := 3) rfl)) (fun _ h9 => h9) rfl dX3_copy_122 ?_
                  refine lv_iload_n hx hb dX3_copy_125 rfl (lv_at hl 2 rfl) ?_
                  refine lv_aload_n hx hb dX3_copy_126 rfl (lv_at hl 0 rfl) ?_
                  refine va_get (D := D) (ci := 3) (v := .ref (ad 1)) (C := RX3) (T := TX3) (N := 9) hx hb hts hinX3 hown hK hP 0 rfl rfl 5 (by decide) (hts (.fieldLink RX3 35 "OneShort" "sheets" "[LOneShort$Sheet;") (List.mem_of_getElem? (i := 1) rfl)) (fun _ h9 => h9) rfl dX3_copy_127 ?_
                  refine lv_iload_n hx hb dX3_copy_130 rfl (lv_at hl 3 rfl) ?_
                  refine nv_aald (v := .ref (ad (40 + 2 * (2)))) hx hb hK hP 1 1 rfl rfl (by omega) (by decide) rfl dX3_copy_131 ?_
                  refine va_get (D := D) (ci := 1) (v := .ref (ad (40 + 2 * (2) + 1))) (C := RX1) (T := TX1) (N := 3) hx hb hts hinX1 hown hK hP 44 rfl rfl 0 (by decide) (hts (.fieldLink RX3 237 "OneShort$Sheet" "numbers" "[I") (List.mem_of_getElem? (i := 3) rfl)) (fun _ h9 => h9) rfl dX3_copy_132 ?_
                  refine lv_iload hx hb dX3_copy_135 (lv_at hl 4 rfl) ?_
                  refine lv_iload hx hb dX3_copy_137 (lv_at hl 5 rfl) ?_
                  refine nv_copy hx hb (hml.trans hl.1.symm) hown (hts (.methodLink RX3 240 arraycopyName) (List.mem_of_getElem? (i := 4) rfl)) (hts (.native arraycopyName) (List.mem_of_getElem? (i := 5) rfl)) (hts (.static arraycopyName) (List.mem_of_getElem? (i := 6) rfl)) (hts (.initialized "java/lang/System") (List.mem_of_getElem? (i := 7) rfl)) hK hP hD hS 41 45 0 rfl rfl rfl (by omega) (by omega) (by decide) (by decide) (Nat.le_of_ble_eq_true rfl) (Nat.le_of_ble_eq_true rfl) dX3_copy_139 (fun H locs hP hD hS => ?_)
                  have hP : va_P D vwCl (wX ci ad (toH X X.2.2.2.2.2.2.1 X.2.2.2.2.2.2.2.1 (updF X.2.2.2.2.2.2.2.2 2 (va_cpy (X.2.2.2.2.2.2.2.2 0) (X.2.2.2.2.2.2.2.2 2) (frn) (to_n) (nnn)))) T tq la tt z) H := hP
                  have hD : va_D (aX ad) (wX ci ad (toH X X.2.2.2.2.2.2.1 X.2.2.2.2.2.2.2.1 (updF X.2.2.2.2.2.2.2.2 2 (va_cpy (X.2.2.2.2.2.2.2.2 0) (X.2.2.2.2.2.2.2.2 2) (frn) (to_n) (nnn)))) T tq la tt z) := wX_D hI
                  refine lv_iload hx hb dX3_copy_142 (lv_at hl 5 rfl) ?_
                  have hp : p_copy X (nI 0) (nI frn) (nI 2) (nI to_n) (nI nnn) = (nI (nnn), toH X X.2.2.2.2.2.2.1 X.2.2.2.2.2.2.2.1 (updF X.2.2.2.2.2.2.2.2 2 (va_cpy (X.2.2.2.2.2.2.2.2 0) (X.2.2.2.2.2.2.2.2 2) (frn) (to_n) (nnn)))) := by first | (simp [p_copy, bk, fl_eq, c1, c4, c7, c10, c12, c13, c14, t_s_n, t_t_n, d9, d11, t_frn, t_nnn, t_to_n]; done)
                  refine nv_cv (show nI (nnn) = (p_copy X (nI 0) (nI frn) (nI 2) (nI to_n) (nI nnn)).1 from by rw [hp]) ?_
                  exact mu_iret hx hb hr hlocks hS ((by rw [hp]; exact ⟨_, _, _, _, _, hP⟩)) dX3_copy_144
                · refine lv_aload_n hx hb dX3_copy_116 rfl (lv_at hl 0 rfl) ?_
                  refine va_get (D := D) (ci := 3) (v := .ref (ad 1)) (C := RX3) (T := TX3) (N := 9) hx hb hts hinX3 hown hK hP 0 rfl rfl 5 (by decide) (hts (.fieldLink RX3 35 "OneShort" "sheets" "[LOneShort$Sheet;") (List.mem_of_getElem? (i := 1) rfl)) (fun _ h9 => h9) rfl dX3_copy_117 ?_
                  refine lv_iload_n hx hb dX3_copy_120 rfl (lv_at hl 1 rfl) ?_
                  refine nv_aald (v := .ref (ad (40 + 2 * (0)))) hx hb hK hP 1 1 rfl rfl (by omega) (by decide) rfl dX3_copy_121 ?_
                  refine va_get (D := D) (ci := 1) (v := .ref (ad (40 + 2 * (0) + 1))) (C := RX1) (T := TX1) (N := 3) hx hb hts hinX1 hown hK hP 40 rfl rfl 0 (by decide) (hts (.fieldLink RX3 237 "OneShort$Sheet" "numbers" "[I") (List.mem_of_getElem? (i := 3) rfl)) (fun _ h9 => h9) rfl dX3_copy_122 ?_
                  refine lv_iload_n hx hb dX3_copy_125 rfl (lv_at hl 2 rfl) ?_
                  refine lv_aload_n hx hb dX3_copy_126 rfl (lv_at hl 0 rfl) ?_
                  refine va_get (D := D) (ci := 3) (v := .ref (ad 1)) (C := RX3) (T := TX3) (N := 9) hx hb hts hinX3 hown hK hP 0 rfl rfl 5 (by decide) (hts (.fieldLink RX3 35 "OneShort" "sheets" "[LOneShort$Sheet;") (List.mem_of_getElem? (i := 1) rfl)) (fun _ h9 => h9) rfl dX3_copy_127 ?_
                  refine lv_iload_n hx hb dX3_copy_130 rfl (lv_at hl 3 rfl) ?_
                  refine nv_aald (v := .ref (ad (40 + 2 * (3)))) hx hb hK hP 1 1 rfl rfl (by omega) (by decide) rfl dX3_copy_131 ?_
                  refine va_get (D := D) (ci := 1) (v := .ref (ad (40 + 2 * (3) + 1))) (C := RX1) (T := TX1) (N := 3) hx hb hts hinX1 hown hK hP 46 rfl rfl 0 (by decide) (hts (.fieldLink RX3 237 "OneShort$Sheet" "numbers" "[I") (List.mem_of_getElem? (i := 3) rfl)) (fun _ h9 => h9) rfl dX3_copy_132 ?_
                  refine lv_iload hx hb dX3_copy_135 (lv_at hl 4 rfl) ?_
                  refine lv_iload hx hb dX3_copy_137 (lv_at hl 5 rfl) ?_
                  refine nv_copy hx hb (hml.trans hl.1.symm) hown (hts (.methodLink RX3 240 arraycopyName) (List.mem_of_getElem? (i := 4) rfl)) (hts (.native arraycopyName) (List.mem_of_getElem? (i := 5) rfl)) (hts (.static arraycopyName) (List.mem_of_getElem? (i := 6) rfl)) (hts (.initialized "java/lang/System") (List.mem_of_getElem? (i := 7) rfl)) hK hP hD hS 41 47 0 rfl rfl rfl (by omega) (by omega) (by decide) (by decide) (Nat.le_of_ble_eq_true rfl) (Nat.le_of_ble_eq_true rfl) dX3_copy_139 (fun H locs hP hD hS => ?_)
                  have hP : va_P D vwCl (wX ci ad (toH X X.2.2.2.2.2.2.1 X.2.2.2.2.2.2.2.1 (updF X.2.2.2.2.2.2.2.2 3 (va_cpy (X.2.2.2.2.2.2.2.2 0) (X.2.2.2.2.2.2.2.2 3) (frn) (to_n) (nnn)))) T tq la tt z) H := hP
                  have hD : va_D (aX ad) (wX ci ad (toH X X.2.2.2.2.2.2.1 X.2.2.2.2.2.2.2.1 (updF X.2.2.2.2.2.2.2.2 3 (va_cpy (X.2.2.2.2.2.2.2.2 0) (X.2.2.2.2.2.2.2.2 3) (frn) (to_n) (nnn)))) T tq la tt z) := wX_D hI
                  refine lv_iload hx hb dX3_copy_142 (lv_at hl 5 rfl) ?_
                  have hp : p_copy X (nI 0) (nI frn) (nI 3) (nI to_n) (nI nnn) = (nI (nnn), toH X X.2.2.2.2.2.2.1 X.2.2.2.2.2.2.2.1 (updF X.2.2.2.2.2.2.2.2 3 (va_cpy (X.2.2.2.2.2.2.2.2 0) (X.2.2.2.2.2.2.2.2 3) (frn) (to_n) (nnn)))) := by first | (simp [p_copy, bk, fl_eq, c1, c4, c7, c10, c12, c13, c14, t_s_n, t_t_n, d9, d11, t_frn, t_nnn, t_to_n]; done)
                  refine nv_cv (show nI (nnn) = (p_copy X (nI 0) (nI frn) (nI 3) (nI to_n) (nI nnn)).1 from by rw [hp]) ?_
                  exact mu_iret hx hb hr hlocks hS ((by rw [hp]; exact ⟨_, _, _, _, _, hP⟩)) dX3_copy_144
                · refine lv_aload_n hx hb dX3_copy_116 rfl (lv_at hl 0 rfl) ?_
                  refine va_get (D := D) (ci := 3) (v := .ref (ad 1)) (C := RX3) (T := TX3) (N := 9) hx hb hts hinX3 hown hK hP 0 rfl rfl 5 (by decide) (hts (.fieldLink RX3 35 "OneShort" "sheets" "[LOneShort$Sheet;") (List.mem_of_getElem? (i := 1) rfl)) (fun _ h9 => h9) rfl dX3_copy_117 ?_
                  refine lv_iload_n hx hb dX3_copy_120 rfl (lv_at hl 1 rfl) ?_
                  refine nv_aald (v := .ref (ad (40 + 2 * (1)))) hx hb hK hP 1 1 rfl rfl (by omega) (by decide) rfl dX3_copy_121 ?_
                  refine va_get (D := D) (ci := 1) (v := .ref (ad (40 + 2 * (1) + 1))) (C := RX1) (T := TX1) (N := 3) hx hb hts hinX1 hown hK hP 42 rfl rfl 0 (by decide) (hts (.fieldLink RX3 237 "OneShort$Sheet" "numbers" "[I") (List.mem_of_getElem? (i := 3) rfl)) (fun _ h9 => h9) rfl dX3_copy_122 ?_
                  refine lv_iload_n hx hb dX3_copy_125 rfl (lv_at hl 2 rfl) ?_
                  refine lv_aload_n hx hb dX3_copy_126 rfl (lv_at hl 0 rfl) ?_
                  refine va_get (D := D) (ci := 3) (v := .ref (ad 1)) (C := RX3) (T := TX3) (N := 9) hx hb hts hinX3 hown hK hP 0 rfl rfl 5 (by decide) (hts (.fieldLink RX3 35 "OneShort" "sheets" "[LOneShort$Sheet;") (List.mem_of_getElem? (i := 1) rfl)) (fun _ h9 => h9) rfl dX3_copy_127 ?_
                  refine lv_iload_n hx hb dX3_copy_130 rfl (lv_at hl 3 rfl) ?_
                  refine nv_aald (v := .ref (ad (40 + 2 * (0)))) hx hb hK hP 1 1 rfl rfl (by omega) (by decide) rfl dX3_copy_131 ?_
                  refine va_get (D := D) (ci := 1) (v := .ref (ad (40 + 2 * (0) + 1))) (C := RX1) (T := TX1) (N := 3) hx hb hts hinX1 hown hK hP 40 rfl rfl 0 (by decide) (hts (.fieldLink RX3 237 "OneShort$Sheet" "numbers" "[I") (List.mem_of_getElem? (i := 3) rfl)) (fun _ h9 => h9) rfl dX3_copy_132 ?_
                  refine lv_iload hx hb dX3_copy_135 (lv_at hl 4 rfl) ?_
                  refine lv_iload hx hb dX3_copy_137 (lv_at hl 5 rfl) ?_
                  refine nv_copy hx hb (hml.trans hl.1.symm) hown (hts (.methodLink RX3 240 arraycopyName) (List.mem_of_getElem? (i := 4) rfl)) (hts (.native arraycopyName) (List.mem_of_getElem? (i := 5) rfl)) (hts (.static arraycopyName) (List.mem_of_getElem? (i := 6) rfl)) (hts (.initialized "java/lang/System") (List.mem_of_getElem? (i := 7) rfl)) hK hP hD hS 43 41 0 rfl rfl rfl (by omega) (by omega) (by decide) (by decide) (Nat.le_of_ble_eq_true rfl) (Nat.le_of_ble_eq_true rfl) dX3_copy_139 (fun H locs hP hD hS => ?_)
                  have hP : va_P D vwCl (wX ci ad (toH X X.2.2.2.2.2.2.1 X.2.2.2.2.2.2.2.1 (updF X.2.2.2.2.2.2.2.2 0 (va_cpy (X.2.2.2.2.2.2.2.2 1) (X.2.2.2.2.2.2.2.2 0) (frn) (to_n) (nnn)))) T tq la tt z) H := hP
                  have hD : va_D (aX ad) (wX ci ad (toH X X.2.2.2.2.2.2.1 X.2.2.2.2.2.2.2.1 (updF X.2.2.2.2.2.2.2.2 0 (va_cpy (X.2.2.2.2.2.2.2.2 1) (X.2.2.2.2.2.2.2.2 0) (frn) (to_n) (nnn)))) T tq la tt z) := wX_D hI
                  refine lv_iload hx hb dX3_copy_142 (lv_at hl 5 rfl) ?_
                  have hp : p_copy X (nI 1) (nI frn) (nI 0) (nI to_n) (nI nnn) = (nI (nnn), toH X X.2.2.2.2.2.2.1 X.2.2.2.2.2.2.2.1 (updF X.2.2.2.2.2.2.2.2 0 (va_cpy (X.2.2.2.2.2.2.2.2 1) (X.2.2.2.2.2.2.2.2 0) (frn) (to_n) (nnn)))) := by first | (simp [p_copy, bk, fl_eq, c1, c4, c7, c10, c12, c13, c14, t_s_n, t_t_n, d9, d11, t_frn, t_nnn, t_to_n]; done)
                  refine nv_cv (show nI (nnn) = (p_copy X (nI 1) (nI frn) (nI 0) (nI to_n) (nI nnn)).1 from by rw [hp]) ?_
                  exact mu_iret hx hb hr hlocks hS ((by rw [hp]; exact ⟨_, _, _, _, _, hP⟩)) dX3_copy_144
                · refine lv_aload_n hx hb dX3_copy_116 rfl (lv_at hl 0 rfl) ?_
                  refine va_get (D := D) (ci := 3) (v := .ref (ad 1)) (C := RX3) (T := TX3) (N := 9) hx hb hts hinX3 hown hK hP 0 rfl rfl 5 (by decide) (hts (.fieldLink RX3 35 "OneShort" "sheets" "[LOneShort$Sheet;") (List.mem_of_getElem? (i := 1) rfl)) (fun _ h9 => h9) rfl dX3_copy_117 ?_
                  refine lv_iload_n hx hb dX3_copy_120 rfl (lv_at hl 1 rfl) ?_
                  refine nv_aald (v := .ref (ad (40 + 2 * (1)))) hx hb hK hP 1 1 rfl rfl (by omega) (by decide) rfl dX3_copy_121 ?_
                  refine va_get (D := D) (ci := 1) (v := .ref (ad (40 + 2 * (1) + 1))) (C := RX1) (T := TX1) (N := 3) hx hb hts hinX1 hown hK hP 42 rfl rfl 0 (by decide) (hts (.fieldLink RX3 237 "OneShort$Sheet" "numbers" "[I") (List.mem_of_getElem? (i := 3) rfl)) (fun _ h9 => h9) rfl dX3_copy_122 ?_
                  refine lv_iload_n hx hb dX3_copy_125 rfl (lv_at hl 2 rfl) ?_
                  refine lv_aload_n hx hb dX3_copy_126 rfl (lv_at hl 0 rfl) ?_
                  refine va_get (D := D) (ci := 3) (v := .ref (ad 1)) (C := RX3) (T := TX3) (N := 9) hx hb hts hinX3 hown hK hP 0 rfl rfl 5 (by decide) (hts (.fieldLink RX3 35 "OneShort" "sheets" "[LOneShort$Sheet;") (List.mem_of_getElem? (i := 1) rfl)) (fun _ h9 => h9) rfl dX3_copy_127 ?_
                  refine lv_iload_n hx hb dX3_copy_130 rfl (lv_at hl 3 rfl) ?_
                  refine nv_aald (v := .ref (ad (40 + 2 * (1)))) hx hb hK hP 1 1 rfl rfl (by omega) (by decide) rfl dX3_copy_131 ?_
                  refine va_get (D := D) (ci := 1) (v := .ref (ad (40 + 2 * (1) + 1))) (C := RX1) (T := TX1) (N := 3) hx hb hts hinX1 hown hK hP 42 rfl rfl 0 (by decide) (hts (.fieldLink RX3 237 "OneShort$Sheet" "numbers" "[I") (List.mem_of_getElem? (i := 3) rfl)) (fun _ h9 => h9) rfl dX3_copy_132 ?_
                  refine lv_iload hx hb dX3_copy_135 (lv_at hl 4 rfl) ?_
                  refine lv_iload hx hb dX3_copy_137 (lv_at hl 5 rfl) ?_
                  refine nv_copy hx hb (hml.trans hl.1.symm) hown (hts (.methodLink RX3 240 arraycopyName) (List.mem_of_getElem? (i := 4) rfl)) (hts (.native arraycopyName) (List.mem_of_getElem? (i := 5) rfl)) (hts (.static arraycopyName) (List.mem_of_getElem? (i := 6) rfl)) (hts (.initialized "java/lang/System") (List.mem_of_getElem? (i := 7) rfl)) hK hP hD hS 43 43 0 rfl rfl rfl (by omega) (by omega) (by decide) (by decide) (Nat.le_of_ble_eq_true rfl) (Nat.le_of_ble_eq_true rfl) dX3_copy_139 (fun H locs hP hD hS => ?_)
                  have hP : va_P D vwCl (wX ci ad (toH X X.2.2.2.2.2.2.1 X.2.2.2.2.2.2.2.1 (updF X.2.2.2.2.2.2.2.2 1 (va_cpy (X.2.2.2.2.2.2.2.2 1) (X.2.2.2.2.2.2.2.2 1) (frn) (to_n) (nnn)))) T tq la tt z) H := hP
                  have hD : va_D (aX ad) (wX ci ad (toH X X.2.2.2.2.2.2.1 X.2.2.2.2.2.2.2.1 (updF X.2.2.2.2.2.2.2.2 1 (va_cpy (X.2.2.2.2.2.2.2.2 1) (X.2.2.2.2.2.2.2.2 1) (frn) (to_n) (nnn)))) T tq la tt z) := wX_D hI
                  refine lv_iload hx hb dX3_copy_142 (lv_at hl 5 rfl) ?_
                  have hp : p_copy X (nI 1) (nI frn) (nI 1) (nI to_n) (nI nnn) = (nI (nnn), toH X X.2.2.2.2.2.2.1 X.2.2.2.2.2.2.2.1 (updF X.2.2.2.2.2.2.2.2 1 (va_cpy (X.2.2.2.2.2.2.2.2 1) (X.2.2.2.2.2.2.2.2 1) (frn) (to_n) (nnn)))) := by first | (simp [p_copy, bk, fl_eq, c1, c4, c7, c10, c12, c13, c14, t_s_n, t_t_n, d9, d11, t_frn, t_nnn, t_to_n]; done)
                  refine nv_cv (show nI (nnn) = (p_copy X (nI 1) (nI frn) (nI 1) (nI to_n) (nI nnn)).1 from by rw [hp]) ?_
                  exact mu_iret hx hb hr hlocks hS ((by rw [hp]; exact ⟨_, _, _, _, _, hP⟩)) dX3_copy_144
                · refine lv_aload_n hx hb dX3_copy_116 rfl (lv_at hl 0 rfl) ?_
                  refine va_get (D := D) (ci := 3) (v := .ref (ad 1)) (C := RX3) (T := TX3) (N := 9) hx hb hts hinX3 hown hK hP 0 rfl rfl 5 (by decide) (hts (.fieldLink RX3 35 "OneShort" "sheets" "[LOneShort$Sheet;") (List.mem_of_getElem? (i := 1) rfl)) (fun _ h9 => h9) rfl dX3_copy_117 ?_
                  refine lv_iload_n hx hb dX3_copy_120 rfl (lv_at hl 1 rfl) ?_
                  refine nv_aald (v := .ref (ad (40 + 2 * (1)))) hx hb hK hP 1 1 rfl rfl (by omega) (by decide) rfl dX3_copy_121 ?_
                  refine va_get (D := D) (ci := 1) (v := .ref (ad (40 + 2 * (1) + 1))) (C := RX1) (T := TX1) (N := 3) hx hb hts hinX1 hown hK hP 42 rfl rfl 0 (by decide) (hts (.fieldLink RX3 237 "OneShort$Sheet" "numbers" "[I") (List.mem_of_getElem? (i := 3) rfl)) (fun _ h9 => h9) rfl dX3_copy_122 ?_
                  refine lv_iload_n hx hb dX3_copy_125 rfl (lv_at hl 2 rfl) ?_
                  refine lv_aload_n hx hb dX3_copy_126 rfl (lv_at hl 0 rfl) ?_
                  refine va_get (D := D) (ci := 3) (v := .ref (ad 1)) (C := RX3) (T := TX3) (N := 9) hx hb hts hinX3 hown hK hP 0 rfl rfl 5 (by decide) (hts (.fieldLink RX3 35 "OneShort" "sheets" "[LOneShort$Sheet;") (List.mem_of_getElem? (i := 1) rfl)) (fun _ h9 => h9) rfl dX3_copy_127 ?_
                  refine lv_iload_n hx hb dX3_copy_130 rfl (lv_at hl 3 rfl) ?_
                  refine nv_aald (v := .ref (ad (40 + 2 * (2)))) hx hb hK hP 1 1 rfl rfl (by omega) (by decide) rfl dX3_copy_131 ?_
                  refine va_get (D := D) (ci := 1) (v := .ref (ad (40 + 2 * (2) + 1))) (C := RX1) (T := TX1) (N := 3) hx hb hts hinX1 hown hK hP 44 rfl rfl 0 (by decide) (hts (.fieldLink RX3 237 "OneShort$Sheet" "numbers" "[I") (List.mem_of_getElem? (i := 3) rfl)) (fun _ h9 => h9) rfl dX3_copy_132 ?_
                  refine lv_iload hx hb dX3_copy_135 (lv_at hl 4 rfl) ?_
                  refine lv_iload hx hb dX3_copy_137 (lv_at hl 5 rfl) ?_
                  refine nv_copy hx hb (hml.trans hl.1.symm) hown (hts (.methodLink RX3 240 arraycopyName) (List.mem_of_getElem? (i := 4) rfl)) (hts (.native arraycopyName) (List.mem_of_getElem? (i := 5) rfl)) (hts (.static arraycopyName) (List.mem_of_getElem? (i := 6) rfl)) (hts (.initialized "java/lang/System") (List.mem_of_getElem? (i := 7) rfl)) hK hP hD hS 43 45 0 rfl rfl rfl (by omega) (by omega) (by decide) (by decide) (Nat.le_of_ble_eq_true rfl) (Nat.le_of_ble_eq_true rfl) dX3_copy_139 (fun H locs hP hD hS => ?_)
                  have hP : va_P D vwCl (wX ci ad (toH X X.2.2.2.2.2.2.1 X.2.2.2.2.2.2.2.1 (updF X.2.2.2.2.2.2.2.2 2 (va_cpy (X.2.2.2.2.2.2.2.2 1) (X.2.2.2.2.2.2.2.2 2) (frn) (to_n) (nnn)))) T tq la tt z) H := hP
                  have hD : va_D (aX ad) (wX ci ad (toH X X.2.2.2.2.2.2.1 X.2.2.2.2.2.2.2.1 (updF X.2.2.2.2.2.2.2.2 2 (va_cpy (X.2.2.2.2.2.2.2.2 1) (X.2.2.2.2.2.2.2.2 2) (frn) (to_n) (nnn)))) T tq la tt z) := wX_D hI
                  refine lv_iload hx hb dX3_copy_142 (lv_at hl 5 rfl) ?_
                  have hp : p_copy X (nI 1) (nI frn) (nI 2) (nI to_n) (nI nnn) = (nI (nnn), toH X X.2.2.2.2.2.2.1 X.2.2.2.2.2.2.2.1 (updF X.2.2.2.2.2.2.2.2 2 (va_cpy (X.2.2.2.2.2.2.2.2 1) (X.2.2.2.2.2.2.2.2 2) (frn) (to_n) (nnn)))) := by first | (simp [p_copy, bk, fl_eq, c1, c4, c7, c10, c12, c13, c14, t_s_n, t_t_n, d9, d11, t_frn, t_nnn, t_to_n]; done)
                  refine nv_cv (show nI (nnn) = (p_copy X (nI 1) (nI frn) (nI 2) (nI to_n) (nI nnn)).1 from by rw [hp]) ?_
                  exact mu_iret hx hb hr hlocks hS ((by rw [hp]; exact ⟨_, _, _, _, _, hP⟩)) dX3_copy_144
                · refine lv_aload_n hx hb dX3_copy_116 rfl (lv_at hl 0 rfl) ?_
                  refine va_get (D := D) (ci := 3) (v := .ref (ad 1)) (C := RX3) (T := TX3) (N := 9) hx hb hts hinX3 hown hK hP 0 rfl rfl 5 (by decide) (hts (.fieldLink RX3 35 "OneShort" "sheets" "[LOneShort$Sheet;") (List.mem_of_getElem? (i := 1) rfl)) (fun _ h9 => h9) rfl dX3_copy_117 ?_
                  refine lv_iload_n hx hb dX3_copy_120 rfl (lv_at hl 1 rfl) ?_
                  refine nv_aald (v := .ref (ad (40 + 2 * (1)))) hx hb hK hP 1 1 rfl rfl (by omega) (by decide) rfl dX3_copy_121 ?_
                  refine va_get (D := D) (ci := 1) (v := .ref (ad (40 + 2 * (1) + 1))) (C := RX1) (T := TX1) (N := 3) hx hb hts hinX1 hown hK hP 42 rfl rfl 0 (by decide) (hts (.fieldLink RX3 237 "OneShort$Sheet" "numbers" "[I") (List.mem_of_getElem? (i := 3) rfl)) (fun _ h9 => h9) rfl dX3_copy_122 ?_
                  refine lv_iload_n hx hb dX3_copy_125 rfl (lv_at hl 2 rfl) ?_
                  refine lv_aload_n hx hb dX3_copy_126 rfl (lv_at hl 0 rfl) ?_
                  refine va_get (D := D) (ci := 3) (v := .ref (ad 1)) (C := RX3) (T := TX3) (N := 9) hx hb hts hinX3 hown hK hP 0 rfl rfl 5 (by decide) (hts (.fieldLink RX3 35 "OneShort" "sheets" "[LOneShort$Sheet;") (List.mem_of_getElem? (i := 1) rfl)) (fun _ h9 => h9) rfl dX3_copy_127 ?_
                  refine lv_iload_n hx hb dX3_copy_130 rfl (lv_at hl 3 rfl) ?_
                  refine nv_aald (v := .ref (ad (40 + 2 * (3)))) hx hb hK hP 1 1 rfl rfl (by omega) (by decide) rfl dX3_copy_131 ?_
                  refine va_get (D := D) (ci := 1) (v := .ref (ad (40 + 2 * (3) + 1))) (C := RX1) (T := TX1) (N := 3) hx hb hts hinX1 hown hK hP 46 rfl rfl 0 (by decide) (hts (.fieldLink RX3 237 "OneShort$Sheet" "numbers" "[I") (List.mem_of_getElem? (i := 3) rfl)) (fun _ h9 => h9) rfl dX3_copy_132 ?_
                  refine lv_iload hx hb dX3_copy_135 (lv_at hl 4 rfl) ?_
                  refine lv_iload hx hb dX3_copy_137 (lv_at hl 5 rfl) ?_
                  refine nv_copy hx hb (hml.trans hl.1.symm) hown (hts (.methodLink RX3 240 arraycopyName) (List.mem_of_getElem? (i := 4) rfl)) (hts (.native arraycopyName) (List.mem_of_getElem? (i := 5) rfl)) (hts (.static arraycopyName) (List.mem_of_getElem? (i := 6) rfl)) (hts (.initialized "java/lang/System") (List.mem_of_getElem? (i := 7) rfl)) hK hP hD hS 43 47 0 rfl rfl rfl (by omega) (by omega) (by decide) (by decide) (Nat.le_of_ble_eq_true rfl) (Nat.le_of_ble_eq_true rfl) dX3_copy_139 (fun H locs hP hD hS => ?_)
                  have hP : va_P D vwCl (wX ci ad (toH X X.2.2.2.2.2.2.1 X.2.2.2.2.2.2.2.1 (updF X.2.2.2.2.2.2.2.2 3 (va_cpy (X.2.2.2.2.2.2.2.2 1) (X.2.2.2.2.2.2.2.2 3) (frn) (to_n) (nnn)))) T tq la tt z) H := hP
                  have hD : va_D (aX ad) (wX ci ad (toH X X.2.2.2.2.2.2.1 X.2.2.2.2.2.2.2.1 (updF X.2.2.2.2.2.2.2.2 3 (va_cpy (X.2.2.2.2.2.2.2.2 1) (X.2.2.2.2.2.2.2.2 3) (frn) (to_n) (nnn)))) T tq la tt z) := wX_D hI
                  refine lv_iload hx hb dX3_copy_142 (lv_at hl 5 rfl) ?_
                  have hp : p_copy X (nI 1) (nI frn) (nI 3) (nI to_n) (nI nnn) = (nI (nnn), toH X X.2.2.2.2.2.2.1 X.2.2.2.2.2.2.2.1 (updF X.2.2.2.2.2.2.2.2 3 (va_cpy (X.2.2.2.2.2.2.2.2 1) (X.2.2.2.2.2.2.2.2 3) (frn) (to_n) (nnn)))) := by first | (simp [p_copy, bk, fl_eq, c1, c4, c7, c10, c12, c13, c14, t_s_n, t_t_n, d9, d11, t_frn, t_nnn, t_to_n]; done)
                  refine nv_cv (show nI (nnn) = (p_copy X (nI 1) (nI frn) (nI 3) (nI to_n) (nI nnn)).1 from by rw [hp]) ?_
                  exact mu_iret hx hb hr hlocks hS ((by rw [hp]; exact ⟨_, _, _, _, _, hP⟩)) dX3_copy_144
                · refine lv_aload_n hx hb dX3_copy_116 rfl (lv_at hl 0 rfl) ?_
                  refine va_get (D := D) (ci := 3) (v := .ref (ad 1)) (C := RX3) (T := TX3) (N := 9) hx hb hts hinX3 hown hK hP 0 rfl rfl 5 (by decide) (hts (.fieldLink RX3 35 "OneShort" "sheets" "[LOneShort$Sheet;") (List.mem_of_getElem? (i := 1) rfl)) (fun _ h9 => h9) rfl dX3_copy_117 ?_
                  refine lv_iload_n hx hb dX3_copy_120 rfl (lv_at hl 1 rfl) ?_
                  refine nv_aald (v := .ref (ad (40 + 2 * (2)))) hx hb hK hP 1 1 rfl rfl (by omega) (by decide) rfl dX3_copy_121 ?_
                  refine va_get (D := D) (ci := 1) (v := .ref (ad (40 + 2 * (2) + 1))) (C := RX1) (T := TX1) (N := 3) hx hb hts hinX1 hown hK hP 44 rfl rfl 0 (by decide) (hts (.fieldLink RX3 237 "OneShort$Sheet" "numbers" "[I") (List.mem_of_getElem? (i := 3) rfl)) (fun _ h9 => h9) rfl dX3_copy_122 ?_
                  refine lv_iload_n hx hb dX3_copy_125 rfl (lv_at hl 2 rfl) ?_
                  refine lv_aload_n hx hb dX3_copy_126 rfl (lv_at hl 0 rfl) ?_
                  refine va_get (D := D) (ci := 3) (v := .ref (ad 1)) (C := RX3) (T := TX3) (N := 9) hx hb hts hinX3 hown hK hP 0 rfl rfl 5 (by decide) (hts (.fieldLink RX3 35 "OneShort" "sheets" "[LOneShort$Sheet;") (List.mem_of_getElem? (i := 1) rfl)) (fun _ h9 => h9) rfl dX3_copy_127 ?_
                  refine lv_iload_n hx hb dX3_copy_130 rfl (lv_at hl 3 rfl) ?_
                  refine nv_aald (v := .ref (ad (40 + 2 * (0)))) hx hb hK hP 1 1 rfl rfl (by omega) (by decide) rfl dX3_copy_131 ?_
                  refine va_get (D := D) (ci := 1) (v := .ref (ad (40 + 2 * (0) + 1))) (C := RX1) (T := TX1) (N := 3) hx hb hts hinX1 hown hK hP 40 rfl rfl 0 (by decide) (hts (.fieldLink RX3 237 "OneShort$Sheet" "numbers" "[I") (List.mem_of_getElem? (i := 3) rfl)) (fun _ h9 => h9) rfl dX3_copy_132 ?_
                  refine lv_iload hx hb dX3_copy_135 (lv_at hl 4 rfl) ?_
                  refine lv_iload hx hb dX3_copy_137 (lv_at hl 5 rfl) ?_
                  refine nv_copy hx hb (hml.trans hl.1.symm) hown (hts (.methodLink RX3 240 arraycopyName) (List.mem_of_getElem? (i := 4) rfl)) (hts (.native arraycopyName) (List.mem_of_getElem? (i := 5) rfl)) (hts (.static arraycopyName) (List.mem_of_getElem? (i := 6) rfl)) (hts (.initialized "java/lang/System") (List.mem_of_getElem? (i := 7) rfl)) hK hP hD hS 45 41 0 rfl rfl rfl (by omega) (by omega) (by decide) (by decide) (Nat.le_of_ble_eq_true rfl) (Nat.le_of_ble_eq_true rfl) dX3_copy_139 (fun H locs hP hD hS => ?_)
                  have hP : va_P D vwCl (wX ci ad (toH X X.2.2.2.2.2.2.1 X.2.2.2.2.2.2.2.1 (updF X.2.2.2.2.2.2.2.2 0 (va_cpy (X.2.2.2.2.2.2.2.2 2) (X.2.2.2.2.2.2.2.2 0) (frn) (to_n) (nnn)))) T tq la tt z) H := hP
                  have hD : va_D (aX ad) (wX ci ad (toH X X.2.2.2.2.2.2.1 X.2.2.2.2.2.2.2.1 (updF X.2.2.2.2.2.2.2.2 0 (va_cpy (X.2.2.2.2.2.2.2.2 2) (X.2.2.2.2.2.2.2.2 0) (frn) (to_n) (nnn)))) T tq la tt z) := wX_D hI
                  refine lv_iload hx hb dX3_copy_142 (lv_at hl 5 rfl) ?_
                  have hp : p_copy X (nI 2) (nI frn) (nI 0) (nI to_n) (nI nnn) = (nI (nnn), toH X X.2.2.2.2.2.2.1 X.2.2.2.2.2.2.2.1 (updF X.2.2.2.2.2.2.2.2 0 (va_cpy (X.2.2.2.2.2.2.2.2 2) (X.2.2.2.2.2.2.2.2 0) (frn) (to_n) (nnn)))) := by first | (simp [p_copy, bk, fl_eq, c1, c4, c7, c10, c12, c13, c14, t_s_n, t_t_n, d9, d11, t_frn, t_nnn, t_to_n]; done)
                  refine nv_cv (show nI (nnn) = (p_copy X (nI 2) (nI frn) (nI 0) (nI to_n) (nI nnn)).1 from by rw [hp]) ?_
                  exact mu_iret hx hb hr hlocks hS ((by rw [hp]; exact ⟨_, _, _, _, _, hP⟩)) dX3_copy_144
                · refine lv_aload_n hx hb dX3_copy_116 rfl (lv_at hl 0 rfl) ?_
                  refine va_get (D := D) (ci := 3) (v := .ref (ad 1)) (C := RX3) (T := TX3) (N := 9) hx hb hts hinX3 hown hK hP 0 rfl rfl 5 (by decide) (hts (.fieldLink RX3 35 "OneShort" "sheets" "[LOneShort$Sheet;") (List.mem_of_getElem? (i := 1) rfl)) (fun _ h9 => h9) rfl dX3_copy_117 ?_
                  refine lv_iload_n hx hb dX3_copy_120 rfl (lv_at hl 1 rfl) ?_
                  refine nv_aald (v := .ref (ad (40 + 2 * (2)))) hx hb hK hP 1 1 rfl rfl (by omega) (by decide) rfl dX3_copy_121 ?_
                  refine va_get (D := D) (ci := 1) (v := .ref (ad (40 + 2 * (2) + 1))) (C := RX1) (T := TX1) (N := 3) hx hb hts hinX1 hown hK hP 44 rfl rfl 0 (by decide) (hts (.fieldLink RX3 237 "OneShort$Sheet" "numbers" "[I") (List.mem_of_getElem? (i := 3) rfl)) (fun _ h9 => h9) rfl dX3_copy_122 ?_
                  refine lv_iload_n hx hb dX3_copy_125 rfl (lv_at hl 2 rfl) ?_
                  refine lv_aload_n hx hb dX3_copy_126 rfl (lv_at hl 0 rfl) ?_
                  refine va_get (D := D) (ci := 3) (v := .ref (ad 1)) (C := RX3) (T := TX3) (N := 9) hx hb hts hinX3 hown hK hP 0 rfl rfl 5 (by decide) (hts (.fieldLink RX3 35 "OneShort" "sheets" "[LOneShort$Sheet;") (List.mem_of_getElem? (i := 1) rfl)) (fun _ h9 => h9) rfl dX3_copy_127 ?_
                  refine lv_iload_n hx hb dX3_copy_130 rfl (lv_at hl 3 rfl) ?_
                  refine nv_aald (v := .ref (ad (40 + 2 * (1)))) hx hb hK hP 1 1 rfl rfl (by omega) (by decide) rfl dX3_copy_131 ?_
                  refine va_get (D := D) (ci := 1) (v := .ref (ad (40 + 2 * (1) + 1))) (C := RX1) (T := TX1) (N := 3) hx hb hts hinX1 hown hK hP 42 rfl rfl 0 (by decide) (hts (.fieldLink RX3 237 "OneShort$Sheet" "numbers" "[I") (List.mem_of_getElem? (i := 3) rfl)) (fun _ h9 => h9) rfl dX3_copy_132 ?_
                  refine lv_iload hx hb dX3_copy_135 (lv_at hl 4 rfl) ?_
                  refine lv_iload hx hb dX3_copy_137 (lv_at hl 5 rfl) ?_
                  refine nv_copy hx hb (hml.trans hl.1.symm) hown (hts (.methodLink RX3 240 arraycopyName) (List.mem_of_getElem? (i := 4) rfl)) (hts (.native arraycopyName) (List.mem_of_getElem? (i := 5) rfl)) (hts (.static arraycopyName) (List.mem_of_getElem? (i := 6) rfl)) (hts (.initialized "java/lang/System") (List.mem_of_getElem? (i := 7) rfl)) hK hP hD hS 45 43 0 rfl rfl rfl (by omega) (by omega) (by decide) (by decide) (Nat.le_of_ble_eq_true rfl) (Nat.le_of_ble_eq_true rfl) dX3_copy_139 (fun H locs hP hD hS => ?_)
                  have hP : va_P D vwCl (wX ci ad (toH X X.2.2.2.2.2.2.1 X.2.2.2.2.2.2.2.1 (updF X.2.2.2.2.2.2.2.2 1 (va_cpy (X.2.2.2.2.2.2.2.2 2) (X.2.2.2.2.2.2.2.2 1) (frn) (to_n) (nnn)))) T tq la tt z) H := hP
                  have hD : va_D (aX ad) (wX ci ad (toH X X.2.2.2.2.2.2.1 X.2.2.2.2.2.2.2.1 (updF X.2.2.2.2.2.2.2.2 1 (va_cpy (X.2.2.2.2.2.2.2.2 2) (X.2.2.2.2.2.2.2.2 1) (frn) (to_n) (nnn)))) T tq la tt z) := wX_D hI
                  refine lv_iload hx hb dX3_copy_142 (lv_at hl 5 rfl) ?_
                  have hp : p_copy X (nI 2) (nI frn) (nI 1) (nI to_n) (nI nnn) = (nI (nnn), toH X X.2.2.2.2.2.2.1 X.2.2.2.2.2.2.2.1 (updF X.2.2.2.2.2.2.2.2 1 (va_cpy (X.2.2.2.2.2.2.2.2 2) (X.2.2.2.2.2.2.2.2 1) (frn) (to_n) (nnn)))) := by first | (simp [p_copy, bk, fl_eq, c1, c4, c7, c10, c12, c13, c14, t_s_n, t_t_n, d9, d11, t_frn, t_nnn, t_to_n]; done)
                  refine nv_cv (show nI (nnn) = (p_copy X (nI 2) (nI frn) (nI 1) (nI to_n) (nI nnn)).1 from by rw [hp]) ?_
                  exact mu_iret hx hb hr hlocks hS ((by rw [hp]; exact ⟨_, _, _, _, _, hP⟩)) dX3_copy_144
                · refine lv_aload_n hx hb dX3_copy_116 rfl (lv_at hl 0 rfl) ?_
                  refine va_get (D := D) (ci := 3) (v := .ref (ad 1)) (C := RX3) (T := TX3) (N := 9) hx hb hts hinX3 hown hK hP 0 rfl rfl 5 (by decide) (hts (.fieldLink RX3 35 "OneShort" "sheets" "[LOneShort$Sheet;") (List.mem_of_getElem? (i := 1) rfl)) (fun _ h9 => h9) rfl dX3_copy_117 ?_
                  refine lv_iload_n hx hb dX3_copy_120 rfl (lv_at hl 1 rfl) ?_
                  refine nv_aald (v := .ref (ad (40 + 2 * (2)))) hx hb hK hP 1 1 rfl rfl (by omega) (by decide) rfl dX3_copy_121 ?_
                  refine va_get (D := D) (ci := 1) (v := .ref (ad (40 + 2 * (2) + 1))) (C := RX1) (T := TX1) (N := 3) hx hb hts hinX1 hown hK hP 44 rfl rfl 0 (by decide) (hts (.fieldLink RX3 237 "OneShort$Sheet" "numbers" "[I") (List.mem_of_getElem? (i := 3) rfl)) (fun _ h9 => h9) rfl dX3_copy_122 ?_
                  refine lv_iload_n hx hb dX3_copy_125 rfl (lv_at hl 2 rfl) ?_
                  refine lv_aload_n hx hb dX3_copy_126 rfl (lv_at hl 0 rfl) ?_
                  refine va_get (D := D) (ci := 3) (v := .ref (ad 1)) (C := RX3) (T := TX3) (N := 9) hx hb hts hinX3 hown hK hP 0 rfl rfl 5 (by decide) (hts (.fieldLink RX3 35 "OneShort" "sheets" "[LOneShort$Sheet;") (List.mem_of_getElem? (i := 1) rfl)) (fun _ h9 => h9) rfl dX3_copy_127 ?_
                  refine lv_iload_n hx hb dX3_copy_130 rfl (lv_at hl 3 rfl) ?_
                  refine nv_aald (v := .ref (ad (40 + 2 * (2)))) hx hb hK hP 1 1 rfl rfl (by omega) (by decide) rfl dX3_copy_131 ?_
                  refine va_get (D := D) (ci := 1) (v := .ref (ad (40 + 2 * (2) + 1))) (C := RX1) (T := TX1) (N := 3) hx hb hts hinX1 hown hK hP 44 rfl rfl 0 (by decide) (hts (.fieldLink RX3 237 "OneShort$Sheet" "numbers" "[I") (List.mem_of_getElem? (i := 3) rfl)) (fun _ h9 => h9) rfl dX3_copy_132 ?_
                  refine lv_iload hx hb dX3_copy_135 (lv_at hl 4 rfl) ?_
                  refine lv_iload hx hb dX3_copy_137 (lv_at hl 5 rfl) ?_
                  refine nv_copy hx hb (hml.trans hl.1.symm) hown (hts (.methodLink RX3 240 arraycopyName) (List.mem_of_getElem? (i := 4) rfl)) (hts (.native arraycopyName) (List.mem_of_getElem? (i := 5) rfl)) (hts (.static arraycopyName) (List.mem_of_getElem? (i := 6) rfl)) (hts (.initialized "java/lang/System") (List.mem_of_getElem? (i := 7) rfl)) hK hP hD hS 45 45 0 rfl rfl rfl (by omega) (by omega) (by decide) (by decide) (Nat.le_of_ble_eq_true rfl) (Nat.le_of_ble_eq_true rfl) dX3_copy_139 (fun H locs hP hD hS => ?_)
                  have hP : va_P D vwCl (wX ci ad (toH X X.2.2.2.2.2.2.1 X.2.2.2.2.2.2.2.1 (updF X.2.2.2.2.2.2.2.2 2 (va_cpy (X.2.2.2.2.2.2.2.2 2) (X.2.2.2.2.2.2.2.2 2) (frn) (to_n) (nnn)))) T tq la tt z) H := hP
                  have hD : va_D (aX ad) (wX ci ad (toH X X.2.2.2.2.2.2.1 X.2.2.2.2.2.2.2.1 (updF X.2.2.2.2.2.2.2.2 2 (va_cpy (X.2.2.2.2.2.2.2.2 2) (X.2.2.2.2.2.2.2.2 2) (frn) (to_n) (nnn)))) T tq la tt z) := wX_D hI
                  refine lv_iload hx hb dX3_copy_142 (lv_at hl 5 rfl) ?_
                  have hp : p_copy X (nI 2) (nI frn) (nI 2) (nI to_n) (nI nnn) = (nI (nnn), toH X X.2.2.2.2.2.2.1 X.2.2.2.2.2.2.2.1 (updF X.2.2.2.2.2.2.2.2 2 (va_cpy (X.2.2.2.2.2.2.2.2 2) (X.2.2.2.2.2.2.2.2 2) (frn) (to_n) (nnn)))) := by first | (simp [p_copy, bk, fl_eq, c1, c4, c7, c10, c12, c13, c14, t_s_n, t_t_n, d9, d11, t_frn, t_nnn, t_to_n]; done)
                  refine nv_cv (show nI (nnn) = (p_copy X (nI 2) (nI frn) (nI 2) (nI to_n) (nI nnn)).1 from by rw [hp]) ?_
                  exact mu_iret hx hb hr hlocks hS ((by rw [hp]; exact ⟨_, _, _, _, _, hP⟩)) dX3_copy_144
                · refine lv_aload_n hx hb dX3_copy_116 rfl (lv_at hl 0 rfl) ?_
                  refine va_get (D := D) (ci := 3) (v := .ref (ad 1)) (C := RX3) (T := TX3) (N := 9) hx hb hts hinX3 hown hK hP 0 rfl rfl 5 (by decide) (hts (.fieldLink RX3 35 "OneShort" "sheets" "[LOneShort$Sheet;") (List.mem_of_getElem? (i := 1) rfl)) (fun _ h9 => h9) rfl dX3_copy_117 ?_
                  refine lv_iload_n hx hb dX3_copy_120 rfl (lv_at hl 1 rfl) ?_
                  refine nv_aald (v := .ref (ad (40 + 2 * (2)))) hx hb hK hP 1 1 rfl rfl (by omega) (by decide) rfl dX3_copy_121 ?_
                  refine va_get (D := D) (ci := 1) (v := .ref (ad (40 + 2 * (2) + 1))) (C := RX1) (T := TX1) (N := 3) hx hb hts hinX1 hown hK hP 44 rfl rfl 0 (by decide) (hts (.fieldLink RX3 237 "OneShort$Sheet" "numbers" "[I") (List.mem_of_getElem? (i := 3) rfl)) (fun _ h9 => h9) rfl dX3_copy_122 ?_
                  refine lv_iload_n hx hb dX3_copy_125 rfl (lv_at hl 2 rfl) ?_
                  refine lv_aload_n hx hb dX3_copy_126 rfl (lv_at hl 0 rfl) ?_
                  refine va_get (D := D) (ci := 3) (v := .ref (ad 1)) (C := RX3) (T := TX3) (N := 9) hx hb hts hinX3 hown hK hP 0 rfl rfl 5 (by decide) (hts (.fieldLink RX3 35 "OneShort" "sheets" "[LOneShort$Sheet;") (List.mem_of_getElem? (i := 1) rfl)) (fun _ h9 => h9) rfl dX3_copy_127 ?_
                  refine lv_iload_n hx hb dX3_copy_130 rfl (lv_at hl 3 rfl) ?_
                  refine nv_aald (v := .ref (ad (40 + 2 * (3)))) hx hb hK hP 1 1 rfl rfl (by omega) (by decide) rfl dX3_copy_131 ?_
                  refine va_get (D := D) (ci := 1) (v := .ref (ad (40 + 2 * (3) + 1))) (C := RX1) (T := TX1) (N := 3) hx hb hts hinX1 hown hK hP 46 rfl rfl 0 (by decide) (hts (.fieldLink RX3 237 "OneShort$Sheet" "numbers" "[I") (List.mem_of_getElem? (i := 3) rfl)) (fun _ h9 => h9) rfl dX3_copy_132 ?_
                  refine lv_iload hx hb dX3_copy_135 (lv_at hl 4 rfl) ?_
                  refine lv_iload hx hb dX3_copy_137 (lv_at hl 5 rfl) ?_
                  refine nv_copy hx hb (hml.trans hl.1.symm) hown (hts (.methodLink RX3 240 arraycopyName) (List.mem_of_getElem? (i := 4) rfl)) (hts (.native arraycopyName) (List.mem_of_getElem? (i := 5) rfl)) (hts (.static arraycopyName) (List.mem_of_getElem? (i := 6) rfl)) (hts (.initialized "java/lang/System") (List.mem_of_getElem? (i := 7) rfl)) hK hP hD hS 45 47 0 rfl rfl rfl (by omega) (by omega) (by decide) (by decide) (Nat.le_of_ble_eq_true rfl) (Nat.le_of_ble_eq_true rfl) dX3_copy_139 (fun H locs hP hD hS => ?_)
                  have hP : va_P D vwCl (wX ci ad (toH X X.2.2.2.2.2.2.1 X.2.2.2.2.2.2.2.1 (updF X.2.2.2.2.2.2.2.2 3 (va_cpy (X.2.2.2.2.2.2.2.2 2) (X.2.2.2.2.2.2.2.2 3) (frn) (to_n) (nnn)))) T tq la tt z) H := hP
                  have hD : va_D (aX ad) (wX ci ad (toH X X.2.2.2.2.2.2.1 X.2.2.2.2.2.2.2.1 (updF X.2.2.2.2.2.2.2.2 3 (va_cpy (X.2.2.2.2.2.2.2.2 2) (X.2.2.2.2.2.2.2.2 3) (frn) (to_n) (nnn)))) T tq la tt z) := wX_D hI
                  refine lv_iload hx hb dX3_copy_142 (lv_at hl 5 rfl) ?_
                  have hp : p_copy X (nI 2) (nI frn) (nI 3) (nI to_n) (nI nnn) = (nI (nnn), toH X X.2.2.2.2.2.2.1 X.2.2.2.2.2.2.2.1 (updF X.2.2.2.2.2.2.2.2 3 (va_cpy (X.2.2.2.2.2.2.2.2 2) (X.2.2.2.2.2.2.2.2 3) (frn) (to_n) (nnn)))) := by first | (simp [p_copy, bk, fl_eq, c1, c4, c7, c10, c12, c13, c14, t_s_n, t_t_n, d9, d11, t_frn, t_nnn, t_to_n]; done)
                  refine nv_cv (show nI (nnn) = (p_copy X (nI 2) (nI frn) (nI 3) (nI to_n) (nI nnn)).1 from by rw [hp]) ?_
                  exact mu_iret hx hb hr hlocks hS ((by rw [hp]; exact ⟨_, _, _, _, _, hP⟩)) dX3_copy_144
                · refine lv_aload_n hx hb dX3_copy_116 rfl (lv_at hl 0 rfl) ?_
                  refine va_get (D := D) (ci := 3) (v := .ref (ad 1)) (C := RX3) (T := TX3) (N := 9) hx hb hts hinX3 hown hK hP 0 rfl rfl 5 (by decide) (hts (.fieldLink RX3 35 "OneShort" "sheets" "[LOneShort$Sheet;") (List.mem_of_getElem? (i := 1) rfl)) (fun _ h9 => h9) rfl dX3_copy_117 ?_
                  refine lv_iload_n hx hb dX3_copy_120 rfl (lv_at hl 1 rfl) ?_
                  refine nv_aald (v := .ref (ad (40 + 2 * (3)))) hx hb hK hP 1 1 rfl rfl (by omega) (by decide) rfl dX3_copy_121 ?_
                  refine va_get (D := D) (ci := 1) (v := .ref (ad (40 + 2 * (3) + 1))) (C := RX1) (T := TX1) (N := 3) hx hb hts hinX1 hown hK hP 46 rfl rfl 0 (by decide) (hts (.fieldLink RX3 237 "OneShort$Sheet" "numbers" "[I") (List.mem_of_getElem? (i := 3) rfl)) (fun _ h9 => h9) rfl dX3_copy_122 ?_
                  refine lv_iload_n hx hb dX3_copy_125 rfl (lv_at hl 2 rfl) ?_
                  refine lv_aload_n hx hb dX3_copy_126 rfl (lv_at hl 0 rfl) ?_
                  refine va_get (D := D) (ci := 3) (v := .ref (ad 1)) (C := RX3) (T := TX3) (N := 9) hx hb hts hinX3 hown hK hP 0 rfl rfl 5 (by decide) (hts (.fieldLink RX3 35 "OneShort" "sheets" "[LOneShort$Sheet;") (List.mem_of_getElem? (i := 1) rfl)) (fun _ h9 => h9) rfl dX3_copy_127 ?_
                  refine lv_iload_n hx hb dX3_copy_130 rfl (lv_at hl 3 rfl) ?_
                  refine nv_aald (v := .ref (ad (40 + 2 * (0)))) hx hb hK hP 1 1 rfl rfl (by omega) (by decide) rfl dX3_copy_131 ?_
                  refine va_get (D := D) (ci := 1) (v := .ref (ad (40 + 2 * (0) + 1))) (C := RX1) (T := TX1) (N := 3) hx hb hts hinX1 hown hK hP 40 rfl rfl 0 (by decide) (hts (.fieldLink RX3 237 "OneShort$Sheet" "numbers" "[I") (List.mem_of_getElem? (i := 3) rfl)) (fun _ h9 => h9) rfl dX3_copy_132 ?_
                  refine lv_iload hx hb dX3_copy_135 (lv_at hl 4 rfl) ?_
                  refine lv_iload hx hb dX3_copy_137 (lv_at hl 5 rfl) ?_
                  refine nv_copy hx hb (hml.trans hl.1.symm) hown (hts (.methodLink RX3 240 arraycopyName) (List.mem_of_getElem? (i := 4) rfl)) (hts (.native arraycopyName) (List.mem_of_getElem? (i := 5) rfl)) (hts (.static arraycopyName) (List.mem_of_getElem? (i := 6) rfl)) (hts (.initialized "java/lang/System") (List.mem_of_getElem? (i := 7) rfl)) hK hP hD hS 47 41 0 rfl rfl rfl (by omega) (by omega) (by decide) (by decide) (Nat.le_of_ble_eq_true rfl) (Nat.le_of_ble_eq_true rfl) dX3_copy_139 (fun H locs hP hD hS => ?_)
                  have hP : va_P D vwCl (wX ci ad (toH X X.2.2.2.2.2.2.1 X.2.2.2.2.2.2.2.1 (updF X.2.2.2.2.2.2.2.2 0 (va_cpy (X.2.2.2.2.2.2.2.2 3) (X.2.2.2.2.2.2.2.2 0) (frn) (to_n) (nnn)))) T tq la tt z) H := hP
                  have hD : va_D (aX ad) (wX ci ad (toH X X.2.2.2.2.2.2.1 X.2.2.2.2.2.2.2.1 (updF X.2.2.2.2.2.2.2.2 0 (va_cpy (X.2.2.2.2.2.2.2.2 3) (X.2.2.2.2.2.2.2.2 0) (frn) (to_n) (nnn)))) T tq la tt z) := wX_D hI
                  refine lv_iload hx hb dX3_copy_142 (lv_at hl 5 rfl) ?_
                  have hp : p_copy X (nI 3) (nI frn) (nI 0) (nI to_n) (nI nnn) = (nI (nnn), toH X X.2.2.2.2.2.2.1 X.2.2.2.2.2.2.2.1 (updF X.2.2.2.2.2.2.2.2 0 (va_cpy (X.2.2.2.2.2.2.2.2 3) (X.2.2.2.2.2.2.2.2 0) (frn) (to_n) (nnn)))) := by first | (simp [p_copy, bk, fl_eq, c1, c4, c7, c10, c12, c13, c14, t_s_n, t_t_n, d9, d11, t_frn, t_nnn, t_to_n]; done)
                  refine nv_cv (show nI (nnn) = (p_copy X (nI 3) (nI frn) (nI 0) (nI to_n) (nI nnn)).1 from by rw [hp]) ?_
                  exact mu_iret hx hb hr hlocks hS ((by rw [hp]; exact ⟨_, _, _, _, _, hP⟩)) dX3_copy_144
                · refine lv_aload_n hx hb dX3_copy_116 rfl (lv_at hl 0 rfl) ?_
                  refine va_get (D := D) (ci := 3) (v := .ref (ad 1)) (C := RX3) (T := TX3) (N := 9) hx hb hts hinX3 hown hK hP 0 rfl rfl 5 (by decide) (hts (.fieldLink RX3 35 "OneShort" "sheets" "[LOneShort$Sheet;") (List.mem_of_getElem? (i := 1) rfl)) (fun _ h9 => h9) rfl dX3_copy_117 ?_
                  refine lv_iload_n hx hb dX3_copy_120 rfl (lv_at hl 1 rfl) ?_
                  refine nv_aald (v := .ref (ad (40 + 2 * (3)))) hx hb hK hP 1 1 rfl rfl (by omega) (by decide) rfl dX3_copy_121 ?_
                  refine va_get (D := D) (ci := 1) (v := .ref (ad (40 + 2 * (3) + 1))) (C := RX1) (T := TX1) (N := 3) hx hb hts hinX1 hown hK hP 46 rfl rfl 0 (by decide) (hts (.fieldLink RX3 237 "OneShort$Sheet" "numbers" "[I") (List.mem_of_getElem? (i := 3) rfl)) (fun _ h9 => h9) rfl dX3_copy_122 ?_
                  refine lv_iload_n hx hb dX3_copy_125 rfl (lv_at hl 2 rfl) ?_
                  refine lv_aload_n hx hb dX3_copy_126 rfl (lv_at hl 0 rfl) ?_
                  refine va_get (D := D) (ci := 3) (v := .ref (ad 1)) (C := RX3) (T := TX3) (N := 9) hx hb hts hinX3 hown hK hP 0 rfl rfl 5 (by decide) (hts (.fieldLink RX3 35 "OneShort" "sheets" "[LOneShort$Sheet;") (List.mem_of_getElem? (i := 1) rfl)) (fun _ h9 => h9) rfl dX3_copy_127 ?_
                  refine lv_iload_n hx hb dX3_copy_130 rfl (lv_at hl 3 rfl) ?_
                  refine nv_aald (v := .ref (ad (40 + 2 * (1)))) hx hb hK hP 1 1 rfl rfl (by omega) (by decide) rfl dX3_copy_131 ?_
                  refine va_get (D := D) (ci := 1) (v := .ref (ad (40 + 2 * (1) + 1))) (C := RX1) (T := TX1) (N := 3) hx hb hts hinX1 hown hK hP 42 rfl rfl 0 (by decide) (hts (.fieldLink RX3 237 "OneShort$Sheet" "numbers" "[I") (List.mem_of_getElem? (i := 3) rfl)) (fun _ h9 => h9) rfl dX3_copy_132 ?_
                  refine lv_iload hx hb dX3_copy_135 (lv_at hl 4 rfl) ?_
                  refine lv_iload hx hb dX3_copy_137 (lv_at hl 5 rfl) ?_
                  refine nv_copy hx hb (hml.trans hl.1.symm) hown (hts (.methodLink RX3 240 arraycopyName) (List.mem_of_getElem? (i := 4) rfl)) (hts (.native arraycopyName) (List.mem_of_getElem? (i := 5) rfl)) (hts (.static arraycopyName) (List.mem_of_getElem? (i := 6) rfl)) (hts (.initialized "java/lang/System") (List.mem_of_getElem? (i := 7) rfl)) hK hP hD hS 47 43 0 rfl rfl rfl (by omega) (by omega) (by decide) (by decide) (Nat.le_of_ble_eq_true rfl) (Nat.le_of_ble_eq_true rfl) dX3_copy_139 (fun H locs hP hD hS => ?_)
                  have hP : va_P D vwCl (wX ci ad (toH X X.2.2.2.2.2.2.1 X.2.2.2.2.2.2.2.1 (updF X.2.2.2.2.2.2.2.2 1 (va_cpy (X.2.2.2.2.2.2.2.2 3) (X.2.2.2.2.2.2.2.2 1) (frn) (to_n) (nnn)))) T tq la tt z) H := hP
                  have hD : va_D (aX ad) (wX ci ad (toH X X.2.2.2.2.2.2.1 X.2.2.2.2.2.2.2.1 (updF X.2.2.2.2.2.2.2.2 1 (va_cpy (X.2.2.2.2.2.2.2.2 3) (X.2.2.2.2.2.2.2.2 1) (frn) (to_n) (nnn)))) T tq la tt z) := wX_D hI
                  refine lv_iload hx hb dX3_copy_142 (lv_at hl 5 rfl) ?_
                  have hp : p_copy X (nI 3) (nI frn) (nI 1) (nI to_n) (nI nnn) = (nI (nnn), toH X X.2.2.2.2.2.2.1 X.2.2.2.2.2.2.2.1 (updF X.2.2.2.2.2.2.2.2 1 (va_cpy (X.2.2.2.2.2.2.2.2 3) (X.2.2.2.2.2.2.2.2 1) (frn) (to_n) (nnn)))) := by first | (simp [p_copy, bk, fl_eq, c1, c4, c7, c10, c12, c13, c14, t_s_n, t_t_n, d9, d11, t_frn, t_nnn, t_to_n]; done)
                  refine nv_cv (show nI (nnn) = (p_copy X (nI 3) (nI frn) (nI 1) (nI to_n) (nI nnn)).1 from by rw [hp]) ?_
                  exact mu_iret hx hb hr hlocks hS ((by rw [hp]; exact ⟨_, _, _, _, _, hP⟩)) dX3_copy_144
                · refine lv_aload_n hx hb dX3_copy_116 rfl (lv_at hl 0 rfl) ?_
                  refine va_get (D := D) (ci := 3) (v := .ref (ad 1)) (C := RX3) (T := TX3) (N := 9) hx hb hts hinX3 hown hK hP 0 rfl rfl 5 (by decide) (hts (.fieldLink RX3 35 "OneShort" "sheets" "[LOneShort$Sheet;") (List.mem_of_getElem? (i := 1) rfl)) (fun _ h9 => h9) rfl dX3_copy_117 ?_
                  refine lv_iload_n hx hb dX3_copy_120 rfl (lv_at hl 1 rfl) ?_
                  refine nv_aald (v := .ref (ad (40 + 2 * (3)))) hx hb hK hP 1 1 rfl rfl (by omega) (by decide) rfl dX3_copy_121 ?_
                  refine va_get (D := D) (ci := 1) (v := .ref (ad (40 + 2 * (3) + 1))) (C := RX1) (T := TX1) (N := 3) hx hb hts hinX1 hown hK hP 46 rfl rfl 0 (by decide) (hts (.fieldLink RX3 237 "OneShort$Sheet" "numbers" "[I") (List.mem_of_getElem? (i := 3) rfl)) (fun _ h9 => h9) rfl dX3_copy_122 ?_
                  refine lv_iload_n hx hb dX3_copy_125 rfl (lv_at hl 2 rfl) ?_
                  refine lv_aload_n hx hb dX3_copy_126 rfl (lv_at hl 0 rfl) ?_
                  refine va_get (D := D) (ci := 3) (v := .ref (ad 1)) (C := RX3) (T := TX3) (N := 9) hx hb hts hinX3 hown hK hP 0 rfl rfl 5 (by decide) (hts (.fieldLink RX3 35 "OneShort" "sheets" "[LOneShort$Sheet;") (List.mem_of_getElem? (i := 1) rfl)) (fun _ h9 => h9) rfl dX3_copy_127 ?_
                  refine lv_iload_n hx hb dX3_copy_130 rfl (lv_at hl 3 rfl) ?_
                  refine nv_aald (v := .ref (ad (40 + 2 * (2)))) hx hb hK hP 1 1 rfl rfl (by omega) (by decide) rfl dX3_copy_131 ?_
                  refine va_get (D := D) (ci := 1) (v := .ref (ad (40 + 2 * (2) + 1))) (C := RX1) (T := TX1) (N := 3) hx hb hts hinX1 hown hK hP 44 rfl rfl 0 (by decide) (hts (.fieldLink RX3 237 "OneShort$Sheet" "numbers" "[I") (List.mem_of_getElem? (i := 3) rfl)) (fun _ h9 => h9) rfl dX3_copy_132 ?_
                  refine lv_iload hx hb dX3_copy_135 (lv_at hl 4 rfl) ?_
                  refine lv_iload hx hb dX3_copy_137 (lv_at hl 5 rfl) ?_
                  refine nv_copy hx hb (hml.trans hl.1.symm) hown (hts (.methodLink RX3 240 arraycopyName) (List.mem_of_getElem? (i := 4) rfl)) (hts (.native arraycopyName) (List.mem_of_getElem? (i := 5) rfl)) (hts (.static arraycopyName) (List.mem_of_getElem? (i := 6) rfl)) (hts (.initialized "java/lang/System") (List.mem_of_getElem? (i := 7) rfl)) hK hP hD hS 47 45 0 rfl rfl rfl (by omega) (by omega) (by decide) (by decide) (Nat.le_of_ble_eq_true rfl) (Nat.le_of_ble_eq_true rfl) dX3_copy_139 (fun H locs hP hD hS => ?_)
                  have hP : va_P D vwCl (wX ci ad (toH X X.2.2.2.2.2.2.1 X.2.2.2.2.2.2.2.1 (updF X.2.2.2.2.2.2.2.2 2 (va_cpy (X.2.2.2.2.2.2.2.2 3) (X.2.2.2.2.2.2.2.2 2) (frn) (to_n) (nnn)))) T tq la tt z) H := hP
                  have hD : va_D (aX ad) (wX ci ad (toH X X.2.2.2.2.2.2.1 X.2.2.2.2.2.2.2.1 (updF X.2.2.2.2.2.2.2.2 2 (va_cpy (X.2.2.2.2.2.2.2.2 3) (X.2.2.2.2.2.2.2.2 2) (frn) (to_n) (nnn)))) T tq la tt z) := wX_D hI
                  refine lv_iload hx hb dX3_copy_142 (lv_at hl 5 rfl) ?_
                  have hp : p_copy X (nI 3) (nI frn) (nI 2) (nI to_n) (nI nnn) = (nI (nnn), toH X X.2.2.2.2.2.2.1 X.2.2.2.2.2.2.2.1 (updF X.2.2.2.2.2.2.2.2 2 (va_cpy (X.2.2.2.2.2.2.2.2 3) (X.2.2.2.2.2.2.2.2 2) (frn) (to_n) (nnn)))) := by first | (simp [p_copy, bk, fl_eq, c1, c4, c7, c10, c12, c13, c14, t_s_n, t_t_n, d9, d11, t_frn, t_nnn, t_to_n]; done)
                  refine nv_cv (show nI (nnn) = (p_copy X (nI 3) (nI frn) (nI 2) (nI to_n) (nI nnn)).1 from by rw [hp]) ?_
                  exact mu_iret hx hb hr hlocks hS ((by rw [hp]; exact ⟨_, _, _, _, _, hP⟩)) dX3_copy_144
                · refine lv_aload_n hx hb dX3_copy_116 rfl (lv_at hl 0 rfl) ?_
                  refine va_get (D := D) (ci := 3) (v := .ref (ad 1)) (C := RX3) (T := TX3) (N := 9) hx hb hts hinX3 hown hK hP 0 rfl rfl 5 (by decide) (hts (.fieldLink RX3 35 "OneShort" "sheets" "[LOneShort$Sheet;") (List.mem_of_getElem? (i := 1) rfl)) (fun _ h9 => h9) rfl dX3_copy_117 ?_
                  refine lv_iload_n hx hb dX3_copy_120 rfl (lv_at hl 1 rfl) ?_
                  refine nv_aald (v := .ref (ad (40 + 2 * (3)))) hx hb hK hP 1 1 rfl rfl (by omega) (by decide) rfl dX3_copy_121 ?_
                  refine va_get (D := D) (ci := 1) (v := .ref (ad (40 + 2 * (3) + 1))) (C := RX1) (T := TX1) (N := 3) hx hb hts hinX1 hown hK hP 46 rfl rfl 0 (by decide) (hts (.fieldLink RX3 237 "OneShort$Sheet" "numbers" "[I") (List.mem_of_getElem? (i := 3) rfl)) (fun _ h9 => h9) rfl dX3_copy_122 ?_
                  refine lv_iload_n hx hb dX3_copy_125 rfl (lv_at hl 2 rfl) ?_
                  refine lv_aload_n hx hb dX3_copy_126 rfl (lv_at hl 0 rfl) ?_
                  refine va_get (D := D) (ci := 3) (v := .ref (ad 1)) (C := RX3) (T := TX3) (N := 9) hx hb hts hinX3 hown hK hP 0 rfl rfl 5 (by decide) (hts (.fieldLink RX3 35 "OneShort" "sheets" "[LOneShort$Sheet;") (List.mem_of_getElem? (i := 1) rfl)) (fun _ h9 => h9) rfl dX3_copy_127 ?_
                  refine lv_iload_n hx hb dX3_copy_130 rfl (lv_at hl 3 rfl) ?_
                  refine nv_aald (v := .ref (ad (40 + 2 * (3)))) hx hb hK hP 1 1 rfl rfl (by omega) (by decide) rfl dX3_copy_131 ?_
                  refine va_get (D := D) (ci := 1) (v := .ref (ad (40 + 2 * (3) + 1))) (C := RX1) (T := TX1) (N := 3) hx hb hts hinX1 hown hK hP 46 rfl rfl 0 (by decide) (hts (.fieldLink RX3 237 "OneShort$Sheet" "numbers" "[I") (List.mem_of_getElem? (i := 3) rfl)) (fun _ h9 => h9) rfl dX3_copy_132 ?_
                  refine lv_iload hx hb dX3_copy_135 (lv_at hl 4 rfl) ?_
                  refine lv_iload hx hb dX3_copy_137 (lv_at hl 5 rfl) ?_
                  refine nv_copy hx hb (hml.trans hl.1.symm) hown (hts (.methodLink RX3 240 arraycopyName) (List.mem_of_getElem? (i := 4) rfl)) (hts (.native arraycopyName) (List.mem_of_getElem? (i := 5) rfl)) (hts (.static arraycopyName) (List.mem_of_getElem? (i := 6) rfl)) (hts (.initialized "java/lang/System") (List.mem_of_getElem? (i := 7) rfl)) hK hP hD hS 47 47 0 rfl rfl rfl (by omega) (by omega) (by decide) (by decide) (Nat.le_of_ble_eq_true rfl) (Nat.le_of_ble_eq_true rfl) dX3_copy_139 (fun H locs hP hD hS => ?_)
                  have hP : va_P D vwCl (wX ci ad (toH X X.2.2.2.2.2.2.1 X.2.2.2.2.2.2.2.1 (updF X.2.2.2.2.2.2.2.2 3 (va_cpy (X.2.2.2.2.2.2.2.2 3) (X.2.2.2.2.2.2.2.2 3) (frn) (to_n) (nnn)))) T tq la tt z) H := hP
                  have hD : va_D (aX ad) (wX ci ad (toH X X.2.2.2.2.2.2.1 X.2.2.2.2.2.2.2.1 (updF X.2.2.2.2.2.2.2.2 3 (va_cpy (X.2.2.2.2.2.2.2.2 3) (X.2.2.2.2.2.2.2.2 3) (frn) (to_n) (nnn)))) T tq la tt z) := wX_D hI
                  refine lv_iload hx hb dX3_copy_142 (lv_at hl 5 rfl) ?_
                  have hp : p_copy X (nI 3) (nI frn) (nI 3) (nI to_n) (nI nnn) = (nI (nnn), toH X X.2.2.2.2.2.2.1 X.2.2.2.2.2.2.2.1 (updF X.2.2.2.2.2.2.2.2 3 (va_cpy (X.2.2.2.2.2.2.2.2 3) (X.2.2.2.2.2.2.2.2 3) (frn) (to_n) (nnn)))) := by first | (simp [p_copy, bk, fl_eq, c1, c4, c7, c10, c12, c13, c14, t_s_n, t_t_n, d9, d11, t_frn, t_nnn, t_to_n]; done)
                  refine nv_cv (show nI (nnn) = (p_copy X (nI 3) (nI frn) (nI 3) (nI to_n) (nI nnn)).1 from by rw [hp]) ?_
                  exact mu_iret hx hb hr hlocks hS ((by rw [hp]; exact ⟨_, _, _, _, _, hP⟩)) dX3_copy_144
              · refine lv_aload_n hx hb dX3_copy_110 rfl (lv_at hl 0 rfl) ?_
                refine lv_iconst (v := nI (0)) hx hb dX3_copy_111 (by decide) ?_
                refine mu_V (n := 1) (As := [.int (nI 0)]) (rest := []) ⟨hx, hb, hml, hown, hts⟩ (c_X3_finding l D ci G ka ad X T tq la tt z hI hG (0) hWX (by omega)) gX3_copy_X3_finding rfl ⟨rfl, rfl⟩ (by decide +kernel) rfl ⟨Nat.le_of_ble_eq_true rfl, Nat.le_of_ble_eq_true rfl⟩ hE (en_S hGA hs0 hS) hK hP (ci := 3) (q0 := 0) rfl rfl hl.1 rfl (Nat.le_of_ble_eq_true rfl) dX3_copy_112 ⟨Nat.zero_le _, Nat.zero_le _⟩ hS (fun _ h => h) (fun H1 locs hz hfr hB hS => ?_)
                obtain ⟨T, tq, la, tt, z, hP⟩ := hB
                generalize H1 = H at hP hS ⊢
                have hD : va_D (aX ad) (wX ci ad (toF X (inc X.2.2.2.1 0)) T tq la tt z) := wX_D hI
                have hp : p_copy X (nI s_n) (nI frn) (nI t_n) to_ (nI nnn) = (fnd 0, toF X (inc X.2.2.2.1 0)) := by first | (simp [p_copy, bk, fl_eq, c1, c4, c7, c10, c12, c13, c14, t_s_n, t_t_n, d9, d11, t_frn, t_nnn]; done)
                refine nv_cv (show fnd 0 = (p_copy X (nI s_n) (nI frn) (nI t_n) to_ (nI nnn)).1 from by rw [hp]) ?_
                exact mu_iret hx hb hr hlocks hS ((by rw [hp]; exact ⟨_, _, _, _, _, hP⟩)) dX3_copy_115
          · refine lv_aload_n hx hb dX3_copy_73 rfl (lv_at hl 0 rfl) ?_
            refine lv_iconst (v := nI (2)) hx hb dX3_copy_74 (by decide) ?_
            refine mu_V (n := 1) (As := [.int (nI 2)]) (rest := []) ⟨hx, hb, hml, hown, hts⟩ (c_X3_finding l D ci G ka ad X T tq la tt z hI hG (2) hWX (by omega)) gX3_copy_X3_finding rfl ⟨rfl, rfl⟩ (by decide +kernel) rfl ⟨Nat.le_of_ble_eq_true rfl, Nat.le_of_ble_eq_true rfl⟩ hE (en_S hGA hs0 hS) hK hP (ci := 3) (q0 := 0) rfl rfl hl.1 rfl (Nat.le_of_ble_eq_true rfl) dX3_copy_75 ⟨Nat.zero_le _, Nat.zero_le _⟩ hS (fun _ h => h) (fun H1 locs hz hfr hB hS => ?_)
            obtain ⟨T, tq, la, tt, z, hP⟩ := hB
            generalize H1 = H at hP hS ⊢
            have hD : va_D (aX ad) (wX ci ad (toF X (inc X.2.2.2.1 2)) T tq la tt z) := wX_D hI
            have hp : p_copy X (nI s_n) fr (nI t_n) to_ nn = (fnd 2, toF X (inc X.2.2.2.1 2)) := by first | (simp [p_copy, bk, fl_eq, c1, c4, c7, c10, c12, t_s_n, t_t_n, d9, d11]; done)
            refine nv_cv (show fnd 2 = (p_copy X (nI s_n) fr (nI t_n) to_ nn).1 from by rw [hp]) ?_
            exact mu_iret hx hb hr hlocks hS ((by rw [hp]; exact ⟨_, _, _, _, _, hP⟩)) dX3_copy_78
        · have d15 := of_decide_eq_true c10
          refine lv_aload_n hx hb dX3_copy_46 rfl (lv_at hl 0 rfl) ?_
          refine lv_iconst (v := nI (5)) hx hb dX3_copy_47 (by decide) ?_
          refine mu_V (n := 1) (As := [.int (nI 5)]) (rest := []) ⟨hx, hb, hml, hown, hts⟩ (c_X3_finding l D ci G ka ad X T tq la tt z hI hG (5) hWX (by omega)) gX3_copy_X3_finding rfl ⟨rfl, rfl⟩ (by decide +kernel) rfl ⟨Nat.le_of_ble_eq_true rfl, Nat.le_of_ble_eq_true rfl⟩ hE (en_S hGA hs0 hS) hK hP (ci := 3) (q0 := 0) rfl rfl hl.1 rfl (Nat.le_of_ble_eq_true rfl) dX3_copy_48 ⟨Nat.zero_le _, Nat.zero_le _⟩ hS (fun _ h => h) (fun H1 locs hz hfr hB hS => ?_)
          obtain ⟨T, tq, la, tt, z, hP⟩ := hB
          generalize H1 = H at hP hS ⊢
          have hD : va_D (aX ad) (wX ci ad (toF X (inc X.2.2.2.1 5)) T tq la tt z) := wX_D hI
          have hp : p_copy X (nI s_n) fr (nI t_n) to_ nn = (fnd 5, toF X (inc X.2.2.2.1 5)) := by first | (simp [p_copy, bk, fl_eq, c1, c4, c7, c10, t_s_n, t_t_n, d9, d15]; done)
          refine nv_cv (show fnd 5 = (p_copy X (nI s_n) fr (nI t_n) to_ nn).1 from by rw [hp]) ?_
          exact mu_iret hx hb hr hlocks hS ((by rw [hp]; exact ⟨_, _, _, _, _, hP⟩)) dX3_copy_51
    · refine lv_aload_n hx hb dX3_copy_16 rfl (lv_at hl 0 rfl) ?_
      refine lv_iconst (v := nI (0)) hx hb dX3_copy_17 (by decide) ?_
      refine mu_V (n := 1) (As := [.int (nI 0)]) (rest := []) ⟨hx, hb, hml, hown, hts⟩ (c_X3_finding l D ci G ka ad X T tq la tt z hI hG (0) hWX (by omega)) gX3_copy_X3_finding rfl ⟨rfl, rfl⟩ (by decide +kernel) rfl ⟨Nat.le_of_ble_eq_true rfl, Nat.le_of_ble_eq_true rfl⟩ hE (en_S hGA hs0 hS) hK hP (ci := 3) (q0 := 0) rfl rfl hl.1 rfl (Nat.le_of_ble_eq_true rfl) dX3_copy_18 ⟨Nat.zero_le _, Nat.zero_le _⟩ hS (fun _ h => h) (fun H1 locs hz hfr hB hS => ?_)
      obtain ⟨T, tq, la, tt, z, hP⟩ := hB
      generalize H1 = H at hP hS ⊢
      have hD : va_D (aX ad) (wX ci ad (toF X (inc X.2.2.2.1 0)) T tq la tt z) := wX_D hI
      have hp : p_copy X (nI s_n) fr t_ to_ nn = (fnd 0, toF X (inc X.2.2.2.1 0)) := by first | (simp [p_copy, bk, fl_eq, c1, c4, t_s_n]; done)
      refine nv_cv (show fnd 0 = (p_copy X (nI s_n) fr t_ to_ nn).1 from by rw [hp]) ?_
      exact mu_iret hx hb hr hlocks hS ((by rw [hp]; exact ⟨_, _, _, _, _, hP⟩)) dX3_copy_21
