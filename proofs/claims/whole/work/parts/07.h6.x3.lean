/-! walks laid by program -/
set_option maxHeartbeats 4000000 in
set_option maxRecDepth 100000 in
/-- X3_write -/
theorem c_X3_write (l : Launch) (D : va_G) (ci : Nat → ClassId) (G : Nat → Prop) (ka : Nat) (ad : Nat → Nat) (X : AS) (T : OS) (tq la tt : Nat → Int32) (z : Nat → Nat → Int32) (hI : injA ad 48) (hG : ∀ k, k < 48 → G (ad k)) (s_ i_ v : Int32) (hWX : WFX X) : Met l yX3_write wsX3_write ({ frames := 2, cells := 0, slots := 0, locals := 42 } : Room) (va_Pc [.ref (ad 0), .int (s_), .int (i_), .int (v)] (ro_B D (tyL ci) (wX ci ad X T tq la tt z) (en D (ci 0) G ka))) (mu_Q (aX ad) (some (.int ((p_write X s_ i_ v).1))) (fun H => ∃ T tq la tt z, va_P D vwCl (wX ci ad ((p_write X s_ i_ v).2) T tq la tt z) H)) 0 0 (aX ad) := by
  refine mu_Met (cc := cX3_write) (maxL := 5) (ret := (some .int)) [(0, .ref (ad 0)), (1, .int (s_)), (2, .int (i_)), (3, .int (v))] (wX_D hI) (by decide) rfl (Nat.le_of_ble_eq_true rfl) rfl ?_
  intro p e s m below meth c H locs hx hb hml hr hlocks hts hown hP hK hs0 hD hS ls hl
  have hown : s.vm.findClass RX3 = some m.cls := hown
  have hinX1 : ∀ w ∈ wsX10, w ∈ wsX3_write := by decide +kernel
  have hinX3 : ∀ w ∈ wsX30, w ∈ wsX3_write := by decide +kernel
  have hE := hE_en D (ci 0) G ka
  have hWF := hWX.w
  have f_n := hWF.n
  have f_e := hWX.e
  have f_tl := hWX.t
  have hGA := aX_G hG
  have hWK := hWX.k
  refine lv_aload_n hx hb dX3_write_0 rfl (lv_at hl 0 rfl) ?_
  refine lv_iload_n hx hb dX3_write_1 rfl (lv_at hl 1 rfl) ?_
  refine ro_V (n := 1) (As := [.int (s_)]) (rest := []) ⟨hx, hb, hml, hown, hts⟩ (c_X3_lackOf l D ci G ka ad X T tq la tt z (s_) hWX) gX3_write_X3_lackOf rfl ⟨rfl, rfl⟩ (by decide +kernel) rfl ⟨Nat.le_of_ble_eq_true rfl, Nat.le_of_ble_eq_true rfl⟩ hE (en_S hGA hs0 hS) hK hP (ci := 3) (q0 := 0) rfl rfl hl.1 rfl (Nat.le_of_ble_eq_true rfl) dX3_write_2 ⟨Nat.zero_le _, Nat.zero_le _⟩ ?_
  refine lv_istore (lv' := [(4, .int (lk (lackN X s_))), (0, .ref (ad 0)), (1, .int (s_)), (2, .int (i_)), (3, .int (v))]) hx hb dX3_write_5 hl (by decide) rfl (fun ls hl => ?_)
  refine lv_iload hx hb dX3_write_7 (lv_at hl 0 rfl) ?_
  refine lv_iconst (v := -1) hx hb dX3_write_9 (by decide) ?_
  refine lv_icmp_eq (tgt := 20) hx hb dX3_write_10 (by decide) (fun c1 => ?_) (fun c1 => ?_)
  · have q2 := lk_eq c1
    obtain ⟨s_n, h_s_n, h_bs_, rfl⟩ := lack_ok q2
    rw [c1] at hl
    have t_s_n : tn (nI s_n) = s_n := tn_nI (by omega)
    have f3 := hWX.sl s_n
    have f4 := sb_lt hWX s_n
    refine lv_iload_n hx hb dX3_write_20 rfl (lv_at hl 3 rfl) ?_
    refine lv_if_lt (tgt := 37) hx hb dX3_write_21 (by decide) (fun c5 => ?_) (fun c5 => ?_)
    · have i6 : ∀ u9, inN i_ u9 = false := fun u9 => in_f0 c5
      refine lv_aload_n hx hb dX3_write_37 rfl (lv_at hl 1 rfl) ?_
      refine lv_iconst (v := nI (0)) hx hb dX3_write_38 (by decide) ?_
      refine mu_V (n := 1) (As := [.int (nI 0)]) (rest := []) ⟨hx, hb, hml, hown, hts⟩ (c_X3_finding l D ci G ka ad X T tq la tt z hI hG (0) hWX (by omega)) gX3_write_X3_finding rfl ⟨rfl, rfl⟩ (by decide +kernel) rfl ⟨Nat.le_of_ble_eq_true rfl, Nat.le_of_ble_eq_true rfl⟩ hE (en_S hGA hs0 hS) hK hP (ci := 3) (q0 := 0) rfl rfl hl.1 rfl (Nat.le_of_ble_eq_true rfl) dX3_write_39 ⟨Nat.zero_le _, Nat.zero_le _⟩ hS (fun _ h => h) (fun H1 locs hz hfr hB hS => ?_)
      obtain ⟨T, tq, la, tt, z, hP⟩ := hB
      generalize H1 = H at hP hS ⊢
      have hD : va_D (aX ad) (wX ci ad (toF X (inc X.2.2.2.1 0)) T tq la tt z) := wX_D hI
      have hp : p_write X (nI s_n) i_ v = (fnd 0, toF X (inc X.2.2.2.1 0)) := by first | (simp [p_write, bk, fl_eq, c1, c5, q2, t_s_n, h_bs_, i6]; done)
      refine nv_cv (show fnd 0 = (p_write X (nI s_n) i_ v).1 from by rw [hp]) ?_
      exact mu_iret hx hb hr hlocks hS ((by rw [hp]; exact ⟨_, _, _, _, _, hP⟩)) dX3_write_42
    · refine lv_iload_n hx hb dX3_write_24 rfl (lv_at hl 3 rfl) ?_
      refine lv_aload_n hx hb dX3_write_25 rfl (lv_at hl 1 rfl) ?_
      refine va_get (D := D) (ci := 3) (v := .ref (ad 1)) (C := RX3) (T := TX3) (N := 9) hx hb hts hinX3 hown hK hP 0 rfl rfl 5 (by decide) (hts (.fieldLink RX3 35 "OneShort" "sheets" "[LOneShort$Sheet;") (List.mem_of_getElem? (i := 1) rfl)) (fun _ h9 => h9) rfl dX3_write_26 ?_
      refine lv_iload_n hx hb dX3_write_29 rfl (lv_at hl 2 rfl) ?_
      refine nv_aald (v := .ref (ad (40 + 2 * (s_n)))) hx hb hK hP 1 1 rfl rfl (by omega) (by decide) rfl dX3_write_30 ?_
      refine va_get (D := D) (ci := 1) (v := .int (nI (X.2.2.2.2.2.2.2.1 (s_n)))) (C := RX1) (T := TX1) (N := 3) hx hb hts hinX1 hown hK (wX_sh (k := s_n) (by omega) hP) 0 rfl rfl 2 (by decide) (hts (.fieldLink RX3 221 "OneShort$Sheet" "length" "I") (List.mem_of_getElem? (i := 2) rfl)) (fun _ h9 => h9) rfl dX3_write_31 ?_
      refine lv_icmp_lt (tgt := 43) hx hb dX3_write_34 (by decide) (fun c7 => ?_) (fun c7 => ?_)
      · have i8 : inN i_ (X.2.2.2.2.2.2.2.1 (s_n)) = true := in_t2 (by omega) c5 c7
        obtain ⟨i_n, h_i_n, rfl⟩ := in_ex i8 (by omega)
        have t_i_n : tn (nI i_n) = i_n := tn_nI (by omega)
        refine lv_aload_n hx hb dX3_write_43 rfl (lv_at hl 1 rfl) ?_
        refine va_get (D := D) (ci := 3) (v := .ref (ad 1)) (C := RX3) (T := TX3) (N := 9) hx hb hts hinX3 hown hK hP 0 rfl rfl 5 (by decide) (hts (.fieldLink RX3 35 "OneShort" "sheets" "[LOneShort$Sheet;") (List.mem_of_getElem? (i := 1) rfl)) (fun _ h9 => h9) rfl dX3_write_44 ?_
        refine lv_iload_n hx hb dX3_write_47 rfl (lv_at hl 2 rfl) ?_
        refine nv_aald (v := .ref (ad (40 + 2 * (s_n)))) hx hb hK hP 1 1 rfl rfl (by omega) (by decide) rfl dX3_write_48 ?_
        refine lv_iload_n hx hb dX3_write_49 rfl (lv_at hl 3 rfl) ?_
        refine lv_iload_n hx hb dX3_write_50 rfl (lv_at hl 4 rfl) ?_
        refine mu_V (n := 2) (As := [.int (nI i_n), .int (v)]) (rest := []) ⟨hx, hb, hml, hown, hts⟩ (c_X1_set l D ci G ka (sh ad (40 + 2 * (s_n))) (X.2.2.2.2.2.2.1 (s_n)) (X.2.2.2.2.2.2.2.1 (s_n)) (X.2.2.2.2.2.2.2.2 (s_n)) (injA_sh2 hI (by omega)) (G_sh2 hG (by omega)) (i_n) (v) (by omega) (by omega)) gX3_write_X1_set rfl ⟨rfl, rfl⟩ (by decide +kernel) rfl ⟨Nat.le_of_ble_eq_true rfl, Nat.le_of_ble_eq_true rfl⟩ hE (en_S hGA hs0 hS) hK (wX_sh (k := s_n) (by omega) hP) (ci := 1) (q0 := 0) rfl rfl hl.1 rfl (Nat.le_of_ble_eq_true rfl) dX3_write_51 ⟨Nat.zero_le _, Nat.zero_le _⟩ hS (fun q h => aR_X (by omega) q (aT_sh q h)) (fun H1 locs hz hfr hB hS => ?_)
        have hP := wX_jS hI (k := s_n) (by omega) hP hfr hB
        generalize H1 = H at hP hS ⊢
        have hD : va_D (aX ad) (wX ci ad (toH X (updF X.2.2.2.2.2.2.1 (s_n) ((X.2.2.2.2.2.2.1 (s_n)))) (updF X.2.2.2.2.2.2.2.1 (s_n) ((X.2.2.2.2.2.2.2.1 (s_n)))) (updF X.2.2.2.2.2.2.2.2 (s_n) ((upd (X.2.2.2.2.2.2.2.2 (s_n)) i_n (cutN (X.2.2.2.2.2.2.1 (s_n)) v))))) T tq la tt z) := wX_D hI
        refine lv_iconst (v := nI (1)) hx hb dX3_write_54 (by decide) ?_
        have hp : p_write X (nI s_n) (nI i_n) v = (nI (1), toH X (updF X.2.2.2.2.2.2.1 (s_n) ((X.2.2.2.2.2.2.1 (s_n)))) (updF X.2.2.2.2.2.2.2.1 (s_n) ((X.2.2.2.2.2.2.2.1 (s_n)))) (updF X.2.2.2.2.2.2.2.2 (s_n) ((upd (X.2.2.2.2.2.2.2.2 (s_n)) i_n (cutN (X.2.2.2.2.2.2.1 (s_n)) v))))) := by first | (simp [p_write, bk, fl_eq, c1, c5, c7, q2, t_s_n, h_bs_, i8, t_i_n]; done)
        refine nv_cv (show nI (1) = (p_write X (nI s_n) (nI i_n) v).1 from by rw [hp]) ?_
        exact mu_iret hx hb hr hlocks hS ((by rw [hp]; exact ⟨_, _, _, _, _, hP⟩)) dX3_write_55
      · have i9 : inN i_ (X.2.2.2.2.2.2.2.1 (s_n)) = false := in_f2 (by omega) c7
        refine lv_aload_n hx hb dX3_write_37 rfl (lv_at hl 1 rfl) ?_
        refine lv_iconst (v := nI (0)) hx hb dX3_write_38 (by decide) ?_
        refine mu_V (n := 1) (As := [.int (nI 0)]) (rest := []) ⟨hx, hb, hml, hown, hts⟩ (c_X3_finding l D ci G ka ad X T tq la tt z hI hG (0) hWX (by omega)) gX3_write_X3_finding rfl ⟨rfl, rfl⟩ (by decide +kernel) rfl ⟨Nat.le_of_ble_eq_true rfl, Nat.le_of_ble_eq_true rfl⟩ hE (en_S hGA hs0 hS) hK hP (ci := 3) (q0 := 0) rfl rfl hl.1 rfl (Nat.le_of_ble_eq_true rfl) dX3_write_39 ⟨Nat.zero_le _, Nat.zero_le _⟩ hS (fun _ h => h) (fun H1 locs hz hfr hB hS => ?_)
        obtain ⟨T, tq, la, tt, z, hP⟩ := hB
        generalize H1 = H at hP hS ⊢
        have hD : va_D (aX ad) (wX ci ad (toF X (inc X.2.2.2.1 0)) T tq la tt z) := wX_D hI
        have hp : p_write X (nI s_n) i_ v = (fnd 0, toF X (inc X.2.2.2.1 0)) := by first | (simp [p_write, bk, fl_eq, c1, c5, c7, q2, t_s_n, h_bs_, i9]; done)
        refine nv_cv (show fnd 0 = (p_write X (nI s_n) i_ v).1 from by rw [hp]) ?_
        exact mu_iret hx hb hr hlocks hS ((by rw [hp]; exact ⟨_, _, _, _, _, hP⟩)) dX3_write_42
  · have q10 := lk_ne c1
    have e11 := lk_nI q10
    rw [e11] at hl
    have f12 := lack_lt q10
    refine lv_aload_n hx hb dX3_write_13 rfl (lv_at hl 1 rfl) ?_
    refine lv_iload hx hb dX3_write_14 (lv_at hl 0 rfl) ?_
    refine mu_V (n := 1) (As := [.int (nI (lackN X s_))]) (rest := []) ⟨hx, hb, hml, hown, hts⟩ (c_X3_finding l D ci G ka ad X T tq la tt z hI hG (lackN X s_) hWX (by omega)) gX3_write_X3_finding rfl ⟨rfl, rfl⟩ (by decide +kernel) rfl ⟨Nat.le_of_ble_eq_true rfl, Nat.le_of_ble_eq_true rfl⟩ hE (en_S hGA hs0 hS) hK hP (ci := 3) (q0 := 0) rfl rfl hl.1 rfl (Nat.le_of_ble_eq_true rfl) dX3_write_16 ⟨Nat.zero_le _, Nat.zero_le _⟩ hS (fun _ h => h) (fun H1 locs hz hfr hB hS => ?_)
    obtain ⟨T, tq, la, tt, z, hP⟩ := hB
    generalize H1 = H at hP hS ⊢
    have hD : va_D (aX ad) (wX ci ad (toF X (inc X.2.2.2.1 (lackN X s_))) T tq la tt z) := wX_D hI
    have hp : p_write X s_ i_ v = (fnd (lackN X s_), toF X (inc X.2.2.2.1 (lackN X s_))) := by first | (simp [p_write, bk, fl_eq, c1, q10]; done)
    refine nv_cv (show fnd (lackN X s_) = (p_write X s_ i_ v).1 from by rw [hp]) ?_
    exact mu_iret hx hb hr hlocks hS ((by rw [hp]; exact ⟨_, _, _, _, _, hP⟩)) dX3_write_19
