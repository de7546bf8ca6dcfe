/-! walks laid by program -/
set_option maxHeartbeats 4000000 in
set_option maxRecDepth 100000 in
/-- X3_as -/
theorem c_X3_as (l : Launch) (D : va_G) (ci : Nat → ClassId) (G : Nat → Prop) (ka : Nat) (ad : Nat → Nat) (X : AS) (T : OS) (tq la tt : Nat → Int32) (z : Nat → Nat → Int32) (hI : injA ad 48) (hG : ∀ k, k < 48 → G (ad k)) (sv k : Int32) (hWX : WFX X) : Met l yX3_as wsX3_as ({ frames := 1, cells := 0, slots := 0, locals := 24 } : Room) (va_Pc [.ref (ad 0), .int (sv), .int (k)] (ro_B D (tyL ci) (wX ci ad X T tq la tt z) (en D (ci 0) G ka))) (mu_Q (aX ad) (some (.int ((p_as X sv k).1))) (fun H => ∃ T tq la tt z, va_P D vwCl (wX ci ad ((p_as X sv k).2) T tq la tt z) H)) 0 0 (aX ad) := by
  refine mu_Met (cc := cX3_as) (maxL := 4) (ret := (some .int)) [(0, .ref (ad 0)), (1, .int (sv)), (2, .int (k))] (wX_D hI) (by decide) rfl (Nat.le_of_ble_eq_true rfl) rfl ?_
  intro p e s m below meth c H locs hx hb hml hr hlocks hts hown hP hK hs0 hD hS ls hl
  have hown : s.vm.findClass RX3 = some m.cls := hown
  have hinX0 : ∀ w ∈ wsX00, w ∈ wsX3_as := by decide +kernel
  have hinX3 : ∀ w ∈ wsX30, w ∈ wsX3_as := by decide +kernel
  have hE := hE_en D (ci 0) G ka
  have hWF := hWX.w
  have f_n := hWF.n
  have f_e := hWX.e
  have f_tl := hWX.t
  have hGA := aX_G hG
  have hWK := hWX.k
  refine lv_aload_n hx hb dX3_as_0 rfl (lv_at hl 0 rfl) ?_
  refine lv_iload_n hx hb dX3_as_1 rfl (lv_at hl 1 rfl) ?_
  refine ro_V (n := 1) (As := [.int (sv)]) (rest := []) ⟨hx, hb, hml, hown, hts⟩ (c_X3_isSpot l D ci G ka ad X T tq la tt z (sv) hWX) gX3_as_X3_isSpot rfl ⟨rfl, rfl⟩ (by decide +kernel) rfl ⟨Nat.le_of_ble_eq_true rfl, Nat.le_of_ble_eq_true rfl⟩ hE (en_S hGA hs0 hS) hK hP (ci := 3) (q0 := 0) rfl rfl hl.1 rfl (Nat.le_of_ble_eq_true rfl) dX3_as_2 ⟨Nat.zero_le _, Nat.zero_le _⟩ ?_
  refine nv_ifeq_b (tgt := 16) hx hb dX3_as_5 (by decide) (fun c1 => ?_) (fun c1 => ?_)
  · refine lv_aload_n hx hb dX3_as_16 rfl (lv_at hl 0 rfl) ?_
    refine lv_iconst (v := nI (0)) hx hb dX3_as_17 (by decide) ?_
    refine mu_V (n := 1) (As := [.int (nI 0)]) (rest := []) ⟨hx, hb, hml, hown, hts⟩ (c_X3_finding l D ci G ka ad X T tq la tt z hI hG (0) hWX (by omega)) gX3_as_X3_finding rfl ⟨rfl, rfl⟩ (by decide +kernel) rfl ⟨Nat.le_of_ble_eq_true rfl, Nat.le_of_ble_eq_true rfl⟩ hE (en_S hGA hs0 hS) hK hP (ci := 3) (q0 := 0) rfl rfl hl.1 rfl (Nat.le_of_ble_eq_true rfl) dX3_as_18 ⟨Nat.zero_le _, Nat.zero_le _⟩ hS (fun _ h => h) (fun H1 locs hz hfr hB hS => ?_)
    obtain ⟨T, tq, la, tt, z, hP⟩ := hB
    generalize H1 = H at hP hS ⊢
    have hD : va_D (aX ad) (wX ci ad (toF X (inc X.2.2.2.1 0)) T tq la tt z) := wX_D hI
    have hp : p_as X sv k = (fnd 0, toF X (inc X.2.2.2.1 0)) := by first | (simp [p_as, bk, fl_eq, c1]; done) | ((simp [p_as, bk, fl_eq, c1] <;> omega); done)
    refine nv_cv (show fnd 0 = (p_as X sv k).1 from by rw [hp]) ?_
    exact mu_iret hx hb hr hlocks hS ((by rw [hp]; exact ⟨_, _, _, _, _, hP⟩)) dX3_as_21
  · obtain ⟨svn, h_svn, rfl⟩ := in_ex c1 (by omega)
    have t_svn : tn (nI svn) = svn := tn_nI (by omega)
    refine lv_aload_n hx hb dX3_as_8 rfl (lv_at hl 0 rfl) ?_
    refine lv_iload_n hx hb dX3_as_9 rfl (lv_at hl 2 rfl) ?_
    refine ro_V (n := 1) (As := [.int (k)]) (rest := []) ⟨hx, hb, hml, hown, hts⟩ (c_X3_isKind l D ci G ka ad X T tq la tt z (k) hWX) gX3_as_X3_isKind rfl ⟨rfl, rfl⟩ (by decide +kernel) rfl ⟨Nat.le_of_ble_eq_true rfl, Nat.le_of_ble_eq_true rfl⟩ hE (en_S hGA hs0 hS) hK hP (ci := 3) (q0 := 0) rfl rfl hl.1 rfl (Nat.le_of_ble_eq_true rfl) dX3_as_10 ⟨Nat.zero_le _, Nat.zero_le _⟩ ?_
    refine nv_ifne_b (tgt := 22) hx hb dX3_as_13 (by decide) (fun c2 => ?_) (fun c2 => ?_)
    · obtain ⟨kn, h_kn, rfl⟩ := in_ex c2 (by omega)
      have t_kn : tn (nI kn) = kn := tn_nI (by omega)
      refine lv_aload_n hx hb dX3_as_22 rfl (lv_at hl 0 rfl) ?_
      refine va_get (D := D) (ci := 3) (v := .ref (ad 5)) (C := RX3) (T := TX3) (N := 9) hx hb hts hinX3 hown hK hP 0 rfl rfl 0 (by decide) (hts (.fieldLink RX3 10 "OneShort" "orchestra" "LOneShort$Orchestra;") (List.mem_of_getElem? (i := 1) rfl)) (fun _ h9 => h9) rfl dX3_as_23 ?_
      refine va_get (D := D) (ci := 0) (v := .ref (ad 12)) (C := RX0) (T := TX0) (N := 13) hx hb hts hinX0 hown hK hP 5 rfl rfl 6 (by decide) (hts (.fieldLink RX3 209 "OneShort$Orchestra" "spots" "[I") (List.mem_of_getElem? (i := 2) rfl)) (fun _ h9 => h9) rfl dX3_as_26 ?_
      refine lv_iload_n hx hb dX3_as_29 rfl (lv_at hl 1 rfl) ?_
      have f3 := hWF.f6 (svn)
      refine nv_iald (v := nI (X.1 6 (svn)) - nI (1)) hx hb hK hP 12 0 rfl rfl (by omega) (by decide) rfl dX3_as_30 ?_
      refine lv_istore_n (lv' := [(3, .int (nI (X.1 6 (svn)) - nI (1))), (0, .ref (ad 0)), (1, .int (nI svn)), (2, .int (nI kn))]) hx hb dX3_as_31 rfl hl (by decide) rfl (fun ls hl => ?_)
      refine lv_aload_n hx hb dX3_as_32 rfl (lv_at hl 1 rfl) ?_
      refine lv_iload_n hx hb dX3_as_33 rfl (lv_at hl 0 rfl) ?_
      refine ro_V (n := 1) (As := [.int (nI (X.1 6 (svn)) - nI (1))]) (rest := []) ⟨hx, hb, hml, hown, hts⟩ (c_X3_isPlayer l D ci G ka ad X T tq la tt z (nI (X.1 6 (svn)) - nI (1)) hWX) gX3_as_X3_isPlayer rfl ⟨rfl, rfl⟩ (by decide +kernel) rfl ⟨Nat.le_of_ble_eq_true rfl, Nat.le_of_ble_eq_true rfl⟩ hE (en_S hGA hs0 hS) hK hP (ci := 3) (q0 := 0) rfl rfl hl.1 rfl (Nat.le_of_ble_eq_true rfl) dX3_as_34 ⟨Nat.zero_le _, Nat.zero_le _⟩ ?_
      refine nv_ifne_b (tgt := 46) hx hb dX3_as_37 (by decide) (fun c4 => ?_) (fun c4 => ?_)
      · have d5 : 0 < X.1 6 (svn) := by
          rw [spot_in (hWF.f6 svn) f_n] at c4
          simpa using c4
        have e6 : nI (X.1 6 (svn)) - nI 1 = nI (X.1 6 (svn) - 1) := pk_sub d5
        rw [e6] at hl
        have f7 := hWF.f6 svn
        refine lv_aload_n hx hb dX3_as_46 rfl (lv_at hl 1 rfl) ?_
        refine va_get (D := D) (ci := 3) (v := .ref (ad 5)) (C := RX3) (T := TX3) (N := 9) hx hb hts hinX3 hown hK hP 0 rfl rfl 0 (by decide) (hts (.fieldLink RX3 10 "OneShort" "orchestra" "LOneShort$Orchestra;") (List.mem_of_getElem? (i := 1) rfl)) (fun _ h9 => h9) rfl dX3_as_47 ?_
        refine lv_iload_n hx hb dX3_as_50 rfl (lv_at hl 0 rfl) ?_
        refine lv_iload_n hx hb dX3_as_51 rfl (lv_at hl 3 rfl) ?_
        refine ro_V (n := 2) (As := [.int (nI ((X.1 6 (svn) - 1))), .int (nI kn)]) (rest := []) ⟨hx, hb, hml, hown, hts⟩ (c_X0_isOne l D ci G ka (sh ad 5) X.1 (z 0) (z 1) (z 2) ((X.1 6 (svn) - 1)) (kn) hWF (by omega) (by omega)) gX3_as_X0_isOne rfl ⟨rfl, rfl⟩ (by decide +kernel) rfl ⟨Nat.le_of_ble_eq_true rfl, Nat.le_of_ble_eq_true rfl⟩ hE (en_S hGA hs0 hS) hK (wX_s5 hP) (ci := 0) (q0 := 0) rfl rfl hl.1 rfl (Nat.le_of_ble_eq_true rfl) dX3_as_52 ⟨Nat.zero_le _, Nat.zero_le _⟩ ?_
        refine nv_ifeq_b (tgt := 62) hx hb dX3_as_55 (by decide) (fun c8 => ?_) (fun c8 => ?_)
        · refine lv_aload_n hx hb dX3_as_62 rfl (lv_at hl 1 rfl) ?_
          refine lv_iconst (v := nI (2)) hx hb dX3_as_63 (by decide) ?_
          refine mu_V (n := 1) (As := [.int (nI 2)]) (rest := []) ⟨hx, hb, hml, hown, hts⟩ (c_X3_finding l D ci G ka ad X T tq la tt z hI hG (2) hWX (by omega)) gX3_as_X3_finding rfl ⟨rfl, rfl⟩ (by decide +kernel) rfl ⟨Nat.le_of_ble_eq_true rfl, Nat.le_of_ble_eq_true rfl⟩ hE (en_S hGA hs0 hS) hK hP (ci := 3) (q0 := 0) rfl rfl hl.1 rfl (Nat.le_of_ble_eq_true rfl) dX3_as_64 ⟨Nat.zero_le _, Nat.zero_le _⟩ hS (fun _ h => h) (fun H1 locs hz hfr hB hS => ?_)
          obtain ⟨T, tq, la, tt, z, hP⟩ := hB
          generalize H1 = H at hP hS ⊢
          have hD : va_D (aX ad) (wX ci ad (toF X (inc X.2.2.2.1 2)) T tq la tt z) := wX_D hI
          have hp : p_as X (nI svn) (nI kn) = (fnd 2, toF X (inc X.2.2.2.1 2)) := by first | (simp [p_as, bk, fl_eq, c1, c2, Nat.lt_irrefl, c8, t_svn, t_kn, d5]; done) | ((simp [p_as, bk, fl_eq, c1, c2, Nat.lt_irrefl, c8, t_svn, t_kn, d5] <;> omega); done)
          refine nv_cv (show fnd 2 = (p_as X (nI svn) (nI kn)).1 from by rw [hp]) ?_
          exact mu_iret hx hb hr hlocks hS ((by rw [hp]; exact ⟨_, _, _, _, _, hP⟩)) dX3_as_67
        · refine lv_iload_n hx hb dX3_as_58 rfl (lv_at hl 0 rfl) ?_
          refine lv_goto (tgt := 67) hx hb dX3_as_59 (by decide) ?_
          have hp : p_as X (nI svn) (nI kn) = (nI ((X.1 6 (svn) - 1)), X) := by first | (simp [p_as, bk, fl_eq, c1, c2, Nat.lt_irrefl, c8, t_svn, t_kn, d5]; done) | ((simp [p_as, bk, fl_eq, c1, c2, Nat.lt_irrefl, c8, t_svn, t_kn, d5] <;> omega); done)
          refine nv_cv (show nI ((X.1 6 (svn) - 1)) = (p_as X (nI svn) (nI kn)).1 from by rw [hp]) ?_
          exact mu_iret hx hb hr hlocks hS ((by rw [hp]; exact ⟨_, _, _, _, _, hP⟩)) dX3_as_67
      · have d9 : ¬ 0 < X.1 6 svn := by
          rw [spot_in (hWF.f6 svn) f_n] at c4
          simpa using c4
        refine lv_aload_n hx hb dX3_as_40 rfl (lv_at hl 1 rfl) ?_
        refine lv_iconst (v := nI (5)) hx hb dX3_as_41 (by decide) ?_
        refine mu_V (n := 1) (As := [.int (nI 5)]) (rest := []) ⟨hx, hb, hml, hown, hts⟩ (c_X3_finding l D ci G ka ad X T tq la tt z hI hG (5) hWX (by omega)) gX3_as_X3_finding rfl ⟨rfl, rfl⟩ (by decide +kernel) rfl ⟨Nat.le_of_ble_eq_true rfl, Nat.le_of_ble_eq_true rfl⟩ hE (en_S hGA hs0 hS) hK hP (ci := 3) (q0 := 0) rfl rfl hl.1 rfl (Nat.le_of_ble_eq_true rfl) dX3_as_42 ⟨Nat.zero_le _, Nat.zero_le _⟩ hS (fun _ h => h) (fun H1 locs hz hfr hB hS => ?_)
        obtain ⟨T, tq, la, tt, z, hP⟩ := hB
        generalize H1 = H at hP hS ⊢
        have hD : va_D (aX ad) (wX ci ad (toF X (inc X.2.2.2.1 5)) T tq la tt z) := wX_D hI
        have hp : p_as X (nI svn) (nI kn) = (fnd 5, toF X (inc X.2.2.2.1 5)) := by first | (simp [p_as, bk, fl_eq, c1, c2, Nat.lt_irrefl, t_svn, t_kn, d9]; done) | ((simp [p_as, bk, fl_eq, c1, c2, Nat.lt_irrefl, t_svn, t_kn, d9] <;> omega); done)
        refine nv_cv (show fnd 5 = (p_as X (nI svn) (nI kn)).1 from by rw [hp]) ?_
        exact mu_iret hx hb hr hlocks hS ((by rw [hp]; exact ⟨_, _, _, _, _, hP⟩)) dX3_as_45
    · refine lv_aload_n hx hb dX3_as_16 rfl (lv_at hl 0 rfl) ?_
      refine lv_iconst (v := nI (0)) hx hb dX3_as_17 (by decide) ?_
      refine mu_V (n := 1) (As := [.int (nI 0)]) (rest := []) ⟨hx, hb, hml, hown, hts⟩ (c_X3_finding l D ci G ka ad X T tq la tt z hI hG (0) hWX (by omega)) gX3_as_X3_finding rfl ⟨rfl, rfl⟩ (by decide +kernel) rfl ⟨Nat.le_of_ble_eq_true rfl, Nat.le_of_ble_eq_true rfl⟩ hE (en_S hGA hs0 hS) hK hP (ci := 3) (q0 := 0) rfl rfl hl.1 rfl (Nat.le_of_ble_eq_true rfl) dX3_as_18 ⟨Nat.zero_le _, Nat.zero_le _⟩ hS (fun _ h => h) (fun H1 locs hz hfr hB hS => ?_)
      obtain ⟨T, tq, la, tt, z, hP⟩ := hB
      generalize H1 = H at hP hS ⊢
      have hD : va_D (aX ad) (wX ci ad (toF X (inc X.2.2.2.1 0)) T tq la tt z) := wX_D hI
      have hp : p_as X (nI svn) k = (fnd 0, toF X (inc X.2.2.2.1 0)) := by first | (simp [p_as, bk, fl_eq, c1, c2, t_svn]; done) | ((simp [p_as, bk, fl_eq, c1, c2, t_svn] <;> omega); done)
      refine nv_cv (show fnd 0 = (p_as X (nI svn) k).1 from by rw [hp]) ?_
      exact mu_iret hx hb hr hlocks hS ((by rw [hp]; exact ⟨_, _, _, _, _, hP⟩)) dX3_as_21
