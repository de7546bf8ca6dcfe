/-! walks laid by program -/
set_option maxHeartbeats 4000000 in
set_option maxRecDepth 100000 in
/-- X3_fits -/
theorem c_X3_fits (l : Launch) (D : va_G) (ci : Nat → ClassId) (G : Nat → Prop) (ka : Nat) (ad : Nat → Nat) (X : AS) (T : OS) (tq la tt : Nat → Int32) (z : Nat → Nat → Int32) (hI : injA ad 48) (hG : ∀ k, k < 48 → G (ad k)) (s_ q : Int32) (hWX : WFX X) : Met l yX3_fits wsX3_fits ({ frames := 6, cells := 0, slots := 0, locals := 159 } : Room) (va_Pc [.ref (ad 0), .int (s_), .int (q)] (ro_B D (tyL ci) (wX ci ad X T tq la tt z) (en D (ci 0) G ka))) (mu_Q (aX ad) (some (.int ((p_fits X s_ q).1))) (fun H => ∃ T tq la tt z, va_P D vwCl (wX ci ad ((p_fits X s_ q).2) T tq la tt z) H)) 0 0 (aX ad) := by
  refine mu_Met (cc := cX3_fits) (maxL := 3) (ret := (some .int)) [(0, .ref (ad 0)), (1, .int (s_)), (2, .int (q))] (wX_D hI) (by decide) rfl (Nat.le_of_ble_eq_true rfl) rfl ?_
  intro p e s m below meth c H locs hx hb hml hr hlocks hts hown hP hK hs0 hD hS ls hl
  have hown : s.vm.findClass RX3 = some m.cls := hown
  have hinX0 : ∀ w ∈ wsX00, w ∈ wsX3_fits := by decide +kernel
  have hinX3 : ∀ w ∈ wsX30, w ∈ wsX3_fits := by decide +kernel
  have hE := hE_en D (ci 0) G ka
  have hWF := hWX.w
  have f_n := hWF.n
  have f_e := hWX.e
  have f_tl := hWX.t
  have hGA := aX_G hG
  have hWK := hWX.k
  refine lv_aload_n hx hb dX3_fits_0 rfl (lv_at hl 0 rfl) ?_
  refine lv_iload_n hx hb dX3_fits_1 rfl (lv_at hl 1 rfl) ?_
  refine lv_iload_n hx hb dX3_fits_2 rfl (lv_at hl 2 rfl) ?_
  refine lv_aload_n hx hb dX3_fits_3 rfl (lv_at hl 0 rfl) ?_
  refine va_get (D := D) (ci := 3) (v := .ref (ad 16)) (C := RX3) (T := TX3) (N := 9) hx hb hts hinX3 hown hK hP 0 rfl rfl 1 (by decide) (hts (.fieldLink RX3 16 "OneShort" "trial" "LOneShort$Orchestra;") (List.mem_of_getElem? (i := 1) rfl)) (fun _ h9 => h9) rfl dX3_fits_4 ?_
  refine va_get (D := D) (ci := 0) (v := .ref (ad 20)) (C := RX0) (T := TX0) (N := 13) hx hb hts hinX0 hown hK hP 16 rfl rfl 3 (by decide) (hts (.fieldLink RX3 90 "OneShort$Orchestra" "part" "[I") (List.mem_of_getElem? (i := 2) rfl)) (fun _ h9 => h9) rfl dX3_fits_7 ?_
  refine lv_bipush (v := nI (6)) hx hb dX3_fits_10 (by decide) ?_
  refine mu_V (n := 4) (As := [.int (s_), .int (q), .ref (ad 20), .int (nI 6)]) (rest := []) ⟨hx, hb, hml, hown, hts⟩ (c_X3_fitting_part l D ci G ka ad X T tq la tt z hI hG (s_) (q) hWX) gX3_fits_X3_fitting rfl ⟨rfl, rfl⟩ (by decide +kernel) rfl ⟨Nat.le_of_ble_eq_true rfl, Nat.le_of_ble_eq_true rfl⟩ hE (en_S hGA hs0 hS) hK hP (ci := 3) (q0 := 0) rfl rfl hl.1 rfl (Nat.le_of_ble_eq_true rfl) dX3_fits_12 ⟨Nat.zero_le _, Nat.zero_le _⟩ hS (fun _ h => h) (fun H1 locs hz hfr hB hS => ?_)
  obtain ⟨T, tq, la, tt, z, hP⟩ := hB
  generalize H1 = H at hP hS ⊢
  have hD : va_D (aX ad) (wX ci ad ((p_fitg 3 6 X s_ q).2) T tq la tt z) := wX_D hI
  have hp : p_fits X s_ q = ((p_fitg 3 6 X s_ q).1, (p_fitg 3 6 X s_ q).2) := rfl
  refine nv_cv (show (p_fitg 3 6 X s_ q).1 = (p_fits X s_ q).1 from by rw [hp]) ?_
  exact mu_iret hx hb hr hlocks hS ((by rw [hp]; exact ⟨_, _, _, _, _, hP⟩)) dX3_fits_15
