/-! walks laid by program -/
set_option maxHeartbeats 4000000 in
set_option maxRecDepth 100000 in
/-- X3_text -/
theorem c_X3_text (l : Launch) (D : va_G) (ci : Nat → ClassId) (G : Nat → Prop) (ka : Nat) (ad : Nat → Nat) (X : AS) (T : OS) (tq la tt : Nat → Int32) (z : Nat → Nat → Int32) (hI : injA ad 48) (hG : ∀ k, k < 48 → G (ad k)) (adK adV : Nat → Nat) (fx : Nat)  (hWX : WFX X) : Met l yX3_text wsX3_text ({ frames := 8, cells := 0, slots := 0, locals := 177 } : Room) (va_Pc [.ref (ad 0)] (ro_B D (tyL ci) (wX ci ad X T tq la tt z) (enS D (ci 0) G ka adK adV fx))) (mu_Q (aX ad) (some (.int ((p_text X).1))) (fun H => ∃ T tq la tt z, va_P D vwCl (wX ci ad ((p_text X).2) T tq la tt z) H)) 0 0 (aX ad) := by
  refine mu_Met (cc := cX3_text) (maxL := 2) (ret := (some .int)) [(0, .ref (ad 0))] (wX_D hI) (by decide) rfl (Nat.le_of_ble_eq_true rfl) rfl ?_
  intro p e s m below meth c H locs hx hb hml hr hlocks hts hown hP hK hs0 hD hS ls hl
  have hown : s.vm.findClass RX3 = some m.cls := hown
  have hinX2 : ∀ w ∈ wsX20, w ∈ wsX3_text := by decide +kernel
  have hinX3 : ∀ w ∈ wsX30, w ∈ wsX3_text := by decide +kernel
  have hE3 := hE_en D (ci 0) G ka
  have hE := hE_S D (ci 0) G ka adK adV fx
  have hWF := hWX.w
  have f_n := hWF.n
  have f_e := hWX.e
  have f_tl := hWX.t
  have hGA := aX_G hG
  have hWK := hWX.k
  refine lv_aload_n hx hb dX3_text_0 rfl (lv_at hl 0 rfl) ?_
  refine va_get (D := D) (ci := 3) (v := .ref (ad 16)) (C := RX3) (T := TX3) (N := 9) hx hb hts hinX3 hown hK hP 0 rfl rfl 1 (by decide) (hts (.fieldLink RX3 16 "OneShort" "trial" "LOneShort$Orchestra;") (List.mem_of_getElem? (i := 1) rfl)) (fun _ h9 => h9) rfl dX3_text_1 ?_
  refine lv_aload_n hx hb dX3_text_4 rfl (lv_at hl 0 rfl) ?_
  refine va_get (D := D) (ci := 3) (v := .ref (ad 5)) (C := RX3) (T := TX3) (N := 9) hx hb hts hinX3 hown hK hP 0 rfl rfl 0 (by decide) (hts (.fieldLink RX3 10 "OneShort" "orchestra" "LOneShort$Orchestra;") (List.mem_of_getElem? (i := 2) rfl)) (fun _ h9 => h9) rfl dX3_text_5 ?_
  refine mu_V (n := 1) (As := [.ref (ad 5)]) (rest := []) ⟨hx, hb, hml, hown, hts⟩ (c_X0_become l D ci G ka (sh ad 16) T (z 3) (z 4) (z 5) (sh ad 5) X.1 (z 0) (z 1) (z 2) (wX_D2 hI (by decide) (by decide) (by decide) _ _ _ _ _ _ _ _) (aO2_G (G_sh hG (by decide)) (G_sh hG (by decide)))  ) gX3_text_X0_become rfl ⟨rfl, rfl⟩ (by decide +kernel) rfl ⟨Nat.le_of_ble_eq_true rfl, Nat.le_of_ble_eq_true rfl⟩ hE3 (en_S hGA hs0.1 hS) hK (va_P.app (wX_s16 hP) (wX_s5 hP)) (ci := 0) (q0 := 0) rfl rfl hl.1 rfl (Nat.le_of_ble_eq_true rfl) dX3_text_8 ⟨Nat.zero_le _, Nat.zero_le _⟩ hS (fun q h => h.elim (fun h => aR_X (by decide) q (aO_sh q h)) (fun h => aR_X (by decide) q (aO_sh q h))) (fun H1 locs hz hfr hB hS => ?_)
  have hP := wX_j16_5 hI hP hfr hB
  generalize H1 = H at hP hS ⊢
  have hD : va_D (aX ad) (wX ci ad X X.1 tq la tt z) := wX_D hI
  refine lv_aload_n hx hb dX3_text_11 rfl (lv_at hl 0 rfl) ?_
  refine va_get (D := D) (ci := 3) (v := .ref (ad 38)) (C := RX3) (T := TX3) (N := 9) hx hb hts hinX3 hown hK hP 0 rfl rfl 4 (by decide) (hts (.fieldLink RX3 29 "OneShort" "tape" "LOneShort$Tape;") (List.mem_of_getElem? (i := 3) rfl)) (fun _ h9 => h9) rfl dX3_text_12 ?_
  refine lv_aload_n hx hb dX3_text_15 rfl (lv_at hl 0 rfl) ?_
  refine va_get (D := D) (ci := 3) (v := .ref (ad 16)) (C := RX3) (T := TX3) (N := 9) hx hb hts hinX3 hown hK hP 0 rfl rfl 1 (by decide) (hts (.fieldLink RX3 16 "OneShort" "trial" "LOneShort$Orchestra;") (List.mem_of_getElem? (i := 1) rfl)) (fun _ h9 => h9) rfl dX3_text_16 ?_
  refine mu_V (n := 1) (As := [.ref (ad 16)]) (rest := []) ⟨hx, hb, hml, hown, hts⟩ (c_X2_tellTo l D ci G ka adK adV fx (sh ad 38) X.2.2.2.2.1 X.2.2.2.2.2.1 (sh ad 16) X.1 (z 3) (z 4) (z 5) (injA_sh2 hI (by decide)) (G_sh2 hG (by decide)) (injA_sh hI (by decide)) (G_sh hG (by decide)) (sh_ne hI) (tq 0) (tq 1) (tq 2) (tq 3) hWX.t hWX.tb hWF) gX3_text_X2_tellTo rfl ⟨rfl, rfl⟩ (by decide +kernel) rfl ⟨Nat.le_of_ble_eq_true rfl, Nat.le_of_ble_eq_true rfl⟩ hE (enS_S hGA hs0 hS) hK (va_P.app (wX_s38 hP) (wX_s16 hP)) (ci := 2) (q0 := 0) rfl rfl hl.1 rfl (Nat.le_of_ble_eq_true rfl) dX3_text_19 ⟨Nat.zero_le _, Nat.zero_le _⟩ hS (fun q h => h.elim (fun h => aR_X (by decide) q (aT_sh q h)) (fun h => aR_X (by decide) q (aO_sh q h))) (fun H1 locs hz hfr hB hS => ?_)
  obtain ⟨tq, w9, r9, nb9, hB⟩ := hB
  have hP := wX_j38_16 hI hP hfr hB
  obtain ⟨z, hP⟩ : ∃ z, va_P D vwCl (wX ci ad X ((tR X.2.2.2.2.2.1 X.2.2.2.2.1 120 1 0 X.1).2.2) tq la tt z) H1 := ⟨_, hP⟩
  generalize H1 = H at hP hS ⊢
  have hD : va_D (aX ad) (wX ci ad X ((tR X.2.2.2.2.2.1 X.2.2.2.2.1 120 1 0 X.1).2.2) tq la tt z) := wX_D hI
  refine lv_istore_n (lv' := [(1, .int (tI (tR X.2.2.2.2.2.1 X.2.2.2.2.1 120 1 0 X.1))), (0, .ref (ad 0))]) hx hb dX3_text_22 rfl hl (by decide) rfl (fun ls hl => ?_)
  refine lv_iload_n hx hb dX3_text_23 rfl (lv_at hl 0 rfl) ?_
  refine lv_if_lt (tgt := 38) hx hb dX3_text_24 (by decide) (fun c1 => ?_) (fun c1 => ?_)
  · refine lv_aload_n hx hb dX3_text_38 rfl (lv_at hl 1 rfl) ?_
    refine va_get (D := D) (ci := 3) (v := .ref (ad 38)) (C := RX3) (T := TX3) (N := 9) hx hb hts hinX3 hown hK hP 0 rfl rfl 4 (by decide) (hts (.fieldLink RX3 29 "OneShort" "tape" "LOneShort$Tape;") (List.mem_of_getElem? (i := 3) rfl)) (fun _ h9 => h9) rfl dX3_text_39 ?_
    refine lv_iconst (v := nI (0)) hx hb dX3_text_42 (by decide) ?_
    refine va_put (D := D) (ci := 2) (v := .int (nI 0)) (ty := .int) (C := RX2) (T := TX2) (N := 6) hx hb hts hinX2 tyX2 tyX2_ok nmX2 hown hK hP hD hS 38 rfl rfl 0 (by decide) (hts (.fieldLink RX3 196 "OneShort$Tape" "length" "I") (List.mem_of_getElem? (i := 4) rfl)) (fun _ h9 => h9) rfl (by decide +kernel) rfl rfl (Nat.le_of_ble_eq_true rfl) dX3_text_43 (fun H locs hP hD hS => ?_)
    have hP : va_P D vwCl (wX ci ad (toL X (0)) ((tR X.2.2.2.2.2.1 X.2.2.2.2.1 120 1 0 X.1).2.2) tq la tt z) H := va_P.re (wX_tl ci ad X ((tR X.2.2.2.2.2.1 X.2.2.2.2.1 120 1 0 X.1).2.2) tq la tt z (0)) hP
    have hD : va_D (aX ad) (wX ci ad (toL X (0)) ((tR X.2.2.2.2.2.1 X.2.2.2.2.1 120 1 0 X.1).2.2) tq la tt z) := wX_D hI
    refine lv_iload_n hx hb dX3_text_46 rfl (lv_at hl 0 rfl) ?_
    have hp : p_text X = (tI (tR X.2.2.2.2.2.1 X.2.2.2.2.1 120 1 0 X.1), toL X (0)) := by first | exact ptext_f hWX c1 | exact ptext_t hWX c1 | exact ptext_t hWX (Int32.not_lt.mpr c1)
    refine nv_cv (show tI (tR X.2.2.2.2.2.1 X.2.2.2.2.1 120 1 0 X.1) = (p_text X).1 from by rw [hp]) ?_
    exact mu_iret hx hb hr hlocks hS ((by rw [hp]; exact ⟨_, _, _, _, _, hP⟩)) dX3_text_47
  · refine lv_aload_n hx hb dX3_text_27 rfl (lv_at hl 1 rfl) ?_
    refine va_get (D := D) (ci := 3) (v := .ref (ad 5)) (C := RX3) (T := TX3) (N := 9) hx hb hts hinX3 hown hK hP 0 rfl rfl 0 (by decide) (hts (.fieldLink RX3 10 "OneShort" "orchestra" "LOneShort$Orchestra;") (List.mem_of_getElem? (i := 2) rfl)) (fun _ h9 => h9) rfl dX3_text_28 ?_
    refine lv_aload_n hx hb dX3_text_31 rfl (lv_at hl 1 rfl) ?_
    refine va_get (D := D) (ci := 3) (v := .ref (ad 16)) (C := RX3) (T := TX3) (N := 9) hx hb hts hinX3 hown hK hP 0 rfl rfl 1 (by decide) (hts (.fieldLink RX3 16 "OneShort" "trial" "LOneShort$Orchestra;") (List.mem_of_getElem? (i := 1) rfl)) (fun _ h9 => h9) rfl dX3_text_32 ?_
    refine mu_V (n := 1) (As := [.ref (ad 16)]) (rest := []) ⟨hx, hb, hml, hown, hts⟩ (c_X0_become l D ci G ka (sh ad 5) X.1 (z 0) (z 1) (z 2) (sh ad 16) ((tR X.2.2.2.2.2.1 X.2.2.2.2.1 120 1 0 X.1).2.2) (z 3) (z 4) (z 5) (wX_D2 hI (by decide) (by decide) (by decide) _ _ _ _ _ _ _ _) (aO2_G (G_sh hG (by decide)) (G_sh hG (by decide)))  ) gX3_text_X0_become rfl ⟨rfl, rfl⟩ (by decide +kernel) rfl ⟨Nat.le_of_ble_eq_true rfl, Nat.le_of_ble_eq_true rfl⟩ hE3 (en_S hGA hs0.1 hS) hK (va_P.app (wX_s5 hP) (wX_s16 hP)) (ci := 0) (q0 := 0) rfl rfl hl.1 rfl (Nat.le_of_ble_eq_true rfl) dX3_text_35 ⟨Nat.zero_le _, Nat.zero_le _⟩ hS (fun q h => h.elim (fun h => aR_X (by decide) q (aO_sh q h)) (fun h => aR_X (by decide) q (aO_sh q h))) (fun H1 locs hz hfr hB hS => ?_)
    have hP := wX_j5_16 hI hP hfr hB
    generalize H1 = H at hP hS ⊢
    have hD : va_D (aX ad) (wX ci ad (toS X ((tR X.2.2.2.2.2.1 X.2.2.2.2.1 120 1 0 X.1).2.2)) ((tR X.2.2.2.2.2.1 X.2.2.2.2.1 120 1 0 X.1).2.2) tq la tt z) := wX_D hI
    refine lv_aload_n hx hb dX3_text_38 rfl (lv_at hl 1 rfl) ?_
    refine va_get (D := D) (ci := 3) (v := .ref (ad 38)) (C := RX3) (T := TX3) (N := 9) hx hb hts hinX3 hown hK hP 0 rfl rfl 4 (by decide) (hts (.fieldLink RX3 29 "OneShort" "tape" "LOneShort$Tape;") (List.mem_of_getElem? (i := 3) rfl)) (fun _ h9 => h9) rfl dX3_text_39 ?_
    refine lv_iconst (v := nI (0)) hx hb dX3_text_42 (by decide) ?_
    refine va_put (D := D) (ci := 2) (v := .int (nI 0)) (ty := .int) (C := RX2) (T := TX2) (N := 6) hx hb hts hinX2 tyX2 tyX2_ok nmX2 hown hK hP hD hS 38 rfl rfl 0 (by decide) (hts (.fieldLink RX3 196 "OneShort$Tape" "length" "I") (List.mem_of_getElem? (i := 4) rfl)) (fun _ h9 => h9) rfl (by decide +kernel) rfl rfl (Nat.le_of_ble_eq_true rfl) dX3_text_43 (fun H locs hP hD hS => ?_)
    have hP : va_P D vwCl (wX ci ad (toL (toS X ((tR X.2.2.2.2.2.1 X.2.2.2.2.1 120 1 0 X.1).2.2)) (0)) ((tR X.2.2.2.2.2.1 X.2.2.2.2.1 120 1 0 X.1).2.2) tq la tt z) H := va_P.re (wX_tl ci ad (toS X ((tR X.2.2.2.2.2.1 X.2.2.2.2.1 120 1 0 X.1).2.2)) ((tR X.2.2.2.2.2.1 X.2.2.2.2.1 120 1 0 X.1).2.2) tq la tt z (0)) hP
    have hD : va_D (aX ad) (wX ci ad (toL (toS X ((tR X.2.2.2.2.2.1 X.2.2.2.2.1 120 1 0 X.1).2.2)) (0)) ((tR X.2.2.2.2.2.1 X.2.2.2.2.1 120 1 0 X.1).2.2) tq la tt z) := wX_D hI
    refine lv_iload_n hx hb dX3_text_46 rfl (lv_at hl 0 rfl) ?_
    have hp : p_text X = (tI (tR X.2.2.2.2.2.1 X.2.2.2.2.1 120 1 0 X.1), toL (toS X ((tR X.2.2.2.2.2.1 X.2.2.2.2.1 120 1 0 X.1).2.2)) (0)) := by first | exact ptext_f hWX c1 | exact ptext_t hWX c1 | exact ptext_t hWX (Int32.not_lt.mpr c1)
    refine nv_cv (show tI (tR X.2.2.2.2.2.1 X.2.2.2.2.1 120 1 0 X.1) = (p_text X).1 from by rw [hp]) ?_
    exact mu_iret hx hb hr hlocks hS ((by rw [hp]; exact ⟨_, _, _, _, _, hP⟩)) dX3_text_47
