/-! walks laid by program -/
set_option maxHeartbeats 4000000 in
set_option maxRecDepth 100000 in
/-- X3_strings -/
theorem c_X3_strings (l : Launch) (D : va_G) (ci : Nat → ClassId) (G : Nat → Prop) (ka : Nat) (ad : Nat → Nat) (X : AS) (T : OS) (tq la tt : Nat → Int32) (z : Nat → Nat → Int32) (hI : injA ad 48) (hG : ∀ k, k < 48 → G (ad k)) (n : Int32) (hWX : WFX X) : Met l yX3_strings wsX3_strings ({ frames := 4, cells := 0, slots := 0, locals := 108 } : Room) (va_Pc [.ref (ad 0), .int (n)] (ro_B D (tyL ci) (wX ci ad X T tq la tt z) (en D (ci 0) G ka))) (mu_Q (aX ad) (some (.int ((p_strings X n).1))) (fun H => ∃ T tq la tt z, va_P D vwCl (wX ci ad ((p_strings X n).2) T tq la tt z) H)) 0 0 (aX ad) := by
  refine mu_Met (cc := cX3_strings) (maxL := 5) (ret := (some .int)) [(0, .ref (ad 0)), (1, .int (n))] (wX_D hI) (by decide) rfl (Nat.le_of_ble_eq_true rfl) rfl ?_
  intro p e s m below meth c H locs hx hb hml hr hlocks hts hown hP hK hs0 hD hS ls hl
  have hown : s.vm.findClass RX3 = some m.cls := hown
  have hinX0 : ∀ w ∈ wsX00, w ∈ wsX3_strings := by decide +kernel
  have hinX3 : ∀ w ∈ wsX30, w ∈ wsX3_strings := by decide +kernel
  have hE := hE_en D (ci 0) G ka
  have hWF := hWX.w
  have f_n := hWF.n
  have f_e := hWX.e
  have f_tl := hWX.t
  have hGA := aX_G hG
  have hWK := hWX.k
  refine lv_iload_n hx hb dX3_strings_0 rfl (lv_at hl 1 rfl) ?_
  refine lv_iconst (v := nI (1)) hx hb dX3_strings_1 (by decide) ?_
  refine lv_icmp_lt (tgt := 11) hx hb dX3_strings_2 (by decide) (fun c1 => ?_) (fun c1 => ?_)
  · have i2 : ∀ u9, inR n 1 u9 = false := fun u9 => inR_f0 (by decide) c1
    refine lv_aload_n hx hb dX3_strings_11 rfl (lv_at hl 0 rfl) ?_
    refine lv_iconst (v := nI (0)) hx hb dX3_strings_12 (by decide) ?_
    refine mu_V (n := 1) (As := [.int (nI 0)]) (rest := []) ⟨hx, hb, hml, hown, hts⟩ (c_X3_finding l D ci G ka ad X T tq la tt z hI hG (0) hWX (by omega)) gX3_strings_X3_finding rfl ⟨rfl, rfl⟩ (by decide +kernel) rfl ⟨Nat.le_of_ble_eq_true rfl, Nat.le_of_ble_eq_true rfl⟩ hE (en_S hGA hs0 hS) hK hP (ci := 3) (q0 := 0) rfl rfl hl.1 rfl (Nat.le_of_ble_eq_true rfl) dX3_strings_13 ⟨Nat.zero_le _, Nat.zero_le _⟩ hS (fun _ h => h) (fun H1 locs hz hfr hB hS => ?_)
    obtain ⟨T, tq, la, tt, z, hP⟩ := hB
    generalize H1 = H at hP hS ⊢
    have hD : va_D (aX ad) (wX ci ad (toF X (inc X.2.2.2.1 0)) T tq la tt z) := wX_D hI
    have hp : p_strings X n = (fnd 0, toF X (inc X.2.2.2.1 0)) := by first | (simp [p_strings, bk, fl_eq, c1, i2]; done) | (rw [show i = nn by omega]; simp [p_strings, bk, fl_eq, show X.1 8 0 + nn ≤ 99999 by omega, c1, i2]; done) | (simp [p_strings, bk, fl_eq, show ¬ X.1 8 0 + nn ≤ 99999 by omega, c1, i2]; done)
    refine nv_cv (show fnd 0 = (p_strings X n).1 from by rw [hp]) ?_
    exact mu_iret hx hb hr hlocks hS ((by rw [hp]; exact ⟨_, _, _, _, _, hP⟩)) dX3_strings_16
  · refine lv_iload_n hx hb dX3_strings_5 rfl (lv_at hl 1 rfl) ?_
    refine lv_bipush (v := nI (12)) hx hb dX3_strings_6 (by decide) ?_
    refine lv_icmp_le (tgt := 17) hx hb dX3_strings_8 (by decide) (fun c3 => ?_) (fun c3 => ?_)
    · have i4 : inR n 1 12 = true := inR_t (by decide) (by decide) c1 c3
      obtain ⟨nn, h_nn, h_nn2, rfl⟩ := inR_ex i4 (by decide)
      have t_nn : tn (nI nn) = nn := tn_nI (by omega)
      refine lv_aload_n hx hb dX3_strings_17 rfl (lv_at hl 0 rfl) ?_
      refine va_get (D := D) (ci := 3) (v := .ref (ad 5)) (C := RX3) (T := TX3) (N := 9) hx hb hts hinX3 hown hK hP 0 rfl rfl 0 (by decide) (hts (.fieldLink RX3 10 "OneShort" "orchestra" "LOneShort$Orchestra;") (List.mem_of_getElem? (i := 1) rfl)) (fun _ h9 => h9) rfl dX3_strings_18 ?_
      refine va_get (D := D) (ci := 0) (v := .int (nI (X.1 8 0))) (C := RX0) (T := TX0) (N := 13) hx hb hts hinX0 hown hK hP 5 rfl rfl 8 (by decide) (hts (.fieldLink RX3 132 "OneShort$Orchestra" "evening" "I") (List.mem_of_getElem? (i := 2) rfl)) (fun _ h9 => h9) rfl dX3_strings_21 ?_
      refine lv_ldc (v := nI (99999)) hx hb hown (hts (.constant RX3 135 (99999)) (List.mem_of_getElem? (i := 3) rfl)) dX3_strings_24 ?_
      refine lv_iload_n hx hb dX3_strings_26 rfl (lv_at hl 1 rfl) ?_
      refine nv_isub hx hb (by omega) dX3_strings_27 ?_
      refine nv_icmp_le (tgt := 37) hx hb (by omega) (by omega) dX3_strings_28 (by decide) (fun c5 => ?_) (fun c5 => ?_)
      · refine lv_iconst (v := nI (0)) hx hb dX3_strings_37 (by decide) ?_
        refine lv_istore_n (lv' := [(2, .int (nI 0)), (0, .ref (ad 0)), (1, .int (nI nn))]) hx hb dX3_strings_38 rfl hl (by decide) rfl (fun ls hl => ?_)
        refine lv_iconst (v := nI (0)) hx hb dX3_strings_39 (by decide) ?_
        refine lv_istore_n (lv' := [(3, .int (nI 0)), (2, .int (nI 0)), (0, .ref (ad 0)), (1, .int (nI nn))]) hx hb dX3_strings_40 rfl hl (by decide) rfl (fun ls hl => ?_)
        have L41 : ∀ (k41 : Nat) (i : Nat), nn - i < k41 → (i ≤ nn) → ∀ (x2 x3 : Int32), x2 = nI ((strN X.1 (i)).2) → x3 = nI (i) → ∀ (z : Nat → Nat → Int32), ∀ (H : Heap) (locs : List Loc), va_P D vwCl (wX ci ad (toS X (strN X.1 i).1) T tq la tt z) H → va_S (aX ad) s.heap H locs → ∀ ls : Array Slot, lv_has ls 5 [(2, .int (x2)), (3, .int (x3)), (0, .ref (ad 0)), (1, .int (nI nn))] → W p l e (headSpec wsX3_strings ({ frames := 4, cells := 0, slots := 0, locals := 108 } : Room)).room s m ([.ref (ad 0), .int (nI nn)] : List Value).toArray below meth c H locs 0 0 (MQ below (mu_Q (aX ad) (some (.int ((p_strings X (nI nn)).1))) (fun H => ∃ T tq la tt z, va_P D vwCl (wX ci ad ((p_strings X (nI nn)).2) T tq la tt z) H)) ([.ref (ad 0), .int (nI nn)] : List Value).toArray s 0 0 (aX ad)) (F0 m 41 ls []) := by
          intro k41
          induction k41 with
          | zero => intro i h0; exact absurd h0 (Nat.not_lt_zero _)
          | succ k41 ih41 =>
            intro i hk41 h_i x2 x3 e2 e3 z H locs hP hS ls hl
            subst e2
            subst e3
            have hD : va_D (aX ad) (wX ci ad (toS X (strN X.1 i).1) T tq la tt z) := wX_D hI
            have hWFi := WF_strN hWF i
            have f_ni := hWFi.n
            refine lv_iload_n hx hb dX3_strings_41 rfl (lv_at hl 1 rfl) ?_
            refine lv_iload_n hx hb dX3_strings_42 rfl (lv_at hl 3 rfl) ?_
            refine nv_icmp_ge (tgt := 95) hx hb (by omega) (by omega) dX3_strings_43 (by decide) (fun c6 => ?_) (fun c6 => ?_)
            · refine lv_iload_n hx hb dX3_strings_95 rfl (lv_at hl 0 rfl) ?_
              have hp : p_strings X (nI nn) = (nI ((strN X.1 (i)).2), toS X (strN X.1 i).1) := by first | (simp [p_strings, bk, fl_eq, c1, c3, c5, c6, i4, t_nn]; done) | (rw [show i = nn by omega]; simp [p_strings, bk, fl_eq, show X.1 8 0 + nn ≤ 99999 by omega, c1, c3, c5, c6, i4, t_nn]; done) | (simp [p_strings, bk, fl_eq, show ¬ X.1 8 0 + nn ≤ 99999 by omega, c1, c3, c5, c6, i4, t_nn]; done)
              refine nv_cv (show nI ((strN X.1 (i)).2) = (p_strings X (nI nn)).1 from by rw [hp]) ?_
              exact mu_iret hx hb hr hlocks hS ((by rw [hp]; exact ⟨_, _, _, _, _, hP⟩)) dX3_strings_96
            · refine lv_aload_n hx hb dX3_strings_46 rfl (lv_at hl 2 rfl) ?_
              refine va_get (D := D) (ci := 3) (v := .ref (ad 5)) (C := RX3) (T := TX3) (N := 9) hx hb hts hinX3 hown hK hP 0 rfl rfl 0 (by decide) (hts (.fieldLink RX3 10 "OneShort" "orchestra" "LOneShort$Orchestra;") (List.mem_of_getElem? (i := 1) rfl)) (fun _ h9 => h9) rfl dX3_strings_47 ?_
              refine mu_V (n := 0) (As := []) (rest := []) ⟨hx, hb, hml, hown, hts⟩ (c_X0_draw l D ci G ka (sh ad 5) ((strN X.1 i).1) (z 0) (z 1) (z 2) (injA_sh hI (by decide)) (G_sh hG (by decide))  hWFi) gX3_strings_X0_draw rfl ⟨rfl, rfl⟩ (by decide +kernel) rfl ⟨Nat.le_of_ble_eq_true rfl, Nat.le_of_ble_eq_true rfl⟩ hE (en_S hGA hs0 hS) hK (wX_s5 hP) (ci := 0) (q0 := 0) rfl rfl hl.1 rfl (Nat.le_of_ble_eq_true rfl) dX3_strings_50 ⟨Nat.zero_le _, Nat.zero_le _⟩ hS (fun q h => aR_X (by decide) q (aO_sh q h)) (fun H1 locs hz hfr hB hS => ?_)
              have hP := wX_j5 hI hP hfr hB
              obtain ⟨z, hP⟩ : ∃ z, va_P D vwCl (wX ci ad (toS X (st ((strN X.1 i).1) 9 0 (dz (((strN X.1 i).1) 9 0)))) T tq la tt z) H1 := ⟨_, hP⟩
              generalize H1 = H at hP hS ⊢
              have hD : va_D (aX ad) (wX ci ad (toS X (st ((strN X.1 i).1) 9 0 (dz (((strN X.1 i).1) 9 0)))) T tq la tt z) := wX_D hI
              refine lv_bipush (v := nI (16)) hx hb dX3_strings_53 (by decide) ?_
              refine nv_irem hx hb (by omega) (by omega) (by omega) dX3_strings_55 ?_
              refine nv_cv (show nI ((dz (((strN X.1 i).1) 9 0) % 4294967296 / 2 ^ 8 % 16)) = nI (drw (strN X.1 i).1) from rfl) ?_
              refine lv_istore (lv' := [(4, .int (nI (drw (strN X.1 i).1))), (2, .int (nI ((strN X.1 (i)).2))), (3, .int (nI i)), (0, .ref (ad 0)), (1, .int (nI nn))]) hx hb dX3_strings_56 hl (by decide) rfl (fun ls hl => ?_)
              refine lv_aload_n hx hb dX3_strings_58 rfl (lv_at hl 3 rfl) ?_
              refine lv_iload hx hb dX3_strings_59 (lv_at hl 0 rfl) ?_
              refine ro_V (n := 1) (As := [.int (nI (drw (strN X.1 i).1))]) (rest := []) ⟨hx, hb, hml, hown, hts⟩ (c_X3_isPlayer l D ci G ka ad (toS X (st ((strN X.1 i).1) 9 0 (dz (((strN X.1 i).1) 9 0)))) T tq la tt z (nI (drw (strN X.1 i).1)) (WFX_toS hWX (WF_st9 hWFi 0 _) (strN_ev hWX.e i))) gX3_strings_X3_isPlayer rfl ⟨rfl, rfl⟩ (by decide +kernel) rfl ⟨Nat.le_of_ble_eq_true rfl, Nat.le_of_ble_eq_true rfl⟩ hE (en_S hGA hs0 hS) hK hP (ci := 3) (q0 := 0) rfl rfl hl.1 rfl (Nat.le_of_ble_eq_true rfl) dX3_strings_61 ⟨Nat.zero_le _, Nat.zero_le _⟩ ?_
              refine nv_ifeq_b (tgt := 81) hx hb dX3_strings_64 (by decide) (fun c7 => ?_) (fun c7 => ?_)
              · have d8 : ¬ drw (strN X.1 i).1 < (strN X.1 i).1 7 0 := by
                  have h9 : inN (nI (drw (strN X.1 i).1)) ((strN X.1 i).1 7 0) = false := c7
                  rw [in_nI (by have := drw_lt (strN X.1 i).1; omega)] at h9
                  simpa using h9
                refine lv_aload_n hx hb dX3_strings_81 rfl (lv_at hl 3 rfl) ?_
                refine va_get (D := D) (ci := 3) (v := .ref (ad 5)) (C := RX3) (T := TX3) (N := 9) hx hb hts hinX3 hown hK hP 0 rfl rfl 0 (by decide) (hts (.fieldLink RX3 10 "OneShort" "orchestra" "LOneShort$Orchestra;") (List.mem_of_getElem? (i := 1) rfl)) (fun _ h9 => h9) rfl dX3_strings_82 ?_
                refine mu_V (n := 0) (As := []) (rest := []) ⟨hx, hb, hml, hown, hts⟩ (c_X0_passEvening l D ci G ka (sh ad 5) (st ((strN X.1 i).1) 9 0 (dz (((strN X.1 i).1) 9 0))) (z 0) (z 1) (z 2) (injA_sh hI (by decide)) (G_sh hG (by decide))  (by first | exact WF_st5 (WF_st9 hWFi 0 _) _ (by decide) | exact WF_st9 hWFi 0 _)) gX3_strings_X0_passEvening rfl ⟨rfl, rfl⟩ (by decide +kernel) rfl ⟨Nat.le_of_ble_eq_true rfl, Nat.le_of_ble_eq_true rfl⟩ hE (en_S hGA hs0 hS) hK (wX_s5 hP) (ci := 0) (q0 := 0) rfl rfl hl.1 rfl (Nat.le_of_ble_eq_true rfl) dX3_strings_85 ⟨Nat.zero_le _, Nat.zero_le _⟩ hS (fun q h => aR_X (by decide) q (aO_sh q h)) (fun H1 locs hz hfr hB hS => ?_)
                obtain ⟨w9, r9, nb9, hB⟩ := hB
                have hP := wX_j5 hI hP hfr hB
                obtain ⟨z, hP⟩ : ∃ z, va_P D vwCl (wX ci ad (toS X (eveC (st ((strN X.1 i).1) 9 0 (dz (((strN X.1 i).1) 9 0))))) T tq la tt z) H1 := ⟨_, hP⟩
                generalize H1 = H at hP hS ⊢
                have hD : va_D (aX ad) (wX ci ad (toS X (eveC (st ((strN X.1 i).1) 9 0 (dz (((strN X.1 i).1) 9 0))))) T tq la tt z) := wX_D hI
                refine lv_pop hx hb dX3_strings_88 rfl ?_
                refine nv_iinc1 (lv' := [(3, .int (nI (i + 1))), (4, .int (nI (drw (strN X.1 i).1))), (2, .int (nI ((strN X.1 (i)).2))), (0, .ref (ad 0)), (1, .int (nI nn))]) hx hb dX3_strings_89 hl (k := 2) rfl (by decide) rfl (fun ls hl => ?_)
                refine lv_goto (tgt := 41) hx hb dX3_strings_92 (by decide) ?_
                exact ih41 (i + 1) (by omega) (by omega) (nI ((strN X.1 (i)).2)) (nI (i + 1)) (nv_e (by rw [show (strN X.1 (i + 1)).2 = if drw (strN X.1 i).1 < (strN X.1 i).1 7 0 then (strN X.1 i).2 + 1 else (strN X.1 i).2 from rfl]; first | rw [if_pos d8] | rw [if_neg d8])) rfl (z) _ _ (va_P.re (by rw [show (strN X.1 (i + 1)).1 = strO (strN X.1 i).1 from rfl, strO]; first | rw [if_pos d8] | rw [if_neg d8]) hP) hS ls (lv_sub hl [2, 0, 3, 4] rfl)
              · have d9 : drw (strN X.1 i).1 < (strN X.1 i).1 7 0 := by
                  have h9 : inN (nI (drw (strN X.1 i).1)) ((strN X.1 i).1 7 0) = true := c7
                  rw [in_nI (by have := drw_lt (strN X.1 i).1; omega)] at h9
                  simpa using h9
                refine lv_aload_n hx hb dX3_strings_67 rfl (lv_at hl 3 rfl) ?_
                refine va_get (D := D) (ci := 3) (v := .ref (ad 5)) (C := RX3) (T := TX3) (N := 9) hx hb hts hinX3 hown hK hP 0 rfl rfl 0 (by decide) (hts (.fieldLink RX3 10 "OneShort" "orchestra" "LOneShort$Orchestra;") (List.mem_of_getElem? (i := 1) rfl)) (fun _ h9 => h9) rfl dX3_strings_68 ?_
                refine va_get (D := D) (ci := 0) (v := .ref (ad 11)) (C := RX0) (T := TX0) (N := 13) hx hb hts hinX0 hown hK hP 5 rfl rfl 5 (by decide) (hts (.fieldLink RX3 96 "OneShort$Orchestra" "nerve" "[I") (List.mem_of_getElem? (i := 4) rfl)) (fun _ h9 => h9) rfl dX3_strings_71 ?_
                refine lv_iload hx hb dX3_strings_74 (lv_at hl 0 rfl) ?_
                refine lv_iconst (v := nI (0)) hx hb dX3_strings_76 (by decide) ?_
                refine nv_iast hx hb hK hP hD hS 11 0 rfl rfl (by omega) (by decide) dX3_strings_77 (fun H locs hP hD hS => ?_)
                have hP : va_P D vwCl (wX ci ad (toS X (st (st ((strN X.1 i).1) 9 0 (dz (((strN X.1 i).1) 9 0))) 5 (drw (strN X.1 i).1) (0))) T tq la tt z) H := va_P.re (wX_o5 ci ad (toS X (st ((strN X.1 i).1) 9 0 (dz (((strN X.1 i).1) 9 0)))) T tq la tt z (drw (strN X.1 i).1) (0)) hP
                have hD : va_D (aX ad) (wX ci ad (toS X (st (st ((strN X.1 i).1) 9 0 (dz (((strN X.1 i).1) 9 0))) 5 (drw (strN X.1 i).1) (0))) T tq la tt z) := wX_D hI
                refine nv_iinc1 (lv' := [(2, .int (nI ((strN X.1 (i)).2 + 1))), (4, .int (nI (drw (strN X.1 i).1))), (3, .int (nI i)), (0, .ref (ad 0)), (1, .int (nI nn))]) hx hb dX3_strings_78 hl (k := 1) rfl (by decide) rfl (fun ls hl => ?_)
                refine lv_aload_n hx hb dX3_strings_81 rfl (lv_at hl 3 rfl) ?_
                refine va_get (D := D) (ci := 3) (v := .ref (ad 5)) (C := RX3) (T := TX3) (N := 9) hx hb hts hinX3 hown hK hP 0 rfl rfl 0 (by decide) (hts (.fieldLink RX3 10 "OneShort" "orchestra" "LOneShort$Orchestra;") (List.mem_of_getElem? (i := 1) rfl)) (fun _ h9 => h9) rfl dX3_strings_82 ?_
                refine mu_V (n := 0) (As := []) (rest := []) ⟨hx, hb, hml, hown, hts⟩ (c_X0_passEvening l D ci G ka (sh ad 5) (st (st ((strN X.1 i).1) 9 0 (dz (((strN X.1 i).1) 9 0))) 5 (drw (strN X.1 i).1) (0)) (z 0) (z 1) (z 2) (injA_sh hI (by decide)) (G_sh hG (by decide))  (by first | exact WF_st5 (WF_st9 hWFi 0 _) _ (by decide) | exact WF_st9 hWFi 0 _)) gX3_strings_X0_passEvening rfl ⟨rfl, rfl⟩ (by decide +kernel) rfl ⟨Nat.le_of_ble_eq_true rfl, Nat.le_of_ble_eq_true rfl⟩ hE (en_S hGA hs0 hS) hK (wX_s5 hP) (ci := 0) (q0 := 0) rfl rfl hl.1 rfl (Nat.le_of_ble_eq_true rfl) dX3_strings_85 ⟨Nat.zero_le _, Nat.zero_le _⟩ hS (fun q h => aR_X (by decide) q (aO_sh q h)) (fun H1 locs hz hfr hB hS => ?_)
                obtain ⟨w9, r9, nb9, hB⟩ := hB
                have hP := wX_j5 hI hP hfr hB
                obtain ⟨z, hP⟩ : ∃ z, va_P D vwCl (wX ci ad (toS X (eveC (st (st ((strN X.1 i).1) 9 0 (dz (((strN X.1 i).1) 9 0))) 5 (drw (strN X.1 i).1) (0)))) T tq la tt z) H1 := ⟨_, hP⟩
                generalize H1 = H at hP hS ⊢
                have hD : va_D (aX ad) (wX ci ad (toS X (eveC (st (st ((strN X.1 i).1) 9 0 (dz (((strN X.1 i).1) 9 0))) 5 (drw (strN X.1 i).1) (0)))) T tq la tt z) := wX_D hI
                refine lv_pop hx hb dX3_strings_88 rfl ?_
                refine nv_iinc1 (lv' := [(3, .int (nI (i + 1))), (2, .int (nI ((strN X.1 (i)).2 + 1))), (4, .int (nI (drw (strN X.1 i).1))), (0, .ref (ad 0)), (1, .int (nI nn))]) hx hb dX3_strings_89 hl (k := 2) rfl (by decide) rfl (fun ls hl => ?_)
                refine lv_goto (tgt := 41) hx hb dX3_strings_92 (by decide) ?_
                exact ih41 (i + 1) (by omega) (by omega) (nI ((strN X.1 (i)).2 + 1)) (nI (i + 1)) (nv_e (by rw [show (strN X.1 (i + 1)).2 = if drw (strN X.1 i).1 < (strN X.1 i).1 7 0 then (strN X.1 i).2 + 1 else (strN X.1 i).2 from rfl]; first | rw [if_pos d9] | rw [if_neg d9])) rfl (z) _ _ (va_P.re (by rw [show (strN X.1 (i + 1)).1 = strO (strN X.1 i).1 from rfl, strO]; first | rw [if_pos d9] | rw [if_neg d9]) hP) hS ls (lv_sub hl [1, 0, 3, 4] rfl)
        exact L41 _ (0) (Nat.lt_succ_self _) (by omega) (nI (0)) (nI (0)) rfl rfl (z) _ _ (va_P.re (by rfl) hP) hS ls (lv_sub hl [1, 0, 2, 3] rfl)
      · refine lv_aload_n hx hb dX3_strings_31 rfl (lv_at hl 0 rfl) ?_
        refine lv_iconst (v := nI (4)) hx hb dX3_strings_32 (by decide) ?_
        refine mu_V (n := 1) (As := [.int (nI 4)]) (rest := []) ⟨hx, hb, hml, hown, hts⟩ (c_X3_finding l D ci G ka ad X T tq la tt z hI hG (4) hWX (by omega)) gX3_strings_X3_finding rfl ⟨rfl, rfl⟩ (by decide +kernel) rfl ⟨Nat.le_of_ble_eq_true rfl, Nat.le_of_ble_eq_true rfl⟩ hE (en_S hGA hs0 hS) hK hP (ci := 3) (q0 := 0) rfl rfl hl.1 rfl (Nat.le_of_ble_eq_true rfl) dX3_strings_33 ⟨Nat.zero_le _, Nat.zero_le _⟩ hS (fun _ h => h) (fun H1 locs hz hfr hB hS => ?_)
        obtain ⟨T, tq, la, tt, z, hP⟩ := hB
        generalize H1 = H at hP hS ⊢
        have hD : va_D (aX ad) (wX ci ad (toF X (inc X.2.2.2.1 4)) T tq la tt z) := wX_D hI
        have hp : p_strings X (nI nn) = (fnd 4, toF X (inc X.2.2.2.1 4)) := by first | (simp [p_strings, bk, fl_eq, c1, c3, c5, i4, t_nn]; done) | (rw [show i = nn by omega]; simp [p_strings, bk, fl_eq, show X.1 8 0 + nn ≤ 99999 by omega, c1, c3, c5, i4, t_nn]; done) | (simp [p_strings, bk, fl_eq, show ¬ X.1 8 0 + nn ≤ 99999 by omega, c1, c3, c5, i4, t_nn]; done)
        refine nv_cv (show fnd 4 = (p_strings X (nI nn)).1 from by rw [hp]) ?_
        exact mu_iret hx hb hr hlocks hS ((by rw [hp]; exact ⟨_, _, _, _, _, hP⟩)) dX3_strings_36
    · have i10 : inR n 1 12 = false := inR_f1 (by decide) c3
      refine lv_aload_n hx hb dX3_strings_11 rfl (lv_at hl 0 rfl) ?_
      refine lv_iconst (v := nI (0)) hx hb dX3_strings_12 (by decide) ?_
      refine mu_V (n := 1) (As := [.int (nI 0)]) (rest := []) ⟨hx, hb, hml, hown, hts⟩ (c_X3_finding l D ci G ka ad X T tq la tt z hI hG (0) hWX (by omega)) gX3_strings_X3_finding rfl ⟨rfl, rfl⟩ (by decide +kernel) rfl ⟨Nat.le_of_ble_eq_true rfl, Nat.le_of_ble_eq_true rfl⟩ hE (en_S hGA hs0 hS) hK hP (ci := 3) (q0 := 0) rfl rfl hl.1 rfl (Nat.le_of_ble_eq_true rfl) dX3_strings_13 ⟨Nat.zero_le _, Nat.zero_le _⟩ hS (fun _ h => h) (fun H1 locs hz hfr hB hS => ?_)
      obtain ⟨T, tq, la, tt, z, hP⟩ := hB
      generalize H1 = H at hP hS ⊢
      have hD : va_D (aX ad) (wX ci ad (toF X (inc X.2.2.2.1 0)) T tq la tt z) := wX_D hI
      have hp : p_strings X n = (fnd 0, toF X (inc X.2.2.2.1 0)) := by first | (simp [p_strings, bk, fl_eq, c1, c3, i10]; done) | (rw [show i = nn by omega]; simp [p_strings, bk, fl_eq, show X.1 8 0 + nn ≤ 99999 by omega, c1, c3, i10]; done) | (simp [p_strings, bk, fl_eq, show ¬ X.1 8 0 + nn ≤ 99999 by omega, c1, c3, i10]; done)
      refine nv_cv (show fnd 0 = (p_strings X n).1 from by rw [hp]) ?_
      exact mu_iret hx hb hr hlocks hS ((by rw [hp]; exact ⟨_, _, _, _, _, hP⟩)) dX3_strings_16
