/-! walks laid by program -/
set_option maxHeartbeats 4000000 in
set_option maxRecDepth 100000 in
/-- X3_lackOf -/
theorem c_X3_lackOf (l : Launch) (D : va_G) (ci : Nat → ClassId) (G : Nat → Prop) (ka : Nat) (ad : Nat → Nat) (X : AS) (T : OS) (tq la tt : Nat → Int32) (z : Nat → Nat → Int32) (s_ : Int32) (hWX : WFX X) : Met l yX3_lackOf wsX3_lackOf ({ frames := 1, cells := 0, slots := 0, locals := 21 } : Room) (va_Pc [.ref (ad 0), .int (s_)] (ro_B D (tyL ci) (wX ci ad X T tq la tt z) (en D (ci 0) G ka))) (ro_Q (some (.int (lk (lackN X s_))))) 0 0 (fun _ => False) := by
  refine ro_Met (cc := cX3_lackOf) (maxL := 2) (ret := (some .int)) [(0, .ref (ad 0)), (1, .int (s_))] (by decide) rfl (Nat.le_of_ble_eq_true rfl) rfl ?_
  intro p e s m below meth c hx hb hml hr hlocks hts hown hP hK hs ls hl
  have hown : s.vm.findClass RX3 = some m.cls := hown
  have hinX3 : ∀ w ∈ wsX30, w ∈ wsX3_lackOf := by decide +kernel
  have hE := hE_en D (ci 0) G ka
  have hWF := hWX.w
  have f_n := hWF.n
  have f_e := hWX.e
  have f_tl := hWX.t
  refine lv_aload_n hx hb dX3_lackOf_0 rfl (lv_at hl 0 rfl) ?_
  refine lv_iload_n hx hb dX3_lackOf_1 rfl (lv_at hl 1 rfl) ?_
  refine ro_V (n := 1) (As := [.int (s_)]) (rest := []) ⟨hx, hb, hml, hown, hts⟩ (c_X3_isSheet l D ci G ka ad X T tq la tt z (s_) hWX) gX3_lackOf_X3_isSheet rfl ⟨rfl, rfl⟩ (by decide +kernel) rfl ⟨Nat.le_of_ble_eq_true rfl, Nat.le_of_ble_eq_true rfl⟩ hE hs hK hP (ci := 3) (q0 := 0) rfl rfl hl.1 rfl (Nat.le_of_ble_eq_true rfl) dX3_lackOf_2 ⟨Nat.zero_le _, Nat.zero_le _⟩ ?_
  refine nv_ifne_b (tgt := 10) hx hb dX3_lackOf_5 (by decide) (fun c1 => ?_) (fun c1 => ?_)
  · obtain ⟨s_n, h_s_n, rfl⟩ := in_ex c1 (by omega)
    have t_s_n : tn (nI s_n) = s_n := tn_nI (by omega)
    refine lv_aload_n hx hb dX3_lackOf_10 rfl (lv_at hl 0 rfl) ?_
    refine va_get (D := D) (ci := 3) (v := .ref (ad 1)) (C := RX3) (T := TX3) (N := 9) hx hb hts hinX3 hown hK hP 0 rfl rfl 5 (by decide) (hts (.fieldLink RX3 35 "OneShort" "sheets" "[LOneShort$Sheet;") (List.mem_of_getElem? (i := 1) rfl)) (fun _ h9 => h9) rfl dX3_lackOf_11 ?_
    refine lv_iload_n hx hb dX3_lackOf_14 rfl (lv_at hl 1 rfl) ?_
    refine nv_aald (v := .ref (ad (40 + 2 * (s_n)))) hx hb hK hP 1 1 rfl rfl (by omega) (by decide) rfl dX3_lackOf_15 ?_
    refine ro_V (n := 0) (As := []) (rest := []) ⟨hx, hb, hml, hown, hts⟩ (c_X1_isMissing l D ci G ka (sh ad (40 + 2 * (s_n))) (X.2.2.2.2.2.2.1 (s_n)) (X.2.2.2.2.2.2.2.1 (s_n)) (X.2.2.2.2.2.2.2.2 (s_n))  (by omega)) gX3_lackOf_X1_isMissing rfl ⟨rfl, rfl⟩ (by decide +kernel) rfl ⟨Nat.le_of_ble_eq_true rfl, Nat.le_of_ble_eq_true rfl⟩ hE hs hK (wX_sh hP (k := s_n) (by omega)) (ci := 1) (q0 := 0) rfl rfl hl.1 rfl (Nat.le_of_ble_eq_true rfl) dX3_lackOf_16 ⟨Nat.zero_le _, Nat.zero_le _⟩ ?_
    refine nv_ifeq_b (tgt := 26) hx hb dX3_lackOf_19 (by decide) (fun c2 => ?_) (fun c2 => ?_)
    · refine lv_iconst (v := -1) hx hb dX3_lackOf_26 (by decide) ?_
      refine nv_cv (show -1 = lk (lackN X (nI s_n)) from by first | (simp [lackN, lk, c1, c2, t_s_n]; done)) ?_
      exact ro_iret hx hb hr hlocks dX3_lackOf_27
    · refine lv_iconst (v := nI (5)) hx hb dX3_lackOf_22 (by decide) ?_
      refine lv_goto (tgt := 27) hx hb dX3_lackOf_23 (by decide) ?_
      refine nv_cv (show nI (5) = lk (lackN X (nI s_n)) from by first | (simp [lackN, lk, c1, c2, t_s_n]; done)) ?_
      exact ro_iret hx hb hr hlocks dX3_lackOf_27
  · refine lv_iconst (v := nI (0)) hx hb dX3_lackOf_8 (by decide) ?_
    refine nv_cv (show nI (0) = lk (lackN X s_) from by first | (simp [lackN, lk, c1]; done)) ?_
    exact ro_iret hx hb hr hlocks dX3_lackOf_9

set_option maxHeartbeats 4000000 in
set_option maxRecDepth 100000 in
/-- X3_trialGoesAs -/
theorem c_X3_trialGoesAs (l : Launch) (D : va_G) (ci : Nat → ClassId) (G : Nat → Prop) (ka : Nat) (ad : Nat → Nat) (X : AS) (T : OS) (tq la tt : Nat → Int32) (z : Nat → Nat → Int32) (hI : injA ad 48) (hG : ∀ k, k < 48 → G (ad k)) (k q : Nat) (hWX : WFX X) (h_k : k < 4) (h_q : q < 8) (hWT : WF T) : Met l yX3_trialGoesAs wsX3_trialGoesAs ({ frames := 4, cells := 0, slots := 0, locals := 108 } : Room) (va_Pc [.ref (ad 0), .ref (ad (40 + 2 * (k))), .int (nI q)] (ro_B D (tyL ci) (wX ci ad X T tq la tt z) (en D (ci 0) G ka))) (mu_Q (aX ad) (some (.int (bI (goA T (X.2.2.2.2.2.2.2.1 k) (X.2.2.2.2.2.2.2.2 k) q)))) (fun H => ∃ T tq la tt z, va_P D vwCl (wX ci ad X T tq la tt z) H)) 0 0 (aX ad) := by
  refine mu_Met (cc := cX3_trialGoesAs) (maxL := 5) (ret := (some .boolean)) [(0, .ref (ad 0)), (1, .ref (ad (40 + 2 * (k)))), (2, .int (nI q))] (wX_D hI) (by decide) rfl (Nat.le_of_ble_eq_true rfl) rfl ?_
  intro p e s m below meth c H locs hx hb hml hr hlocks hts hown hP hK hs0 hD hS ls hl
  have hown : s.vm.findClass RX3 = some m.cls := hown
  have hinX0 : ∀ w ∈ wsX00, w ∈ wsX3_trialGoesAs := by decide +kernel
  have hinX1 : ∀ w ∈ wsX10, w ∈ wsX3_trialGoesAs := by decide +kernel
  have hinX3 : ∀ w ∈ wsX30, w ∈ wsX3_trialGoesAs := by decide +kernel
  have hE := hE_en D (ci 0) G ka
  have hWF := hWX.w
  have f_n := hWF.n
  have f_e := hWX.e
  have f_tl := hWX.t
  have hGA := aX_G hG
  have hWK := hWX.k
  have f_s := hWX.sl k
  refine lv_iconst (v := nI (0)) hx hb dX3_trialGoesAs_0 (by decide) ?_
  refine lv_istore_n (lv' := [(3, .int (nI 0)), (0, .ref (ad 0)), (1, .ref (ad (40 + 2 * (k)))), (2, .int (nI q))]) hx hb dX3_trialGoesAs_1 rfl hl (by decide) rfl (fun ls hl => ?_)
  have L2 : ∀ (k2 : Nat) (i : Nat), X.2.2.2.2.2.2.2.1 k - i < k2 → (i ≤ X.2.2.2.2.2.2.2.1 k) → (∀ j, j < i → badA T (X.2.2.2.2.2.2.2.2 k) q j = false) → ∀ (x3 : Int32), x3 = nI (i) → ∀ (z : Nat → Nat → Int32), ∀ (H : Heap) (locs : List Loc), va_P D vwCl (wX ci ad X (evCn T (i - 1)) tq la tt z) H → va_S (aX ad) s.heap H locs → ∀ ls : Array Slot, lv_has ls 5 [(3, .int (x3)), (0, .ref (ad 0)), (1, .ref (ad (40 + 2 * (k)))), (2, .int (nI q))] → W p l e (headSpec wsX3_trialGoesAs ({ frames := 4, cells := 0, slots := 0, locals := 108 } : Room)).room s m ([.ref (ad 0), .ref (ad (40 + 2 * (k))), .int (nI q)] : List Value).toArray below meth c H locs 0 0 (MQ below (mu_Q (aX ad) (some (.int (bI (goA T (X.2.2.2.2.2.2.2.1 k) (X.2.2.2.2.2.2.2.2 k) q)))) (fun H => ∃ T tq la tt z, va_P D vwCl (wX ci ad X T tq la tt z) H)) ([.ref (ad 0), .ref (ad (40 + 2 * (k))), .int (nI q)] : List Value).toArray s 0 0 (aX ad)) (F0 m 2 ls []) := by
    intro k2
    induction k2 with
    | zero => intro i h0; exact absurd h0 (Nat.not_lt_zero _)
    | succ k2 ih2 =>
      intro i hk2 h_i h_u x3 e3 z H locs hP hS ls hl
      subst e3
      have hD : va_D (aX ad) (wX ci ad X (evCn T (i - 1)) tq la tt z) := wX_D hI
      have hWFi := WF_evCn hWT (i - 1)
      refine lv_iload_n hx hb dX3_trialGoesAs_2 rfl (lv_at hl 0 rfl) ?_
      refine lv_aload_n hx hb dX3_trialGoesAs_3 rfl (lv_at hl 2 rfl) ?_
      refine va_get (D := D) (ci := 1) (v := .int (nI (X.2.2.2.2.2.2.2.1 (k)))) (C := RX1) (T := TX1) (N := 3) hx hb hts hinX1 hown hK (wX_sh hP (k := k) (by omega)) 0 rfl rfl 2 (by decide) (hts (.fieldLink RX3 221 "OneShort$Sheet" "length" "I") (List.mem_of_getElem? (i := 1) rfl)) (fun _ h9 => h9) rfl dX3_trialGoesAs_4 ?_
      refine nv_icmp_ge (tgt := 58) hx hb (by omega) (by omega) dX3_trialGoesAs_7 (by decide) (fun c1 => ?_) (fun c1 => ?_)
      · refine lv_iconst (v := nI (1)) hx hb dX3_trialGoesAs_58 (by decide) ?_
        refine nv_cv (show nI (1) = bI (goA T (X.2.2.2.2.2.2.2.1 k) (X.2.2.2.2.2.2.2.2 k) q) from nv_t (goA_t (fun j hj => h_u j (by omega)))) ?_
        exact mu_zret hx hb hr hlocks hS (⟨_, _, _, _, _, hP⟩) dX3_trialGoesAs_59
      · refine lv_iload_n hx hb dX3_trialGoesAs_10 rfl (lv_at hl 0 rfl) ?_
        refine nv_ifle (tgt := 22) hx hb (by omega) dX3_trialGoesAs_11 (by decide) (fun c2 => ?_) (fun c2 => ?_)
        · refine lv_aload_n hx hb dX3_trialGoesAs_22 rfl (lv_at hl 2 rfl) ?_
          refine va_get (D := D) (ci := 1) (v := .ref (ad (41 + 2 * (k)))) (C := RX1) (T := TX1) (N := 3) hx hb hts hinX1 hown hK (wX_sh hP (k := k) (by omega)) 0 rfl rfl 0 (by decide) (hts (.fieldLink RX3 237 "OneShort$Sheet" "numbers" "[I") (List.mem_of_getElem? (i := 3) rfl)) (fun _ h9 => h9) rfl dX3_trialGoesAs_23 ?_
          refine lv_iload_n hx hb dX3_trialGoesAs_26 rfl (lv_at hl 0 rfl) ?_
          refine nv_iald (v := X.2.2.2.2.2.2.2.2 (k) (i)) hx hb hK (wX_sh hP (k := k) (by omega)) 1 0 rfl rfl (by omega) (by decide) rfl dX3_trialGoesAs_27 ?_
          refine lv_istore (lv' := [(4, .int (X.2.2.2.2.2.2.2.2 (k) (i))), (3, .int (nI i)), (0, .ref (ad 0)), (1, .ref (ad (40 + 2 * (k)))), (2, .int (nI q))]) hx hb dX3_trialGoesAs_28 hl (by decide) rfl (fun ls hl => ?_)
          refine lv_iload hx hb dX3_trialGoesAs_30 (lv_at hl 0 rfl) ?_
          refine lv_iconst (v := -1) hx hb dX3_trialGoesAs_32 (by decide) ?_
          refine lv_icmp_eq (tgt := 52) hx hb dX3_trialGoesAs_33 (by decide) (fun c3 => ?_) (fun c3 => ?_)
          · refine nv_iinc1 (lv' := [(3, .int (nI (i + 1))), (4, .int (X.2.2.2.2.2.2.2.2 (k) (i))), (0, .ref (ad 0)), (1, .ref (ad (40 + 2 * (k)))), (2, .int (nI q))]) hx hb dX3_trialGoesAs_52 hl (k := 1) rfl (by decide) rfl (fun ls hl => ?_)
            refine lv_goto (tgt := 2) hx hb dX3_trialGoesAs_55 (by decide) ?_
            exact ih2 (i + 1) (by omega) (by omega) (all_f h_u (by first | exact badA_1 c3 | exact badA_2 c3)) (nI (i + 1)) rfl (z) _ _ (va_P.re (by rfl) hP) hS ls (lv_sub hl [0, 2, 3, 4] rfl)
          · refine lv_iload hx hb dX3_trialGoesAs_36 (lv_at hl 0 rfl) ?_
            refine lv_aload_n hx hb dX3_trialGoesAs_38 rfl (lv_at hl 2 rfl) ?_
            refine va_get (D := D) (ci := 3) (v := .ref (ad 16)) (C := RX3) (T := TX3) (N := 9) hx hb hts hinX3 hown hK hP 0 rfl rfl 1 (by decide) (hts (.fieldLink RX3 16 "OneShort" "trial" "LOneShort$Orchestra;") (List.mem_of_getElem? (i := 2) rfl)) (fun _ h9 => h9) rfl dX3_trialGoesAs_39 ?_
            refine va_get (D := D) (ci := 0) (v := .ref (ad 22)) (C := RX0) (T := TX0) (N := 13) hx hb hts hinX0 hown hK hP 16 rfl rfl 5 (by decide) (hts (.fieldLink RX3 96 "OneShort$Orchestra" "nerve" "[I") (List.mem_of_getElem? (i := 4) rfl)) (fun _ h9 => h9) rfl dX3_trialGoesAs_42 ?_
            refine lv_iload_n hx hb dX3_trialGoesAs_45 rfl (lv_at hl 4 rfl) ?_
            have f4 := hWFi.f5 (q)
            refine nv_iald (v := nI ((evCn T (i - 1)) 5 (q))) hx hb hK hP 22 0 rfl rfl (by omega) (by decide) rfl dX3_trialGoesAs_46 ?_
            refine lv_icmp_eq (tgt := 52) hx hb dX3_trialGoesAs_47 (by decide) (fun c5 => ?_) (fun c5 => ?_)
            · refine nv_iinc1 (lv' := [(3, .int (nI (i + 1))), (4, .int (X.2.2.2.2.2.2.2.2 (k) (i))), (0, .ref (ad 0)), (1, .ref (ad (40 + 2 * (k)))), (2, .int (nI q))]) hx hb dX3_trialGoesAs_52 hl (k := 1) rfl (by decide) rfl (fun ls hl => ?_)
              refine lv_goto (tgt := 2) hx hb dX3_trialGoesAs_55 (by decide) ?_
              exact ih2 (i + 1) (by omega) (by omega) (all_f h_u (by first | exact badA_1 c5 | exact badA_2 c5)) (nI (i + 1)) rfl (z) _ _ (va_P.re (by rfl) hP) hS ls (lv_sub hl [0, 2, 3, 4] rfl)
            · refine lv_iconst (v := nI (0)) hx hb dX3_trialGoesAs_50 (by decide) ?_
              refine nv_cv (show nI (0) = bI (goA T (X.2.2.2.2.2.2.2.1 k) (X.2.2.2.2.2.2.2.2 k) q) from nv_f (goA_f (by omega) (badA_t c3 c5))) ?_
              exact mu_zret hx hb hr hlocks hS (⟨_, _, _, _, _, hP⟩) dX3_trialGoesAs_51
        · refine lv_aload_n hx hb dX3_trialGoesAs_14 rfl (lv_at hl 1 rfl) ?_
          refine va_get (D := D) (ci := 3) (v := .ref (ad 16)) (C := RX3) (T := TX3) (N := 9) hx hb hts hinX3 hown hK hP 0 rfl rfl 1 (by decide) (hts (.fieldLink RX3 16 "OneShort" "trial" "LOneShort$Orchestra;") (List.mem_of_getElem? (i := 2) rfl)) (fun _ h9 => h9) rfl dX3_trialGoesAs_15 ?_
          refine mu_V (n := 0) (As := []) (rest := []) ⟨hx, hb, hml, hown, hts⟩ (c_X0_passEvening l D ci G ka (sh ad 16) (evCn T (i - 1)) (z 3) (z 4) (z 5) (injA_sh hI (by decide)) (G_sh hG (by decide))  hWFi) gX3_trialGoesAs_X0_passEvening rfl ⟨rfl, rfl⟩ (by decide +kernel) rfl ⟨Nat.le_of_ble_eq_true rfl, Nat.le_of_ble_eq_true rfl⟩ hE (en_S hGA hs0 hS) hK (wX_s16 hP) (ci := 0) (q0 := 0) rfl rfl hl.1 rfl (Nat.le_of_ble_eq_true rfl) dX3_trialGoesAs_18 ⟨Nat.zero_le _, Nat.zero_le _⟩ hS (fun q h => aR_X (by decide) q (aO_sh q h)) (fun H1 locs hz hfr hB hS => ?_)
          obtain ⟨w9, r9, nb9, hB⟩ := hB
          have hP := wX_j16 hI hP hfr hB
          obtain ⟨z, hP⟩ : ∃ z, va_P D vwCl (wX ci ad X (eveC (evCn T (i - 1))) tq la tt z) H1 := ⟨_, hP⟩
          generalize H1 = H at hP hS ⊢
          have hD : va_D (aX ad) (wX ci ad X (eveC (evCn T (i - 1))) tq la tt z) := wX_D hI
          refine lv_pop hx hb dX3_trialGoesAs_21 rfl ?_
          refine lv_aload_n hx hb dX3_trialGoesAs_22 rfl (lv_at hl 2 rfl) ?_
          refine va_get (D := D) (ci := 1) (v := .ref (ad (41 + 2 * (k)))) (C := RX1) (T := TX1) (N := 3) hx hb hts hinX1 hown hK (wX_sh hP (k := k) (by omega)) 0 rfl rfl 0 (by decide) (hts (.fieldLink RX3 237 "OneShort$Sheet" "numbers" "[I") (List.mem_of_getElem? (i := 3) rfl)) (fun _ h9 => h9) rfl dX3_trialGoesAs_23 ?_
          refine lv_iload_n hx hb dX3_trialGoesAs_26 rfl (lv_at hl 0 rfl) ?_
          refine nv_iald (v := X.2.2.2.2.2.2.2.2 (k) (i)) hx hb hK (wX_sh hP (k := k) (by omega)) 1 0 rfl rfl (by omega) (by decide) rfl dX3_trialGoesAs_27 ?_
          refine lv_istore (lv' := [(4, .int (X.2.2.2.2.2.2.2.2 (k) (i))), (3, .int (nI i)), (0, .ref (ad 0)), (1, .ref (ad (40 + 2 * (k)))), (2, .int (nI q))]) hx hb dX3_trialGoesAs_28 hl (by decide) rfl (fun ls hl => ?_)
          refine lv_iload hx hb dX3_trialGoesAs_30 (lv_at hl 0 rfl) ?_
          refine lv_iconst (v := -1) hx hb dX3_trialGoesAs_32 (by decide) ?_
          refine lv_icmp_eq (tgt := 52) hx hb dX3_trialGoesAs_33 (by decide) (fun c6 => ?_) (fun c6 => ?_)
          · refine nv_iinc1 (lv' := [(3, .int (nI (i + 1))), (4, .int (X.2.2.2.2.2.2.2.2 (k) (i))), (0, .ref (ad 0)), (1, .ref (ad (40 + 2 * (k)))), (2, .int (nI q))]) hx hb dX3_trialGoesAs_52 hl (k := 1) rfl (by decide) rfl (fun ls hl => ?_)
            refine lv_goto (tgt := 2) hx hb dX3_trialGoesAs_55 (by decide) ?_
            exact ih2 (i + 1) (by omega) (by omega) (all_f h_u (by first | exact badA_1 c6 | exact badA_2 c6)) (nI (i + 1)) rfl (z) _ _ (va_P.re (by rfl) hP) hS ls (lv_sub hl [0, 2, 3, 4] rfl)
          · refine lv_iload hx hb dX3_trialGoesAs_36 (lv_at hl 0 rfl) ?_
            refine lv_aload_n hx hb dX3_trialGoesAs_38 rfl (lv_at hl 2 rfl) ?_
            refine va_get (D := D) (ci := 3) (v := .ref (ad 16)) (C := RX3) (T := TX3) (N := 9) hx hb hts hinX3 hown hK hP 0 rfl rfl 1 (by decide) (hts (.fieldLink RX3 16 "OneShort" "trial" "LOneShort$Orchestra;") (List.mem_of_getElem? (i := 2) rfl)) (fun _ h9 => h9) rfl dX3_trialGoesAs_39 ?_
            refine va_get (D := D) (ci := 0) (v := .ref (ad 22)) (C := RX0) (T := TX0) (N := 13) hx hb hts hinX0 hown hK hP 16 rfl rfl 5 (by decide) (hts (.fieldLink RX3 96 "OneShort$Orchestra" "nerve" "[I") (List.mem_of_getElem? (i := 4) rfl)) (fun _ h9 => h9) rfl dX3_trialGoesAs_42 ?_
            refine lv_iload_n hx hb dX3_trialGoesAs_45 rfl (lv_at hl 4 rfl) ?_
            refine nv_iald (v := nI ((eveC (evCn T (i - 1))) 5 (q))) hx hb hK hP 22 0 rfl rfl (by omega) (by decide) rfl dX3_trialGoesAs_46 ?_
            refine lv_icmp_eq (tgt := 52) hx hb dX3_trialGoesAs_47 (by decide) (fun c7 => ?_) (fun c7 => ?_)
            · refine nv_iinc1 (lv' := [(3, .int (nI (i + 1))), (4, .int (X.2.2.2.2.2.2.2.2 (k) (i))), (0, .ref (ad 0)), (1, .ref (ad (40 + 2 * (k)))), (2, .int (nI q))]) hx hb dX3_trialGoesAs_52 hl (k := 1) rfl (by decide) rfl (fun ls hl => ?_)
              refine lv_goto (tgt := 2) hx hb dX3_trialGoesAs_55 (by decide) ?_
              exact ih2 (i + 1) (by omega) (by omega) (all_f h_u (by first | exact badA_1 c7 | exact badA_2 c7)) (nI (i + 1)) rfl (z) _ _ (va_P.re (by rfl) hP) hS ls (lv_sub hl [0, 2, 3, 4] rfl)
            · refine lv_iconst (v := nI (0)) hx hb dX3_trialGoesAs_50 (by decide) ?_
              refine nv_cv (show nI (0) = bI (goA T (X.2.2.2.2.2.2.2.1 k) (X.2.2.2.2.2.2.2.2 k) q) from nv_f (goA_f (by omega) (badA_t c6 c7))) ?_
              exact mu_zret hx hb hr hlocks hS (⟨_, _, _, _, _, hP⟩) dX3_trialGoesAs_51
  exact L2 _ (0) (Nat.lt_succ_self _) (by omega) (fun _ h => absurd h (Nat.not_lt_zero _)) (nI (0)) rfl (z) _ _ (va_P.re (by rfl) hP) hS ls (lv_sub hl [0, 1, 2, 3] rfl)

set_option maxHeartbeats 4000000 in
set_option maxRecDepth 100000 in
/-- X3_fitting -/
theorem c_X3_fitting_part (l : Launch) (D : va_G) (ci : Nat → ClassId) (G : Nat → Prop) (ka : Nat) (ad : Nat → Nat) (X : AS) (T : OS) (tq la tt : Nat → Int32) (z : Nat → Nat → Int32) (hI : injA ad 48) (hG : ∀ k, k < 48 → G (ad k)) (s_ q : Int32) (hWX : WFX X) : Met l yX3_fitting wsX3_fitting ({ frames := 5, cells := 0, slots := 0, locals := 132 } : Room) (va_Pc [.ref (ad 0), .int (s_), .int (q), .ref (ad 20), .int (nI 6)] (ro_B D (tyL ci) (wX ci ad X T tq la tt z) (en D (ci 0) G ka))) (mu_Q (aX ad) (some (.int ((p_fitg 3 6 X s_ q).1))) (fun H => ∃ T tq la tt z, va_P D vwCl (wX ci ad ((p_fitg 3 6 X s_ q).2) T tq la tt z) H)) 0 0 (aX ad) := by
  refine mu_Met (cc := cX3_fitting) (maxL := 8) (ret := (some .int)) [(0, .ref (ad 0)), (1, .int (s_)), (2, .int (q)), (3, .ref (ad 20)), (4, .int (nI 6))] (wX_D hI) (by decide) rfl (Nat.le_of_ble_eq_true rfl) rfl ?_
  intro p e s m below meth c H locs hx hb hml hr hlocks hts hown hP hK hs0 hD hS ls hl
  have hown : s.vm.findClass RX3 = some m.cls := hown
  have hinX3 : ∀ w ∈ wsX30, w ∈ wsX3_fitting := by decide +kernel
  have hE := hE_en D (ci 0) G ka
  have hWF := hWX.w
  have f_n := hWF.n
  have f_e := hWX.e
  have f_tl := hWX.t
  have hGA := aX_G hG
  have hWK := hWX.k
  refine lv_aload_n hx hb dX3_fitting_0 rfl (lv_at hl 0 rfl) ?_
  refine lv_iload_n hx hb dX3_fitting_1 rfl (lv_at hl 1 rfl) ?_
  refine ro_V (n := 1) (As := [.int (s_)]) (rest := []) ⟨hx, hb, hml, hown, hts⟩ (c_X3_lackOf l D ci G ka ad X T tq la tt z (s_) hWX) gX3_fitting_X3_lackOf rfl ⟨rfl, rfl⟩ (by decide +kernel) rfl ⟨Nat.le_of_ble_eq_true rfl, Nat.le_of_ble_eq_true rfl⟩ hE (en_S hGA hs0 hS) hK hP (ci := 3) (q0 := 0) rfl rfl hl.1 rfl (Nat.le_of_ble_eq_true rfl) dX3_fitting_2 ⟨Nat.zero_le _, Nat.zero_le _⟩ ?_
  refine lv_istore (lv' := [(5, .int (lk (lackN X s_))), (0, .ref (ad 0)), (1, .int (s_)), (2, .int (q)), (3, .ref (ad 20)), (4, .int (nI 6))]) hx hb dX3_fitting_5 hl (by decide) rfl (fun ls hl => ?_)
  refine lv_iload hx hb dX3_fitting_7 (lv_at hl 0 rfl) ?_
  refine lv_iconst (v := -1) hx hb dX3_fitting_9 (by decide) ?_
  refine lv_icmp_ne (tgt := 21) hx hb dX3_fitting_10 (by decide) (fun c1 => ?_) (fun c1 => ?_)
  · have q2 := lk_ne c1
    have e3 := lk_nI q2
    rw [e3] at hl
    have f4 := lack_lt q2
    refine lv_aload_n hx hb dX3_fitting_21 rfl (lv_at hl 1 rfl) ?_
    refine lv_iload hx hb dX3_fitting_22 (lv_at hl 0 rfl) ?_
    refine lv_iconst (v := -1) hx hb dX3_fitting_24 (by decide) ?_
    refine lv_icmp_eq (tgt := 33) hx hb dX3_fitting_25 (by decide) (fun h => absurd h (nI_m1 (by omega))) (fun _ => ?_)
    refine lv_iload hx hb dX3_fitting_28 (lv_at hl 0 rfl) ?_
    refine lv_goto (tgt := 34) hx hb dX3_fitting_30 (by decide) ?_
    refine mu_V (n := 1) (As := [.int (nI (lackN X s_))]) (rest := []) ⟨hx, hb, hml, hown, hts⟩ (c_X3_finding l D ci G ka ad X T tq la tt z hI hG (lackN X s_) hWX (by omega)) gX3_fitting_X3_finding rfl ⟨rfl, rfl⟩ (by decide +kernel) rfl ⟨Nat.le_of_ble_eq_true rfl, Nat.le_of_ble_eq_true rfl⟩ hE (en_S hGA hs0 hS) hK hP (ci := 3) (q0 := 0) rfl rfl hl.1 rfl (Nat.le_of_ble_eq_true rfl) dX3_fitting_34 ⟨Nat.zero_le _, Nat.zero_le _⟩ hS (fun _ h => h) (fun H1 locs hz hfr hB hS => ?_)
    obtain ⟨T, tq, la, tt, z, hP⟩ := hB
    generalize H1 = H at hP hS ⊢
    have hD : va_D (aX ad) (wX ci ad (toF X (inc X.2.2.2.1 (lackN X s_))) T tq la tt z) := wX_D hI
    have hp : p_fitg 3 6 X s_ q = (fnd (lackN X s_), toF X (inc X.2.2.2.1 (lackN X s_))) := by first | (simp [p_fitg, bk, fl_eq, inP, c1, q2]; done) | (simp [p_fitg, bk, fl_eq, inP, show i = 6 by omega, c1, q2]; done)
    refine nv_cv (show fnd (lackN X s_) = (p_fitg 3 6 X s_ q).1 from by rw [hp]) ?_
    exact mu_iret hx hb hr hlocks hS ((by rw [hp]; exact ⟨_, _, _, _, _, hP⟩)) dX3_fitting_37
  · have q6 := lk_eq c1
    obtain ⟨s_n, h_s_n, h_bs_, rfl⟩ := lack_ok q6
    rw [c1] at hl
    have t_s_n : tn (nI s_n) = s_n := tn_nI (by omega)
    have f7 := hWX.sl s_n
    have f8 := sb_lt hWX s_n
    refine lv_aload_n hx hb dX3_fitting_13 rfl (lv_at hl 1 rfl) ?_
    refine lv_iload_n hx hb dX3_fitting_14 rfl (lv_at hl 3 rfl) ?_
    refine ro_V (n := 1) (As := [.int (q)]) (rest := []) ⟨hx, hb, hml, hown, hts⟩ (c_X3_isPlayer l D ci G ka ad X T tq la tt z (q) hWX) gX3_fitting_X3_isPlayer rfl ⟨rfl, rfl⟩ (by decide +kernel) rfl ⟨Nat.le_of_ble_eq_true rfl, Nat.le_of_ble_eq_true rfl⟩ hE (en_S hGA hs0 hS) hK hP (ci := 3) (q0 := 0) rfl rfl hl.1 rfl (Nat.le_of_ble_eq_true rfl) dX3_fitting_15 ⟨Nat.zero_le _, Nat.zero_le _⟩ ?_
    refine nv_ifne_b (tgt := 38) hx hb dX3_fitting_18 (by decide) (fun c9 => ?_) (fun c9 => ?_)
    · obtain ⟨qn, h_qn, rfl⟩ := in_ex c9 (by omega)
      have t_qn : tn (nI qn) = qn := tn_nI (by omega)
      refine lv_iconst (v := nI (0)) hx hb dX3_fitting_38 (by decide) ?_
      refine lv_istore (lv' := [(6, .int (nI 0)), (5, .int (-1)), (0, .ref (ad 0)), (1, .int (nI s_n)), (2, .int (nI qn)), (3, .ref (ad 20)), (4, .int (nI 6))]) hx hb dX3_fitting_39 hl (by decide) rfl (fun ls hl => ?_)
      refine lv_iconst (v := nI (0)) hx hb dX3_fitting_41 (by decide) ?_
      refine lv_istore (lv' := [(7, .int (nI 0)), (6, .int (nI 0)), (5, .int (-1)), (0, .ref (ad 0)), (1, .int (nI s_n)), (2, .int (nI qn)), (3, .ref (ad 20)), (4, .int (nI 6))]) hx hb dX3_fitting_42 hl (by decide) rfl (fun ls hl => ?_)
      have L44 : ∀ (k44 : Nat) (i : Nat), 6 - i < k44 → (i ≤ 6) → ∀ (x6 x7 : Int32), x6 = nI (setTo (fun v => goA (st X.1 3 qn v) (X.2.2.2.2.2.2.2.1 s_n) (X.2.2.2.2.2.2.2.2 s_n) qn) (i)) → x7 = nI (i) → ∀ (T : OS) (z : Nat → Nat → Int32), ∀ (H : Heap) (locs : List Loc), va_P D vwCl (wX ci ad X T tq la tt z) H → va_S (aX ad) s.heap H locs → ∀ ls : Array Slot, lv_has ls 8 [(6, .int (x6)), (7, .int (x7)), (5, .int (-1)), (0, .ref (ad 0)), (1, .int (nI s_n)), (2, .int (nI qn)), (3, .ref (ad 20)), (4, .int (nI 6))] → W p l e (headSpec wsX3_fitting ({ frames := 5, cells := 0, slots := 0, locals := 132 } : Room)).room s m ([.ref (ad 0), .int (nI s_n), .int (nI qn), .ref (ad 20), .int (nI 6)] : List Value).toArray below meth c H locs 0 0 (MQ below (mu_Q (aX ad) (some (.int ((p_fitg 3 6 X (nI s_n) (nI qn)).1))) (fun H => ∃ T tq la tt z, va_P D vwCl (wX ci ad ((p_fitg 3 6 X (nI s_n) (nI qn)).2) T tq la tt z) H)) ([.ref (ad 0), .int (nI s_n), .int (nI qn), .ref (ad 20), .int (nI 6)] : List Value).toArray s 0 0 (aX ad)) (F0 m 44 ls []) := by
        intro k44
        induction k44 with
        | zero => intro i h0; exact absurd h0 (Nat.not_lt_zero _)
        | succ k44 ih44 =>
          intro i hk44 h_i x6 x7 e6 e7 T z H locs hP hS ls hl
          subst e6
          subst e7
          have hD : va_D (aX ad) (wX ci ad X T tq la tt z) := wX_D hI
          refine lv_iload hx hb dX3_fitting_44 (lv_at hl 1 rfl) ?_
          refine lv_iload hx hb dX3_fitting_46 (lv_at hl 7 rfl) ?_
          refine nv_icmp_ge (tgt := 96) hx hb (by omega) (by omega) dX3_fitting_48 (by decide) (fun c10 => ?_) (fun c10 => ?_)
          · refine lv_iload hx hb dX3_fitting_96 (lv_at hl 0 rfl) ?_
            have hp : p_fitg 3 6 X (nI s_n) (nI qn) = (nI (setTo (fun v => goA (st X.1 3 qn v) (X.2.2.2.2.2.2.2.1 s_n) (X.2.2.2.2.2.2.2.2 s_n) qn) (i)), X) := by first | (simp [p_fitg, bk, fl_eq, inP, c1, c9, c10, q6, t_s_n, h_bs_, t_qn]; done) | (simp [p_fitg, bk, fl_eq, inP, show i = 6 by omega, c1, c9, c10, q6, t_s_n, h_bs_, t_qn]; done)
            refine nv_cv (show nI (setTo (fun v => goA (st X.1 3 qn v) (X.2.2.2.2.2.2.2.1 s_n) (X.2.2.2.2.2.2.2.2 s_n) qn) (i)) = (p_fitg 3 6 X (nI s_n) (nI qn)).1 from by rw [hp]) ?_
            exact mu_iret hx hb hr hlocks hS ((by rw [hp]; exact ⟨_, _, _, _, _, hP⟩)) dX3_fitting_98
          · refine lv_aload_n hx hb dX3_fitting_51 rfl (lv_at hl 3 rfl) ?_
            refine va_get (D := D) (ci := 3) (v := .ref (ad 16)) (C := RX3) (T := TX3) (N := 9) hx hb hts hinX3 hown hK hP 0 rfl rfl 1 (by decide) (hts (.fieldLink RX3 16 "OneShort" "trial" "LOneShort$Orchestra;") (List.mem_of_getElem? (i := 1) rfl)) (fun _ h9 => h9) rfl dX3_fitting_52 ?_
            refine lv_aload_n hx hb dX3_fitting_55 rfl (lv_at hl 3 rfl) ?_
            refine va_get (D := D) (ci := 3) (v := .ref (ad 5)) (C := RX3) (T := TX3) (N := 9) hx hb hts hinX3 hown hK hP 0 rfl rfl 0 (by decide) (hts (.fieldLink RX3 10 "OneShort" "orchestra" "LOneShort$Orchestra;") (List.mem_of_getElem? (i := 2) rfl)) (fun _ h9 => h9) rfl dX3_fitting_56 ?_
            refine mu_V (n := 1) (As := [.ref (ad 5)]) (rest := []) ⟨hx, hb, hml, hown, hts⟩ (c_X0_become l D ci G ka (sh ad 16) T (z 3) (z 4) (z 5) (sh ad 5) X.1 (z 0) (z 1) (z 2) (wX_D2 hI (by decide) (by decide) (by decide) _ _ _ _ _ _ _ _) (aO2_G (G_sh hG (by decide)) (G_sh hG (by decide)))  ) gX3_fitting_X0_become rfl ⟨rfl, rfl⟩ (by decide +kernel) rfl ⟨Nat.le_of_ble_eq_true rfl, Nat.le_of_ble_eq_true rfl⟩ hE (en_S hGA hs0 hS) hK (va_P.app (wX_s16 hP) (wX_s5 hP)) (ci := 0) (q0 := 0) rfl rfl hl.1 rfl (Nat.le_of_ble_eq_true rfl) dX3_fitting_59 ⟨Nat.zero_le _, Nat.zero_le _⟩ hS (fun q h => h.elim (fun h => aR_X (by decide) q (aO_sh q h)) (fun h => aR_X (by decide) q (aO_sh q h))) (fun H1 locs hz hfr hB hS => ?_)
            have hP := wX_j16_5 hI hP hfr hB
            generalize H1 = H at hP hS ⊢
            have hD : va_D (aX ad) (wX ci ad X X.1 tq la tt z) := wX_D hI
            refine lv_aload_n hx hb dX3_fitting_62 rfl (lv_at hl 6 rfl) ?_
            refine lv_iload_n hx hb dX3_fitting_63 rfl (lv_at hl 5 rfl) ?_
            refine lv_iload hx hb dX3_fitting_64 (lv_at hl 1 rfl) ?_
            refine nv_iast hx hb hK hP hD hS 20 0 rfl rfl (by omega) (by decide) dX3_fitting_66 (fun H locs hP hD hS => ?_)
            have hP := va_P.re (wX_t3 ci ad X X.1 tq la tt z (qn) (i)) hP
            have hD := va_D.re (wX_t3 ci ad X X.1 tq la tt z (qn) (i)) hD
            refine lv_aload_n hx hb dX3_fitting_67 rfl (lv_at hl 3 rfl) ?_
            refine lv_aload_n hx hb dX3_fitting_68 rfl (lv_at hl 3 rfl) ?_
            refine va_get (D := D) (ci := 3) (v := .ref (ad 1)) (C := RX3) (T := TX3) (N := 9) hx hb hts hinX3 hown hK hP 0 rfl rfl 5 (by decide) (hts (.fieldLink RX3 35 "OneShort" "sheets" "[LOneShort$Sheet;") (List.mem_of_getElem? (i := 3) rfl)) (fun _ h9 => h9) rfl dX3_fitting_69 ?_
            refine lv_iload_n hx hb dX3_fitting_72 rfl (lv_at hl 4 rfl) ?_
            refine nv_aald (v := .ref (ad (40 + 2 * (s_n)))) hx hb hK hP 1 1 rfl rfl (by omega) (by decide) rfl dX3_fitting_73 ?_
            refine lv_iload_n hx hb dX3_fitting_74 rfl (lv_at hl 5 rfl) ?_
            refine mu_V (n := 2) (As := [.ref (ad (40 + 2 * (s_n))), .int (nI qn)]) (rest := []) ⟨hx, hb, hml, hown, hts⟩ (c_X3_trialGoesAs l D ci G ka ad X (st X.1 3 (qn) (i)) tq la tt z hI hG (s_n) (qn) hWX (by omega) (by omega) (WF_st3 hWF qn (by omega))) gX3_fitting_X3_trialGoesAs rfl ⟨rfl, rfl⟩ (by decide +kernel) rfl ⟨Nat.le_of_ble_eq_true rfl, Nat.le_of_ble_eq_true rfl⟩ hE (en_S hGA hs0 hS) hK hP (ci := 3) (q0 := 0) rfl rfl hl.1 rfl (Nat.le_of_ble_eq_true rfl) dX3_fitting_75 ⟨Nat.zero_le _, Nat.zero_le _⟩ hS (fun _ h => h) (fun H1 locs hz hfr hB hS => ?_)
            obtain ⟨T, tq, la, tt, z, hP⟩ := hB
            generalize H1 = H at hP hS ⊢
            have hD : va_D (aX ad) (wX ci ad X T tq la tt z) := wX_D hI
            refine nv_ifeq_b (tgt := 90) hx hb dX3_fitting_78 (by decide) (fun c11 => ?_) (fun c11 => ?_)
            · refine nv_iinc1 (lv' := [(7, .int (nI (i + 1))), (6, .int (nI (setTo (fun v => goA (st X.1 3 qn v) (X.2.2.2.2.2.2.2.1 s_n) (X.2.2.2.2.2.2.2.2 s_n) qn) (i)))), (5, .int (-1)), (0, .ref (ad 0)), (1, .int (nI s_n)), (2, .int (nI qn)), (3, .ref (ad 20)), (4, .int (nI 6))]) hx hb dX3_fitting_90 hl (k := 1) rfl (by decide) rfl (fun ls hl => ?_)
              refine lv_goto (tgt := 44) hx hb dX3_fitting_93 (by decide) ?_
              exact ih44 (i + 1) (by omega) (by omega) (nI (setTo (fun v => goA (st X.1 3 qn v) (X.2.2.2.2.2.2.2.1 s_n) (X.2.2.2.2.2.2.2.2 s_n) qn) (i))) (nI (i + 1)) (nv_e (by first | exact setTo_t c11 | exact setTo_f c11)) rfl (T) (z) _ _ hP hS ls (lv_sub hl [1, 0, 2, 3, 4, 5, 6, 7] rfl)
            · refine lv_iload hx hb dX3_fitting_81 (lv_at hl 0 rfl) ?_
              refine lv_iconst (v := nI (1)) hx hb dX3_fitting_83 (by decide) ?_
              refine lv_iload hx hb dX3_fitting_84 (lv_at hl 1 rfl) ?_
              refine nv_ishl hx hb (by omega) dX3_fitting_86 ?_
              refine nv_ior hx hb dX3_fitting_87 ?_
              refine lv_istore (lv' := [(6, .int (nI ((setTo (fun v => goA (st X.1 3 qn v) (X.2.2.2.2.2.2.2.1 s_n) (X.2.2.2.2.2.2.2.2 s_n) qn) (i) ||| (1 * 2 ^ (i)))))), (7, .int (nI i)), (5, .int (-1)), (0, .ref (ad 0)), (1, .int (nI s_n)), (2, .int (nI qn)), (3, .ref (ad 20)), (4, .int (nI 6))]) hx hb dX3_fitting_88 hl (by decide) rfl (fun ls hl => ?_)
              refine nv_iinc1 (lv' := [(7, .int (nI (i + 1))), (6, .int (nI ((setTo (fun v => goA (st X.1 3 qn v) (X.2.2.2.2.2.2.2.1 s_n) (X.2.2.2.2.2.2.2.2 s_n) qn) (i) ||| (1 * 2 ^ (i)))))), (5, .int (-1)), (0, .ref (ad 0)), (1, .int (nI s_n)), (2, .int (nI qn)), (3, .ref (ad 20)), (4, .int (nI 6))]) hx hb dX3_fitting_90 hl (k := 1) rfl (by decide) rfl (fun ls hl => ?_)
              refine lv_goto (tgt := 44) hx hb dX3_fitting_93 (by decide) ?_
              exact ih44 (i + 1) (by omega) (by omega) (nI ((setTo (fun v => goA (st X.1 3 qn v) (X.2.2.2.2.2.2.2.1 s_n) (X.2.2.2.2.2.2.2.2 s_n) qn) (i) ||| (1 * 2 ^ (i))))) (nI (i + 1)) (nv_e (by first | exact setTo_t c11 | exact setTo_f c11)) rfl (T) (z) _ _ hP hS ls (lv_sub hl [1, 0, 2, 3, 4, 5, 6, 7] rfl)
      exact L44 _ (0) (Nat.lt_succ_self _) (by omega) (nI (0)) (nI (0)) rfl rfl (T) (z) _ _ hP hS ls (lv_sub hl [1, 0, 2, 3, 4, 5, 6, 7] rfl)
    · refine lv_aload_n hx hb dX3_fitting_21 rfl (lv_at hl 1 rfl) ?_
      refine lv_iload hx hb dX3_fitting_22 (lv_at hl 0 rfl) ?_
      refine lv_iconst (v := -1) hx hb dX3_fitting_24 (by decide) ?_
      refine lv_icmp_eq (tgt := 33) hx hb dX3_fitting_25 (by decide) (fun _ => ?_) (fun h => absurd rfl h)
      refine lv_iconst (v := nI (0)) hx hb dX3_fitting_33 (by decide) ?_
      refine mu_V (n := 1) (As := [.int (nI 0)]) (rest := []) ⟨hx, hb, hml, hown, hts⟩ (c_X3_finding l D ci G ka ad X T tq la tt z hI hG (0) hWX (by omega)) gX3_fitting_X3_finding rfl ⟨rfl, rfl⟩ (by decide +kernel) rfl ⟨Nat.le_of_ble_eq_true rfl, Nat.le_of_ble_eq_true rfl⟩ hE (en_S hGA hs0 hS) hK hP (ci := 3) (q0 := 0) rfl rfl hl.1 rfl (Nat.le_of_ble_eq_true rfl) dX3_fitting_34 ⟨Nat.zero_le _, Nat.zero_le _⟩ hS (fun _ h => h) (fun H1 locs hz hfr hB hS => ?_)
      obtain ⟨T, tq, la, tt, z, hP⟩ := hB
      generalize H1 = H at hP hS ⊢
      have hD : va_D (aX ad) (wX ci ad (toF X (inc X.2.2.2.1 0)) T tq la tt z) := wX_D hI
      have hp : p_fitg 3 6 X (nI s_n) q = (fnd 0, toF X (inc X.2.2.2.1 0)) := by first | (simp [p_fitg, bk, fl_eq, inP, c1, c9, q6, t_s_n, h_bs_]; done) | (simp [p_fitg, bk, fl_eq, inP, show i = 6 by omega, c1, c9, q6, t_s_n, h_bs_]; done)
      refine nv_cv (show fnd 0 = (p_fitg 3 6 X (nI s_n) q).1 from by rw [hp]) ?_
      exact mu_iret hx hb hr hlocks hS ((by rw [hp]; exact ⟨_, _, _, _, _, hP⟩)) dX3_fitting_37

set_option maxHeartbeats 4000000 in
set_option maxRecDepth 100000 in
/-- X3_fitting -/
theorem c_X3_fitting_kind (l : Launch) (D : va_G) (ci : Nat → ClassId) (G : Nat → Prop) (ka : Nat) (ad : Nat → Nat) (X : AS) (T : OS) (tq la tt : Nat → Int32) (z : Nat → Nat → Int32) (hI : injA ad 48) (hG : ∀ k, k < 48 → G (ad k)) (s_ q : Int32) (hWX : WFX X) : Met l yX3_fitting wsX3_fitting ({ frames := 5, cells := 0, slots := 0, locals := 132 } : Room) (va_Pc [.ref (ad 0), .int (s_), .int (q), .ref (ad 18), .int (nI 7)] (ro_B D (tyL ci) (wX ci ad X T tq la tt z) (en D (ci 0) G ka))) (mu_Q (aX ad) (some (.int ((p_fitg 1 7 X s_ q).1))) (fun H => ∃ T tq la tt z, va_P D vwCl (wX ci ad ((p_fitg 1 7 X s_ q).2) T tq la tt z) H)) 0 0 (aX ad) := by
  refine mu_Met (cc := cX3_fitting) (maxL := 8) (ret := (some .int)) [(0, .ref (ad 0)), (1, .int (s_)), (2, .int (q)), (3, .ref (ad 18)), (4, .int (nI 7))] (wX_D hI) (by decide) rfl (Nat.le_of_ble_eq_true rfl) rfl ?_
  intro p e s m below meth c H locs hx hb hml hr hlocks hts hown hP hK hs0 hD hS ls hl
  have hown : s.vm.findClass RX3 = some m.cls := hown
  have hinX3 : ∀ w ∈ wsX30, w ∈ wsX3_fitting := by decide +kernel
  have hE := hE_en D (ci 0) G ka
  have hWF := hWX.w
  have f_n := hWF.n
  have f_e := hWX.e
  have f_tl := hWX.t
  have hGA := aX_G hG
  have hWK := hWX.k
  refine lv_aload_n hx hb dX3_fitting_0 rfl (lv_at hl 0 rfl) ?_
  refine lv_iload_n hx hb dX3_fitting_1 rfl (lv_at hl 1 rfl) ?_
  refine ro_V (n := 1) (As := [.int (s_)]) (rest := []) ⟨hx, hb, hml, hown, hts⟩ (c_X3_lackOf l D ci G ka ad X T tq la tt z (s_) hWX) gX3_fitting_X3_lackOf rfl ⟨rfl, rfl⟩ (by decide +kernel) rfl ⟨Nat.le_of_ble_eq_true rfl, Nat.le_of_ble_eq_true rfl⟩ hE (en_S hGA hs0 hS) hK hP (ci := 3) (q0 := 0) rfl rfl hl.1 rfl (Nat.le_of_ble_eq_true rfl) dX3_fitting_2 ⟨Nat.zero_le _, Nat.zero_le _⟩ ?_
  refine lv_istore (lv' := [(5, .int (lk (lackN X s_))), (0, .ref (ad 0)), (1, .int (s_)), (2, .int (q)), (3, .ref (ad 18)), (4, .int (nI 7))]) hx hb dX3_fitting_5 hl (by decide) rfl (fun ls hl => ?_)
  refine lv_iload hx hb dX3_fitting_7 (lv_at hl 0 rfl) ?_
  refine lv_iconst (v := -1) hx hb dX3_fitting_9 (by decide) ?_
  refine lv_icmp_ne (tgt := 21) hx hb dX3_fitting_10 (by decide) (fun c1 => ?_) (fun c1 => ?_)
  · have q2 := lk_ne c1
    have e3 := lk_nI q2
    rw [e3] at hl
    have f4 := lack_lt q2
    refine lv_aload_n hx hb dX3_fitting_21 rfl (lv_at hl 1 rfl) ?_
    refine lv_iload hx hb dX3_fitting_22 (lv_at hl 0 rfl) ?_
    refine lv_iconst (v := -1) hx hb dX3_fitting_24 (by decide) ?_
    refine lv_icmp_eq (tgt := 33) hx hb dX3_fitting_25 (by decide) (fun h => absurd h (nI_m1 (by omega))) (fun _ => ?_)
    refine lv_iload hx hb dX3_fitting_28 (lv_at hl 0 rfl) ?_
    refine lv_goto (tgt := 34) hx hb dX3_fitting_30 (by decide) ?_
    refine mu_V (n := 1) (As := [.int (nI (lackN X s_))]) (rest := []) ⟨hx, hb, hml, hown, hts⟩ (c_X3_finding l D ci G ka ad X T tq la tt z hI hG (lackN X s_) hWX (by omega)) gX3_fitting_X3_finding rfl ⟨rfl, rfl⟩ (by decide +kernel) rfl ⟨Nat.le_of_ble_eq_true rfl, Nat.le_of_ble_eq_true rfl⟩ hE (en_S hGA hs0 hS) hK hP (ci := 3) (q0 := 0) rfl rfl hl.1 rfl (Nat.le_of_ble_eq_true rfl) dX3_fitting_34 ⟨Nat.zero_le _, Nat.zero_le _⟩ hS (fun _ h => h) (fun H1 locs hz hfr hB hS => ?_)
    obtain ⟨T, tq, la, tt, z, hP⟩ := hB
    generalize H1 = H at hP hS ⊢
    have hD : va_D (aX ad) (wX ci ad (toF X (inc X.2.2.2.1 (lackN X s_))) T tq la tt z) := wX_D hI
    have hp : p_fitg 1 7 X s_ q = (fnd (lackN X s_), toF X (inc X.2.2.2.1 (lackN X s_))) := by first | (simp [p_fitg, bk, fl_eq, inP, c1, q2]; done) | (simp [p_fitg, bk, fl_eq, inP, show i = 7 by omega, c1, q2]; done)
    refine nv_cv (show fnd (lackN X s_) = (p_fitg 1 7 X s_ q).1 from by rw [hp]) ?_
    exact mu_iret hx hb hr hlocks hS ((by rw [hp]; exact ⟨_, _, _, _, _, hP⟩)) dX3_fitting_37
  · have q6 := lk_eq c1
    obtain ⟨s_n, h_s_n, h_bs_, rfl⟩ := lack_ok q6
    rw [c1] at hl
    have t_s_n : tn (nI s_n) = s_n := tn_nI (by omega)
    have f7 := hWX.sl s_n
    have f8 := sb_lt hWX s_n
    refine lv_aload_n hx hb dX3_fitting_13 rfl (lv_at hl 1 rfl) ?_
    refine lv_iload_n hx hb dX3_fitting_14 rfl (lv_at hl 3 rfl) ?_
    refine ro_V (n := 1) (As := [.int (q)]) (rest := []) ⟨hx, hb, hml, hown, hts⟩ (c_X3_isPlayer l D ci G ka ad X T tq la tt z (q) hWX) gX3_fitting_X3_isPlayer rfl ⟨rfl, rfl⟩ (by decide +kernel) rfl ⟨Nat.le_of_ble_eq_true rfl, Nat.le_of_ble_eq_true rfl⟩ hE (en_S hGA hs0 hS) hK hP (ci := 3) (q0 := 0) rfl rfl hl.1 rfl (Nat.le_of_ble_eq_true rfl) dX3_fitting_15 ⟨Nat.zero_le _, Nat.zero_le _⟩ ?_
    refine nv_ifne_b (tgt := 38) hx hb dX3_fitting_18 (by decide) (fun c9 => ?_) (fun c9 => ?_)
    · obtain ⟨qn, h_qn, rfl⟩ := in_ex c9 (by omega)
      have t_qn : tn (nI qn) = qn := tn_nI (by omega)
      refine lv_iconst (v := nI (0)) hx hb dX3_fitting_38 (by decide) ?_
      refine lv_istore (lv' := [(6, .int (nI 0)), (5, .int (-1)), (0, .ref (ad 0)), (1, .int (nI s_n)), (2, .int (nI qn)), (3, .ref (ad 18)), (4, .int (nI 7))]) hx hb dX3_fitting_39 hl (by decide) rfl (fun ls hl => ?_)
      refine lv_iconst (v := nI (0)) hx hb dX3_fitting_41 (by decide) ?_
      refine lv_istore (lv' := [(7, .int (nI 0)), (6, .int (nI 0)), (5, .int (-1)), (0, .ref (ad 0)), (1, .int (nI s_n)), (2, .int (nI qn)), (3, .ref (ad 18)), (4, .int (nI 7))]) hx hb dX3_fitting_42 hl (by decide) rfl (fun ls hl => ?_)
      have L44 : ∀ (k44 : Nat) (i : Nat), 7 - i < k44 → (i ≤ 7) → ∀ (x6 x7 : Int32), x6 = nI (setTo (fun v => goA (st X.1 1 qn v) (X.2.2.2.2.2.2.2.1 s_n) (X.2.2.2.2.2.2.2.2 s_n) qn) (i)) → x7 = nI (i) → ∀ (T : OS) (z : Nat → Nat → Int32), ∀ (H : Heap) (locs : List Loc), va_P D vwCl (wX ci ad X T tq la tt z) H → va_S (aX ad) s.heap H locs → ∀ ls : Array Slot, lv_has ls 8 [(6, .int (x6)), (7, .int (x7)), (5, .int (-1)), (0, .ref (ad 0)), (1, .int (nI s_n)), (2, .int (nI qn)), (3, .ref (ad 18)), (4, .int (nI 7))] → W p l e (headSpec wsX3_fitting ({ frames := 5, cells := 0, slots := 0, locals := 132 } : Room)).room s m ([.ref (ad 0), .int (nI s_n), .int (nI qn), .ref (ad 18), .int (nI 7)] : List Value).toArray below meth c H locs 0 0 (MQ below (mu_Q (aX ad) (some (.int ((p_fitg 1 7 X (nI s_n) (nI qn)).1))) (fun H => ∃ T tq la tt z, va_P D vwCl (wX ci ad ((p_fitg 1 7 X (nI s_n) (nI qn)).2) T tq la tt z) H)) ([.ref (ad 0), .int (nI s_n), .int (nI qn), .ref (ad 18), .int (nI 7)] : List Value).toArray s 0 0 (aX ad)) (F0 m 44 ls []) := by
        intro k44
        induction k44 with
        | zero => intro i h0; exact absurd h0 (Nat.not_lt_zero _)
        | succ k44 ih44 =>
          intro i hk44 h_i x6 x7 e6 e7 T z H locs hP hS ls hl
          subst e6
          subst e7
          have hD : va_D (aX ad) (wX ci ad X T tq la tt z) := wX_D hI
          refine lv_iload hx hb dX3_fitting_44 (lv_at hl 1 rfl) ?_
          refine lv_iload hx hb dX3_fitting_46 (lv_at hl 7 rfl) ?_
          refine nv_icmp_ge (tgt := 96) hx hb (by omega) (by omega) dX3_fitting_48 (by decide) (fun c10 => ?_) (fun c10 => ?_)
          · refine lv_iload hx hb dX3_fitting_96 (lv_at hl 0 rfl) ?_
            have hp : p_fitg 1 7 X (nI s_n) (nI qn) = (nI (setTo (fun v => goA (st X.1 1 qn v) (X.2.2.2.2.2.2.2.1 s_n) (X.2.2.2.2.2.2.2.2 s_n) qn) (i)), X) := by first | (simp [p_fitg, bk, fl_eq, inP, c1, c9, c10, q6, t_s_n, h_bs_, t_qn]; done) | (simp [p_fitg, bk, fl_eq, inP, show i = 7 by omega, c1, c9, c10, q6, t_s_n, h_bs_, t_qn]; done)
            refine nv_cv (show nI (setTo (fun v => goA (st X.1 1 qn v) (X.2.2.2.2.2.2.2.1 s_n) (X.2.2.2.2.2.2.2.2 s_n) qn) (i)) = (p_fitg 1 7 X (nI s_n) (nI qn)).1 from by rw [hp]) ?_
            exact mu_iret hx hb hr hlocks hS ((by rw [hp]; exact ⟨_, _, _, _, _, hP⟩)) dX3_fitting_98
          · refine lv_aload_n hx hb dX3_fitting_51 rfl (lv_at hl 3 rfl) ?_
            refine va_get (D := D) (ci := 3) (v := .ref (ad 16)) (C := RX3) (T := TX3) (N := 9) hx hb hts hinX3 hown hK hP 0 rfl rfl 1 (by decide) (hts (.fieldLink RX3 16 "OneShort" "trial" "LOneShort$Orchestra;") (List.mem_of_getElem? (i := 1) rfl)) (fun _ h9 => h9) rfl dX3_fitting_52 ?_
            refine lv_aload_n hx hb dX3_fitting_55 rfl (lv_at hl 3 rfl) ?_
            refine va_get (D := D) (ci := 3) (v := .ref (ad 5)) (C := RX3) (T := TX3) (N := 9) hx hb hts hinX3 hown hK hP 0 rfl rfl 0 (by decide) (hts (.fieldLink RX3 10 "OneShort" "orchestra" "LOneShort$Orchestra;") (List.mem_of_getElem? (i := 2) rfl)) (fun _ h9 => h9) rfl dX3_fitting_56 ?_
            refine mu_V (n := 1) (As := [.ref (ad 5)]) (rest := []) ⟨hx, hb, hml, hown, hts⟩ (c_X0_become l D ci G ka (sh ad 16) T (z 3) (z 4) (z 5) (sh ad 5) X.1 (z 0) (z 1) (z 2) (wX_D2 hI (by decide) (by decide) (by decide) _ _ _ _ _ _ _ _) (aO2_G (G_sh hG (by decide)) (G_sh hG (by decide)))  ) gX3_fitting_X0_become rfl ⟨rfl, rfl⟩ (by decide +kernel) rfl ⟨Nat.le_of_ble_eq_true rfl, Nat.le_of_ble_eq_true rfl⟩ hE (en_S hGA hs0 hS) hK (va_P.app (wX_s16 hP) (wX_s5 hP)) (ci := 0) (q0 := 0) rfl rfl hl.1 rfl (Nat.le_of_ble_eq_true rfl) dX3_fitting_59 ⟨Nat.zero_le _, Nat.zero_le _⟩ hS (fun q h => h.elim (fun h => aR_X (by decide) q (aO_sh q h)) (fun h => aR_X (by decide) q (aO_sh q h))) (fun H1 locs hz hfr hB hS => ?_)
            have hP := wX_j16_5 hI hP hfr hB
            generalize H1 = H at hP hS ⊢
            have hD : va_D (aX ad) (wX ci ad X X.1 tq la tt z) := wX_D hI
            refine lv_aload_n hx hb dX3_fitting_62 rfl (lv_at hl 6 rfl) ?_
            refine lv_iload_n hx hb dX3_fitting_63 rfl (lv_at hl 5 rfl) ?_
            refine lv_iload hx hb dX3_fitting_64 (lv_at hl 1 rfl) ?_
            refine nv_iast hx hb hK hP hD hS 18 0 rfl rfl (by omega) (by decide) dX3_fitting_66 (fun H locs hP hD hS => ?_)
            have hP := va_P.re (wX_t1 ci ad X X.1 tq la tt z (qn) (i)) hP
            have hD := va_D.re (wX_t1 ci ad X X.1 tq la tt z (qn) (i)) hD
            refine lv_aload_n hx hb dX3_fitting_67 rfl (lv_at hl 3 rfl) ?_
            refine lv_aload_n hx hb dX3_fitting_68 rfl (lv_at hl 3 rfl) ?_
            refine va_get (D := D) (ci := 3) (v := .ref (ad 1)) (C := RX3) (T := TX3) (N := 9) hx hb hts hinX3 hown hK hP 0 rfl rfl 5 (by decide) (hts (.fieldLink RX3 35 "OneShort" "sheets" "[LOneShort$Sheet;") (List.mem_of_getElem? (i := 3) rfl)) (fun _ h9 => h9) rfl dX3_fitting_69 ?_
            refine lv_iload_n hx hb dX3_fitting_72 rfl (lv_at hl 4 rfl) ?_
            refine nv_aald (v := .ref (ad (40 + 2 * (s_n)))) hx hb hK hP 1 1 rfl rfl (by omega) (by decide) rfl dX3_fitting_73 ?_
            refine lv_iload_n hx hb dX3_fitting_74 rfl (lv_at hl 5 rfl) ?_
            refine mu_V (n := 2) (As := [.ref (ad (40 + 2 * (s_n))), .int (nI qn)]) (rest := []) ⟨hx, hb, hml, hown, hts⟩ (c_X3_trialGoesAs l D ci G ka ad X (st X.1 1 (qn) (i)) tq la tt z hI hG (s_n) (qn) hWX (by omega) (by omega) (WF_st1 hWF qn (by omega))) gX3_fitting_X3_trialGoesAs rfl ⟨rfl, rfl⟩ (by decide +kernel) rfl ⟨Nat.le_of_ble_eq_true rfl, Nat.le_of_ble_eq_true rfl⟩ hE (en_S hGA hs0 hS) hK hP (ci := 3) (q0 := 0) rfl rfl hl.1 rfl (Nat.le_of_ble_eq_true rfl) dX3_fitting_75 ⟨Nat.zero_le _, Nat.zero_le _⟩ hS (fun _ h => h) (fun H1 locs hz hfr hB hS => ?_)
            obtain ⟨T, tq, la, tt, z, hP⟩ := hB
            generalize H1 = H at hP hS ⊢
            have hD : va_D (aX ad) (wX ci ad X T tq la tt z) := wX_D hI
            refine nv_ifeq_b (tgt := 90) hx hb dX3_fitting_78 (by decide) (fun c11 => ?_) (fun c11 => ?_)
            · refine nv_iinc1 (lv' := [(7, .int (nI (i + 1))), (6, .int (nI (setTo (fun v => goA (st X.1 1 qn v) (X.2.2.2.2.2.2.2.1 s_n) (X.2.2.2.2.2.2.2.2 s_n) qn) (i)))), (5, .int (-1)), (0, .ref (ad 0)), (1, .int (nI s_n)), (2, .int (nI qn)), (3, .ref (ad 18)), (4, .int (nI 7))]) hx hb dX3_fitting_90 hl (k := 1) rfl (by decide) rfl (fun ls hl => ?_)
              refine lv_goto (tgt := 44) hx hb dX3_fitting_93 (by decide) ?_
              exact ih44 (i + 1) (by omega) (by omega) (nI (setTo (fun v => goA (st X.1 1 qn v) (X.2.2.2.2.2.2.2.1 s_n) (X.2.2.2.2.2.2.2.2 s_n) qn) (i))) (nI (i + 1)) (nv_e (by first | exact setTo_t c11 | exact setTo_f c11)) rfl (T) (z) _ _ hP hS ls (lv_sub hl [1, 0, 2, 3, 4, 5, 6, 7] rfl)
            · refine lv_iload hx hb dX3_fitting_81 (lv_at hl 0 rfl) ?_
              refine lv_iconst (v := nI (1)) hx hb dX3_fitting_83 (by decide) ?_
              refine lv_iload hx hb dX3_fitting_84 (lv_at hl 1 rfl) ?_
              refine nv_ishl hx hb (by omega) dX3_fitting_86 ?_
              refine nv_ior hx hb dX3_fitting_87 ?_
              refine lv_istore (lv' := [(6, .int (nI ((setTo (fun v => goA (st X.1 1 qn v) (X.2.2.2.2.2.2.2.1 s_n) (X.2.2.2.2.2.2.2.2 s_n) qn) (i) ||| (1 * 2 ^ (i)))))), (7, .int (nI i)), (5, .int (-1)), (0, .ref (ad 0)), (1, .int (nI s_n)), (2, .int (nI qn)), (3, .ref (ad 18)), (4, .int (nI 7))]) hx hb dX3_fitting_88 hl (by decide) rfl (fun ls hl => ?_)
              refine nv_iinc1 (lv' := [(7, .int (nI (i + 1))), (6, .int (nI ((setTo (fun v => goA (st X.1 1 qn v) (X.2.2.2.2.2.2.2.1 s_n) (X.2.2.2.2.2.2.2.2 s_n) qn) (i) ||| (1 * 2 ^ (i)))))), (5, .int (-1)), (0, .ref (ad 0)), (1, .int (nI s_n)), (2, .int (nI qn)), (3, .ref (ad 18)), (4, .int (nI 7))]) hx hb dX3_fitting_90 hl (k := 1) rfl (by decide) rfl (fun ls hl => ?_)
              refine lv_goto (tgt := 44) hx hb dX3_fitting_93 (by decide) ?_
              exact ih44 (i + 1) (by omega) (by omega) (nI ((setTo (fun v => goA (st X.1 1 qn v) (X.2.2.2.2.2.2.2.1 s_n) (X.2.2.2.2.2.2.2.2 s_n) qn) (i) ||| (1 * 2 ^ (i))))) (nI (i + 1)) (nv_e (by first | exact setTo_t c11 | exact setTo_f c11)) rfl (T) (z) _ _ hP hS ls (lv_sub hl [1, 0, 2, 3, 4, 5, 6, 7] rfl)
      exact L44 _ (0) (Nat.lt_succ_self _) (by omega) (nI (0)) (nI (0)) rfl rfl (T) (z) _ _ hP hS ls (lv_sub hl [1, 0, 2, 3, 4, 5, 6, 7] rfl)
    · refine lv_aload_n hx hb dX3_fitting_21 rfl (lv_at hl 1 rfl) ?_
      refine lv_iload hx hb dX3_fitting_22 (lv_at hl 0 rfl) ?_
      refine lv_iconst (v := -1) hx hb dX3_fitting_24 (by decide) ?_
      refine lv_icmp_eq (tgt := 33) hx hb dX3_fitting_25 (by decide) (fun _ => ?_) (fun h => absurd rfl h)
      refine lv_iconst (v := nI (0)) hx hb dX3_fitting_33 (by decide) ?_
      refine mu_V (n := 1) (As := [.int (nI 0)]) (rest := []) ⟨hx, hb, hml, hown, hts⟩ (c_X3_finding l D ci G ka ad X T tq la tt z hI hG (0) hWX (by omega)) gX3_fitting_X3_finding rfl ⟨rfl, rfl⟩ (by decide +kernel) rfl ⟨Nat.le_of_ble_eq_true rfl, Nat.le_of_ble_eq_true rfl⟩ hE (en_S hGA hs0 hS) hK hP (ci := 3) (q0 := 0) rfl rfl hl.1 rfl (Nat.le_of_ble_eq_true rfl) dX3_fitting_34 ⟨Nat.zero_le _, Nat.zero_le _⟩ hS (fun _ h => h) (fun H1 locs hz hfr hB hS => ?_)
      obtain ⟨T, tq, la, tt, z, hP⟩ := hB
      generalize H1 = H at hP hS ⊢
      have hD : va_D (aX ad) (wX ci ad (toF X (inc X.2.2.2.1 0)) T tq la tt z) := wX_D hI
      have hp : p_fitg 1 7 X (nI s_n) q = (fnd 0, toF X (inc X.2.2.2.1 0)) := by first | (simp [p_fitg, bk, fl_eq, inP, c1, c9, q6, t_s_n, h_bs_]; done) | (simp [p_fitg, bk, fl_eq, inP, show i = 7 by omega, c1, c9, q6, t_s_n, h_bs_]; done)
      refine nv_cv (show fnd 0 = (p_fitg 1 7 X (nI s_n) q).1 from by rw [hp]) ?_
      exact mu_iret hx hb hr hlocks hS ((by rw [hp]; exact ⟨_, _, _, _, _, hP⟩)) dX3_fitting_37

set_option maxHeartbeats 4000000 in
set_option maxRecDepth 100000 in
/-- X3_fits -/
theorem c_X3_fits (l : Launch) (D : va_G) (ci : Nat → ClassId) (G : Nat → Prop) (ka : Nat) (ad : Nat → Nat) (X : AS) (T : OS) (tq la tt : Nat → Int32) (z : Nat → Nat → Int32) (hI : injA ad 48) (hG : ∀ k, k < 48 → G (ad k)) (s_ q : Int32) (hWX : WFX X) : Met l yX3_fits wsX3_fits ({ frames := 6, cells := 0, slots := 0, locals := 159 } : Room) (va_Pc [.ref (ad 0), .int (s_), .int (q)] (ro_B D (tyL ci) (wX ci ad X T tq la tt z) (en D (ci 0) G ka))) (mu_Q (aX ad) (some (.int ((p_fits X s_ q).1))) (fun H => ∃ T tq la tt z, va_P D vwCl (wX ci ad ((p_fits X s_ q).2) T tq la tt z) H)) 0 0 (aX ad) := by
  refine mu_Met (cc := cX3_fits) (maxL := 3) (ret := (some .int)) [(0, .ref (ad 0)), (1, .int (s_)), (2, .int (q))] (wX_D hI) (by decide) rfl (Nat.le_of_ble_eq_true rfl) rfl ?_
  intro p e s m below meth c H locs hx hb hml hr hlocks hts hown hP hK hs0 hD hS ls hl
  have hown : s.vm.findClass RX3 = some m.cls := hown
  have hinX0 : ∀ w ∈ wsX00, w ∈ wsX3_fits := by decide +kernel
  have hinX3 : ∀ w ∈ wsX30, w ∈ wsX3_fits := by decide +kernel
  have hE := hE_en D (ci 0) G ka
  have hWF := hWX.w
  have f_n := hWF.n
  have f_e := hWX.e
  have f_tl := hWX.t
  have hGA := aX_G hG
  have hWK := hWX.k
  refine lv_aload_n hx hb dX3_fits_0 rfl (lv_at hl 0 rfl) ?_
  refine lv_iload_n hx hb dX3_fits_1 rfl (lv_at hl 1 rfl) ?_
  refine lv_iload_n hx hb dX3_fits_2 rfl (lv_at hl 2 rfl) ?_
  refine lv_aload_n hx hb dX3_fits_3 rfl (lv_at hl 0 rfl) ?_
  refine va_get (D := D) (ci := 3) (v := .ref (ad 16)) (C := RX3) (T := TX3) (N := 9) hx hb hts hinX3 hown hK hP 0 rfl rfl 1 (by decide) (hts (.fieldLink RX3 16 "OneShort" "trial" "LOneShort$Orchestra;") (List.mem_of_getElem? (i := 1) rfl)) (fun _ h9 => h9) rfl dX3_fits_4 ?_
  refine va_get (D := D) (ci := 0) (v := .ref (ad 20)) (C := RX0) (T := TX0) (N := 13) hx hb hts hinX0 hown hK hP 16 rfl rfl 3 (by decide) (hts (.fieldLink RX3 90 "OneShort$Orchestra" "part" "[I") (List.mem_of_getElem? (i := 2) rfl)) (fun _ h9 => h9) rfl dX3_fits_7 ?_
  refine lv_bipush (v := nI (6)) hx hb dX3_fits_10 (by decide) ?_
  refine mu_V (n := 4) (As := [.int (s_), .int (q), .ref (ad 20), .int (nI 6)]) (rest := []) ⟨hx, hb, hml, hown, hts⟩ (c_X3_fitting_part l D ci G ka ad X T tq la tt z hI hG (s_) (q) hWX) gX3_fits_X3_fitting rfl ⟨rfl, rfl⟩ (by decide +kernel) rfl ⟨Nat.le_of_ble_eq_true rfl, Nat.le_of_ble_eq_true rfl⟩ hE (en_S hGA hs0 hS) hK hP (ci := 3) (q0 := 0) rfl rfl hl.1 rfl (Nat.le_of_ble_eq_true rfl) dX3_fits_12 ⟨Nat.zero_le _, Nat.zero_le _⟩ hS (fun _ h => h) (fun H1 locs hz hfr hB hS => ?_)
  obtain ⟨T, tq, la, tt, z, hP⟩ := hB
  generalize H1 = H at hP hS ⊢
  have hD : va_D (aX ad) (wX ci ad ((p_fitg 3 6 X s_ q).2) T tq la tt z) := wX_D hI
  have hp : p_fits X s_ q = ((p_fitg 3 6 X s_ q).1, (p_fitg 3 6 X s_ q).2) := rfl
  refine nv_cv (show (p_fitg 3 6 X s_ q).1 = (p_fits X s_ q).1 from by rw [hp]) ?_
  exact mu_iret hx hb hr hlocks hS ((by rw [hp]; exact ⟨_, _, _, _, _, hP⟩)) dX3_fits_15

set_option maxHeartbeats 4000000 in
set_option maxRecDepth 100000 in
/-- X3_kinds -/
theorem c_X3_kinds (l : Launch) (D : va_G) (ci : Nat → ClassId) (G : Nat → Prop) (ka : Nat) (ad : Nat → Nat) (X : AS) (T : OS) (tq la tt : Nat → Int32) (z : Nat → Nat → Int32) (hI : injA ad 48) (hG : ∀ k, k < 48 → G (ad k)) (s_ q : Int32) (hWX : WFX X) : Met l yX3_kinds wsX3_kinds ({ frames := 6, cells := 0, slots := 0, locals := 159 } : Room) (va_Pc [.ref (ad 0), .int (s_), .int (q)] (ro_B D (tyL ci) (wX ci ad X T tq la tt z) (en D (ci 0) G ka))) (mu_Q (aX ad) (some (.int ((p_kinds X s_ q).1))) (fun H => ∃ T tq la tt z, va_P D vwCl (wX ci ad ((p_kinds X s_ q).2) T tq la tt z) H)) 0 0 (aX ad) := by
  refine mu_Met (cc := cX3_kinds) (maxL := 3) (ret := (some .int)) [(0, .ref (ad 0)), (1, .int (s_)), (2, .int (q))] (wX_D hI) (by decide) rfl (Nat.le_of_ble_eq_true rfl) rfl ?_
  intro p e s m below meth c H locs hx hb hml hr hlocks hts hown hP hK hs0 hD hS ls hl
  have hown : s.vm.findClass RX3 = some m.cls := hown
  have hinX0 : ∀ w ∈ wsX00, w ∈ wsX3_kinds := by decide +kernel
  have hinX3 : ∀ w ∈ wsX30, w ∈ wsX3_kinds := by decide +kernel
  have hE := hE_en D (ci 0) G ka
  have hWF := hWX.w
  have f_n := hWF.n
  have f_e := hWX.e
  have f_tl := hWX.t
  have hGA := aX_G hG
  have hWK := hWX.k
  refine lv_aload_n hx hb dX3_kinds_0 rfl (lv_at hl 0 rfl) ?_
  refine lv_iload_n hx hb dX3_kinds_1 rfl (lv_at hl 1 rfl) ?_
  refine lv_iload_n hx hb dX3_kinds_2 rfl (lv_at hl 2 rfl) ?_
  refine lv_aload_n hx hb dX3_kinds_3 rfl (lv_at hl 0 rfl) ?_
  refine va_get (D := D) (ci := 3) (v := .ref (ad 16)) (C := RX3) (T := TX3) (N := 9) hx hb hts hinX3 hown hK hP 0 rfl rfl 1 (by decide) (hts (.fieldLink RX3 16 "OneShort" "trial" "LOneShort$Orchestra;") (List.mem_of_getElem? (i := 1) rfl)) (fun _ h9 => h9) rfl dX3_kinds_4 ?_
  refine va_get (D := D) (ci := 0) (v := .ref (ad 18)) (C := RX0) (T := TX0) (N := 13) hx hb hts hinX0 hown hK hP 16 rfl rfl 1 (by decide) (hts (.fieldLink RX3 84 "OneShort$Orchestra" "kind" "[I") (List.mem_of_getElem? (i := 2) rfl)) (fun _ h9 => h9) rfl dX3_kinds_7 ?_
  refine lv_bipush (v := nI (7)) hx hb dX3_kinds_10 (by decide) ?_
  refine mu_V (n := 4) (As := [.int (s_), .int (q), .ref (ad 18), .int (nI 7)]) (rest := []) ⟨hx, hb, hml, hown, hts⟩ (c_X3_fitting_kind l D ci G ka ad X T tq la tt z hI hG (s_) (q) hWX) gX3_kinds_X3_fitting rfl ⟨rfl, rfl⟩ (by decide +kernel) rfl ⟨Nat.le_of_ble_eq_true rfl, Nat.le_of_ble_eq_true rfl⟩ hE (en_S hGA hs0 hS) hK hP (ci := 3) (q0 := 0) rfl rfl hl.1 rfl (Nat.le_of_ble_eq_true rfl) dX3_kinds_12 ⟨Nat.zero_le _, Nat.zero_le _⟩ hS (fun _ h => h) (fun H1 locs hz hfr hB hS => ?_)
  obtain ⟨T, tq, la, tt, z, hP⟩ := hB
  generalize H1 = H at hP hS ⊢
  have hD : va_D (aX ad) (wX ci ad ((p_fitg 1 7 X s_ q).2) T tq la tt z) := wX_D hI
  have hp : p_kinds X s_ q = ((p_fitg 1 7 X s_ q).1, (p_fitg 1 7 X s_ q).2) := rfl
  refine nv_cv (show (p_fitg 1 7 X s_ q).1 = (p_kinds X s_ q).1 from by rw [hp]) ?_
  exact mu_iret hx hb hr hlocks hS ((by rw [hp]; exact ⟨_, _, _, _, _, hP⟩)) dX3_kinds_15

set_option maxHeartbeats 4000000 in
set_option maxRecDepth 100000 in
/-- X3_sheet -/
theorem c_X3_sheet (l : Launch) (D : va_G) (ci : Nat → ClassId) (G : Nat → Prop) (ka : Nat) (ad : Nat → Nat) (X : AS) (T : OS) (tq la tt : Nat → Int32) (z : Nat → Nat → Int32) (hI : injA ad 48) (hG : ∀ k, k < 48 → G (ad k)) (s_ bt nn : Int32) (hWX : WFX X) : Met l yX3_sheet wsX3_sheet ({ frames := 1, cells := 0, slots := 0, locals := 23 } : Room) (va_Pc [.ref (ad 0), .int (s_), .int (bt), .int (nn)] (ro_B D (tyL ci) (wX ci ad X T tq la tt z) (en D (ci 0) G ka))) (mu_Q (aX ad) (some (.int ((p_sheet X s_ bt nn).1))) (fun H => ∃ T tq la tt z, va_P D vwCl (wX ci ad ((p_sheet X s_ bt nn).2) T tq la tt z) H)) 0 0 (aX ad) := by
  refine mu_Met (cc := cX3_sheet) (maxL := 4) (ret := (some .int)) [(0, .ref (ad 0)), (1, .int (s_)), (2, .int (bt)), (3, .int (nn))] (wX_D hI) (by decide) rfl (Nat.le_of_ble_eq_true rfl) rfl ?_
  intro p e s m below meth c H locs hx hb hml hr hlocks hts hown hP hK hs0 hD hS ls hl
  have hown : s.vm.findClass RX3 = some m.cls := hown
  have hinX1 : ∀ w ∈ wsX10, w ∈ wsX3_sheet := by decide +kernel
  have hinX3 : ∀ w ∈ wsX30, w ∈ wsX3_sheet := by decide +kernel
  have hE := hE_en D (ci 0) G ka
  have hWF := hWX.w
  have f_n := hWF.n
  have f_e := hWX.e
  have f_tl := hWX.t
  have hGA := aX_G hG
  have hWK := hWX.k
  refine lv_aload_n hx hb dX3_sheet_0 rfl (lv_at hl 0 rfl) ?_
  refine lv_iload_n hx hb dX3_sheet_1 rfl (lv_at hl 1 rfl) ?_
  refine ro_V (n := 1) (As := [.int (s_)]) (rest := []) ⟨hx, hb, hml, hown, hts⟩ (c_X3_isSheet l D ci G ka ad X T tq la tt z (s_) hWX) gX3_sheet_X3_isSheet rfl ⟨rfl, rfl⟩ (by decide +kernel) rfl ⟨Nat.le_of_ble_eq_true rfl, Nat.le_of_ble_eq_true rfl⟩ hE (en_S hGA hs0 hS) hK hP (ci := 3) (q0 := 0) rfl rfl hl.1 rfl (Nat.le_of_ble_eq_true rfl) dX3_sheet_2 ⟨Nat.zero_le _, Nat.zero_le _⟩ ?_
  refine nv_ifeq_b (tgt := 30) hx hb dX3_sheet_5 (by decide) (fun c1 => ?_) (fun c1 => ?_)
  · refine lv_aload_n hx hb dX3_sheet_30 rfl (lv_at hl 0 rfl) ?_
    refine lv_iconst (v := nI (0)) hx hb dX3_sheet_31 (by decide) ?_
    refine mu_V (n := 1) (As := [.int (nI 0)]) (rest := []) ⟨hx, hb, hml, hown, hts⟩ (c_X3_finding l D ci G ka ad X T tq la tt z hI hG (0) hWX (by omega)) gX3_sheet_X3_finding rfl ⟨rfl, rfl⟩ (by decide +kernel) rfl ⟨Nat.le_of_ble_eq_true rfl, Nat.le_of_ble_eq_true rfl⟩ hE (en_S hGA hs0 hS) hK hP (ci := 3) (q0 := 0) rfl rfl hl.1 rfl (Nat.le_of_ble_eq_true rfl) dX3_sheet_32 ⟨Nat.zero_le _, Nat.zero_le _⟩ hS (fun _ h => h) (fun H1 locs hz hfr hB hS => ?_)
    obtain ⟨T, tq, la, tt, z, hP⟩ := hB
    generalize H1 = H at hP hS ⊢
    have hD : va_D (aX ad) (wX ci ad (toF X (inc X.2.2.2.1 0)) T tq la tt z) := wX_D hI
    have hp : p_sheet X s_ bt nn = (fnd 0, toF X (inc X.2.2.2.1 0)) := by first | (simp [p_sheet, bk, fl_eq, updF_s, c1]; done)
    refine nv_cv (show fnd 0 = (p_sheet X s_ bt nn).1 from by rw [hp]) ?_
    exact mu_iret hx hb hr hlocks hS ((by rw [hp]; exact ⟨_, _, _, _, _, hP⟩)) dX3_sheet_35
  · obtain ⟨s_n, h_s_n, rfl⟩ := in_ex c1 (by omega)
    have t_s_n : tn (nI s_n) = s_n := tn_nI (by omega)
    refine lv_iload_n hx hb dX3_sheet_8 rfl (lv_at hl 2 rfl) ?_
    refine lv_if_eq (tgt := 36) hx hb dX3_sheet_9 (by decide) (fun c2 => ?_) (fun c2 => ?_)
    · obtain rfl : bt = nI 0 := c2
      have t_bt : tn (nI 0) = 0 := tn_nI (by decide)
      refine lv_iload_n hx hb dX3_sheet_36 rfl (lv_at hl 3 rfl) ?_
      refine lv_if_ge (tgt := 47) hx hb dX3_sheet_37 (by decide) (fun c3 => ?_) (fun c3 => ?_)
      · refine lv_iload_n hx hb dX3_sheet_47 rfl (lv_at hl 3 rfl) ?_
        refine lv_bipush (v := nI (40)) hx hb dX3_sheet_48 (by decide) ?_
        refine lv_icmp_le (tgt := 59) hx hb dX3_sheet_50 (by decide) (fun c4 => ?_) (fun c4 => ?_)
        · have i5 : inN nn 41 = true := in_t3 (by omega) (Int32.not_lt.mpr c3) c4
          obtain ⟨nnn, h_nnn, rfl⟩ := in_ex i5 (by omega)
          have t_nnn : tn (nI nnn) = nnn := tn_nI (by omega)
          refine lv_aload_n hx hb dX3_sheet_59 rfl (lv_at hl 0 rfl) ?_
          refine va_get (D := D) (ci := 3) (v := .ref (ad 1)) (C := RX3) (T := TX3) (N := 9) hx hb hts hinX3 hown hK hP 0 rfl rfl 5 (by decide) (hts (.fieldLink RX3 35 "OneShort" "sheets" "[LOneShort$Sheet;") (List.mem_of_getElem? (i := 1) rfl)) (fun _ h9 => h9) rfl dX3_sheet_60 ?_
          refine lv_iload_n hx hb dX3_sheet_63 rfl (lv_at hl 1 rfl) ?_
          refine nv_aald (v := .ref (ad (40 + 2 * (s_n)))) hx hb hK hP 1 1 rfl rfl (by omega) (by decide) rfl dX3_sheet_64 ?_
          refine lv_iload_n hx hb dX3_sheet_65 rfl (lv_at hl 2 rfl) ?_
          refine lv_iload_n hx hb dX3_sheet_66 rfl (lv_at hl 3 rfl) ?_
          refine mu_V (n := 2) (As := [.int (nI 0), .int (nI nnn)]) (rest := []) ⟨hx, hb, hml, hown, hts⟩ (c_X1_begin l D ci G ka (sh ad (40 + 2 * (s_n))) (X.2.2.2.2.2.2.1 (s_n)) (X.2.2.2.2.2.2.2.1 (s_n)) (X.2.2.2.2.2.2.2.2 (s_n)) (injA_sh2 hI (by omega)) (G_sh2 hG (by omega)) (0) (nnn) (by omega) (by omega)) gX3_sheet_X1_begin rfl ⟨rfl, rfl⟩ (by decide +kernel) rfl ⟨Nat.le_of_ble_eq_true rfl, Nat.le_of_ble_eq_true rfl⟩ hE (en_S hGA hs0 hS) hK (wX_sh hP (k := s_n) (by omega)) (ci := 1) (q0 := 0) rfl rfl hl.1 rfl (Nat.le_of_ble_eq_true rfl) dX3_sheet_67 ⟨Nat.zero_le _, Nat.zero_le _⟩ hS (fun q h => aR_X (by omega) q (aT_sh q h)) (fun H1 locs hz hfr hB hS => ?_)
          have hP := wX_jS hI (k := s_n) (by omega) hP hfr hB
          generalize H1 = H at hP hS ⊢
          have hD : va_D (aX ad) (wX ci ad (toH X (updF X.2.2.2.2.2.2.1 (s_n) (0)) (updF X.2.2.2.2.2.2.2.1 (s_n) ((if 0 = 0 then 0 else nnn))) (updF X.2.2.2.2.2.2.2.2 (s_n) ((fun _ => 0)))) T tq la tt z) := wX_D hI
          refine lv_aload_n hx hb dX3_sheet_70 rfl (lv_at hl 0 rfl) ?_
          refine va_get (D := D) (ci := 3) (v := .ref (ad 1)) (C := RX3) (T := TX3) (N := 9) hx hb hts hinX3 hown hK hP 0 rfl rfl 5 (by decide) (hts (.fieldLink RX3 35 "OneShort" "sheets" "[LOneShort$Sheet;") (List.mem_of_getElem? (i := 1) rfl)) (fun _ h9 => h9) rfl dX3_sheet_71 ?_
          refine lv_iload_n hx hb dX3_sheet_74 rfl (lv_at hl 1 rfl) ?_
          refine nv_aald (v := .ref (ad (40 + 2 * (s_n)))) hx hb hK hP 1 1 rfl rfl (by omega) (by decide) rfl dX3_sheet_75 ?_
          refine va_get (D := D) (ci := 1) (v := .int (nI ((updF X.2.2.2.2.2.2.2.1 (s_n) ((if 0 = 0 then 0 else nnn))) (s_n)))) (C := RX1) (T := TX1) (N := 3) hx hb hts hinX1 hown hK (wX_sh hP (k := s_n) (by omega)) 0 rfl rfl 2 (by decide) (hts (.fieldLink RX3 221 "OneShort$Sheet" "length" "I") (List.mem_of_getElem? (i := 2) rfl)) (fun _ h9 => h9) rfl dX3_sheet_76 ?_
          have hp : p_sheet X (nI s_n) (nI 0) (nI nnn) = (nI ((updF X.2.2.2.2.2.2.2.1 (s_n) ((if 0 = 0 then 0 else nnn))) (s_n)), toH X (updF X.2.2.2.2.2.2.1 (s_n) (0)) (updF X.2.2.2.2.2.2.2.1 (s_n) ((if 0 = 0 then 0 else nnn))) (updF X.2.2.2.2.2.2.2.2 (s_n) ((fun _ => 0)))) := by first | (simp [p_sheet, bk, fl_eq, updF_s, c1, c2, c3, c4, t_s_n, t_bt, i5, t_nnn]; done)
          refine nv_cv (show nI ((updF X.2.2.2.2.2.2.2.1 (s_n) ((if 0 = 0 then 0 else nnn))) (s_n)) = (p_sheet X (nI s_n) (nI 0) (nI nnn)).1 from by rw [hp]) ?_
          exact mu_iret hx hb hr hlocks hS ((by rw [hp]; exact ⟨_, _, _, _, _, hP⟩)) dX3_sheet_79
        · have i6 : inN nn 41 = false := in_f3 (by omega) c4
          refine lv_aload_n hx hb dX3_sheet_53 rfl (lv_at hl 0 rfl) ?_
          refine lv_iconst (v := nI (0)) hx hb dX3_sheet_54 (by decide) ?_
          refine mu_V (n := 1) (As := [.int (nI 0)]) (rest := []) ⟨hx, hb, hml, hown, hts⟩ (c_X3_finding l D ci G ka ad X T tq la tt z hI hG (0) hWX (by omega)) gX3_sheet_X3_finding rfl ⟨rfl, rfl⟩ (by decide +kernel) rfl ⟨Nat.le_of_ble_eq_true rfl, Nat.le_of_ble_eq_true rfl⟩ hE (en_S hGA hs0 hS) hK hP (ci := 3) (q0 := 0) rfl rfl hl.1 rfl (Nat.le_of_ble_eq_true rfl) dX3_sheet_55 ⟨Nat.zero_le _, Nat.zero_le _⟩ hS (fun _ h => h) (fun H1 locs hz hfr hB hS => ?_)
          obtain ⟨T, tq, la, tt, z, hP⟩ := hB
          generalize H1 = H at hP hS ⊢
          have hD : va_D (aX ad) (wX ci ad (toF X (inc X.2.2.2.1 0)) T tq la tt z) := wX_D hI
          have hp : p_sheet X (nI s_n) (nI 0) nn = (fnd 0, toF X (inc X.2.2.2.1 0)) := by first | (simp [p_sheet, bk, fl_eq, updF_s, c1, c2, c3, c4, t_s_n, t_bt, i6]; done)
          refine nv_cv (show fnd 0 = (p_sheet X (nI s_n) (nI 0) nn).1 from by rw [hp]) ?_
          exact mu_iret hx hb hr hlocks hS ((by rw [hp]; exact ⟨_, _, _, _, _, hP⟩)) dX3_sheet_58
      · have i7 : ∀ u9, inN nn u9 = false := fun u9 => in_f0 (Int32.not_le.mp c3)
        refine lv_aload_n hx hb dX3_sheet_40 rfl (lv_at hl 0 rfl) ?_
        refine lv_bipush (v := nI (6)) hx hb dX3_sheet_41 (by decide) ?_
        refine mu_V (n := 1) (As := [.int (nI 6)]) (rest := []) ⟨hx, hb, hml, hown, hts⟩ (c_X3_finding l D ci G ka ad X T tq la tt z hI hG (6) hWX (by omega)) gX3_sheet_X3_finding rfl ⟨rfl, rfl⟩ (by decide +kernel) rfl ⟨Nat.le_of_ble_eq_true rfl, Nat.le_of_ble_eq_true rfl⟩ hE (en_S hGA hs0 hS) hK hP (ci := 3) (q0 := 0) rfl rfl hl.1 rfl (Nat.le_of_ble_eq_true rfl) dX3_sheet_43 ⟨Nat.zero_le _, Nat.zero_le _⟩ hS (fun _ h => h) (fun H1 locs hz hfr hB hS => ?_)
        obtain ⟨T, tq, la, tt, z, hP⟩ := hB
        generalize H1 = H at hP hS ⊢
        have hD : va_D (aX ad) (wX ci ad (toF X (inc X.2.2.2.1 6)) T tq la tt z) := wX_D hI
        have hp : p_sheet X (nI s_n) (nI 0) nn = (fnd 6, toF X (inc X.2.2.2.1 6)) := by first | (simp [p_sheet, bk, fl_eq, updF_s, c1, c2, c3, t_s_n, t_bt, i7]; done)
        refine nv_cv (show fnd 6 = (p_sheet X (nI s_n) (nI 0) nn).1 from by rw [hp]) ?_
        exact mu_iret hx hb hr hlocks hS ((by rw [hp]; exact ⟨_, _, _, _, _, hP⟩)) dX3_sheet_46
    · refine lv_iload_n hx hb dX3_sheet_12 rfl (lv_at hl 2 rfl) ?_
      refine lv_bipush (v := nI (8)) hx hb dX3_sheet_13 (by decide) ?_
      refine lv_icmp_eq (tgt := 36) hx hb dX3_sheet_15 (by decide) (fun c8 => ?_) (fun c8 => ?_)
      · subst c8
        have t_bt : tn (nI 8) = 8 := tn_nI (by decide)
        refine lv_iload_n hx hb dX3_sheet_36 rfl (lv_at hl 3 rfl) ?_
        refine lv_if_ge (tgt := 47) hx hb dX3_sheet_37 (by decide) (fun c9 => ?_) (fun c9 => ?_)
        · refine lv_iload_n hx hb dX3_sheet_47 rfl (lv_at hl 3 rfl) ?_
          refine lv_bipush (v := nI (40)) hx hb dX3_sheet_48 (by decide) ?_
          refine lv_icmp_le (tgt := 59) hx hb dX3_sheet_50 (by decide) (fun c10 => ?_) (fun c10 => ?_)
          · have i11 : inN nn 41 = true := in_t3 (by omega) (Int32.not_lt.mpr c9) c10
            obtain ⟨nnn, h_nnn, rfl⟩ := in_ex i11 (by omega)
            have t_nnn : tn (nI nnn) = nnn := tn_nI (by omega)
            refine lv_aload_n hx hb dX3_sheet_59 rfl (lv_at hl 0 rfl) ?_
            refine va_get (D := D) (ci := 3) (v := .ref (ad 1)) (C := RX3) (T := TX3) (N := 9) hx hb hts hinX3 hown hK hP 0 rfl rfl 5 (by decide) (hts (.fieldLink RX3 35 "OneShort" "sheets" "[LOneShort$Sheet;") (List.mem_of_getElem? (i := 1) rfl)) (fun _ h9 => h9) rfl dX3_sheet_60 ?_
            refine lv_iload_n hx hb dX3_sheet_63 rfl (lv_at hl 1 rfl) ?_
            refine nv_aald (v := .ref (ad (40 + 2 * (s_n)))) hx hb hK hP 1 1 rfl rfl (by omega) (by decide) rfl dX3_sheet_64 ?_
            refine lv_iload_n hx hb dX3_sheet_65 rfl (lv_at hl 2 rfl) ?_
            refine lv_iload_n hx hb dX3_sheet_66 rfl (lv_at hl 3 rfl) ?_
            refine mu_V (n := 2) (As := [.int (nI 8), .int (nI nnn)]) (rest := []) ⟨hx, hb, hml, hown, hts⟩ (c_X1_begin l D ci G ka (sh ad (40 + 2 * (s_n))) (X.2.2.2.2.2.2.1 (s_n)) (X.2.2.2.2.2.2.2.1 (s_n)) (X.2.2.2.2.2.2.2.2 (s_n)) (injA_sh2 hI (by omega)) (G_sh2 hG (by omega)) (8) (nnn) (by omega) (by omega)) gX3_sheet_X1_begin rfl ⟨rfl, rfl⟩ (by decide +kernel) rfl ⟨Nat.le_of_ble_eq_true rfl, Nat.le_of_ble_eq_true rfl⟩ hE (en_S hGA hs0 hS) hK (wX_sh hP (k := s_n) (by omega)) (ci := 1) (q0 := 0) rfl rfl hl.1 rfl (Nat.le_of_ble_eq_true rfl) dX3_sheet_67 ⟨Nat.zero_le _, Nat.zero_le _⟩ hS (fun q h => aR_X (by omega) q (aT_sh q h)) (fun H1 locs hz hfr hB hS => ?_)
            have hP := wX_jS hI (k := s_n) (by omega) hP hfr hB
            generalize H1 = H at hP hS ⊢
            have hD : va_D (aX ad) (wX ci ad (toH X (updF X.2.2.2.2.2.2.1 (s_n) (8)) (updF X.2.2.2.2.2.2.2.1 (s_n) ((if 8 = 0 then 0 else nnn))) (updF X.2.2.2.2.2.2.2.2 (s_n) ((fun _ => 0)))) T tq la tt z) := wX_D hI
            refine lv_aload_n hx hb dX3_sheet_70 rfl (lv_at hl 0 rfl) ?_
            refine va_get (D := D) (ci := 3) (v := .ref (ad 1)) (C := RX3) (T := TX3) (N := 9) hx hb hts hinX3 hown hK hP 0 rfl rfl 5 (by decide) (hts (.fieldLink RX3 35 "OneShort" "sheets" "[LOneShort$Sheet;") (List.mem_of_getElem? (i := 1) rfl)) (fun _ h9 => h9) rfl dX3_sheet_71 ?_
            refine lv_iload_n hx hb dX3_sheet_74 rfl (lv_at hl 1 rfl) ?_
            refine nv_aald (v := .ref (ad (40 + 2 * (s_n)))) hx hb hK hP 1 1 rfl rfl (by omega) (by decide) rfl dX3_sheet_75 ?_
            refine va_get (D := D) (ci := 1) (v := .int (nI ((updF X.2.2.2.2.2.2.2.1 (s_n) ((if 8 = 0 then 0 else nnn))) (s_n)))) (C := RX1) (T := TX1) (N := 3) hx hb hts hinX1 hown hK (wX_sh hP (k := s_n) (by omega)) 0 rfl rfl 2 (by decide) (hts (.fieldLink RX3 221 "OneShort$Sheet" "length" "I") (List.mem_of_getElem? (i := 2) rfl)) (fun _ h9 => h9) rfl dX3_sheet_76 ?_
            have hp : p_sheet X (nI s_n) (nI 8) (nI nnn) = (nI ((updF X.2.2.2.2.2.2.2.1 (s_n) ((if 8 = 0 then 0 else nnn))) (s_n)), toH X (updF X.2.2.2.2.2.2.1 (s_n) (8)) (updF X.2.2.2.2.2.2.2.1 (s_n) ((if 8 = 0 then 0 else nnn))) (updF X.2.2.2.2.2.2.2.2 (s_n) ((fun _ => 0)))) := by first | (simp [p_sheet, bk, fl_eq, updF_s, c1, c2, Nat.lt_irrefl, c9, c10, t_s_n, t_bt, i11, t_nnn]; done)
            refine nv_cv (show nI ((updF X.2.2.2.2.2.2.2.1 (s_n) ((if 8 = 0 then 0 else nnn))) (s_n)) = (p_sheet X (nI s_n) (nI 8) (nI nnn)).1 from by rw [hp]) ?_
            exact mu_iret hx hb hr hlocks hS ((by rw [hp]; exact ⟨_, _, _, _, _, hP⟩)) dX3_sheet_79
          · have i12 : inN nn 41 = false := in_f3 (by omega) c10
            refine lv_aload_n hx hb dX3_sheet_53 rfl (lv_at hl 0 rfl) ?_
            refine lv_iconst (v := nI (0)) hx hb dX3_sheet_54 (by decide) ?_
            refine mu_V (n := 1) (As := [.int (nI 0)]) (rest := []) ⟨hx, hb, hml, hown, hts⟩ (c_X3_finding l D ci G ka ad X T tq la tt z hI hG (0) hWX (by omega)) gX3_sheet_X3_finding rfl ⟨rfl, rfl⟩ (by decide +kernel) rfl ⟨Nat.le_of_ble_eq_true rfl, Nat.le_of_ble_eq_true rfl⟩ hE (en_S hGA hs0 hS) hK hP (ci := 3) (q0 := 0) rfl rfl hl.1 rfl (Nat.le_of_ble_eq_true rfl) dX3_sheet_55 ⟨Nat.zero_le _, Nat.zero_le _⟩ hS (fun _ h => h) (fun H1 locs hz hfr hB hS => ?_)
            obtain ⟨T, tq, la, tt, z, hP⟩ := hB
            generalize H1 = H at hP hS ⊢
            have hD : va_D (aX ad) (wX ci ad (toF X (inc X.2.2.2.1 0)) T tq la tt z) := wX_D hI
            have hp : p_sheet X (nI s_n) (nI 8) nn = (fnd 0, toF X (inc X.2.2.2.1 0)) := by first | (simp [p_sheet, bk, fl_eq, updF_s, c1, c2, Nat.lt_irrefl, c9, c10, t_s_n, t_bt, i12]; done)
            refine nv_cv (show fnd 0 = (p_sheet X (nI s_n) (nI 8) nn).1 from by rw [hp]) ?_
            exact mu_iret hx hb hr hlocks hS ((by rw [hp]; exact ⟨_, _, _, _, _, hP⟩)) dX3_sheet_58
        · have i13 : ∀ u9, inN nn u9 = false := fun u9 => in_f0 (Int32.not_le.mp c9)
          refine lv_aload_n hx hb dX3_sheet_40 rfl (lv_at hl 0 rfl) ?_
          refine lv_bipush (v := nI (6)) hx hb dX3_sheet_41 (by decide) ?_
          refine mu_V (n := 1) (As := [.int (nI 6)]) (rest := []) ⟨hx, hb, hml, hown, hts⟩ (c_X3_finding l D ci G ka ad X T tq la tt z hI hG (6) hWX (by omega)) gX3_sheet_X3_finding rfl ⟨rfl, rfl⟩ (by decide +kernel) rfl ⟨Nat.le_of_ble_eq_true rfl, Nat.le_of_ble_eq_true rfl⟩ hE (en_S hGA hs0 hS) hK hP (ci := 3) (q0 := 0) rfl rfl hl.1 rfl (Nat.le_of_ble_eq_true rfl) dX3_sheet_43 ⟨Nat.zero_le _, Nat.zero_le _⟩ hS (fun _ h => h) (fun H1 locs hz hfr hB hS => ?_)
          obtain ⟨T, tq, la, tt, z, hP⟩ := hB
          generalize H1 = H at hP hS ⊢
          have hD : va_D (aX ad) (wX ci ad (toF X (inc X.2.2.2.1 6)) T tq la tt z) := wX_D hI
          have hp : p_sheet X (nI s_n) (nI 8) nn = (fnd 6, toF X (inc X.2.2.2.1 6)) := by first | (simp [p_sheet, bk, fl_eq, updF_s, c1, c2, Nat.lt_irrefl, c9, t_s_n, t_bt, i13]; done)
          refine nv_cv (show fnd 6 = (p_sheet X (nI s_n) (nI 8) nn).1 from by rw [hp]) ?_
          exact mu_iret hx hb hr hlocks hS ((by rw [hp]; exact ⟨_, _, _, _, _, hP⟩)) dX3_sheet_46
      · refine lv_iload_n hx hb dX3_sheet_18 rfl (lv_at hl 2 rfl) ?_
        refine lv_bipush (v := nI (16)) hx hb dX3_sheet_19 (by decide) ?_
        refine lv_icmp_eq (tgt := 36) hx hb dX3_sheet_21 (by decide) (fun c14 => ?_) (fun c14 => ?_)
        · subst c14
          have t_bt : tn (nI 16) = 16 := tn_nI (by decide)
          refine lv_iload_n hx hb dX3_sheet_36 rfl (lv_at hl 3 rfl) ?_
          refine lv_if_ge (tgt := 47) hx hb dX3_sheet_37 (by decide) (fun c15 => ?_) (fun c15 => ?_)
          · refine lv_iload_n hx hb dX3_sheet_47 rfl (lv_at hl 3 rfl) ?_
            refine lv_bipush (v := nI (40)) hx hb dX3_sheet_48 (by decide) ?_
            refine lv_icmp_le (tgt := 59) hx hb dX3_sheet_50 (by decide) (fun c16 => ?_) (fun c16 => ?_)
            · have i17 : inN nn 41 = true := in_t3 (by omega) (Int32.not_lt.mpr c15) c16
              obtain ⟨nnn, h_nnn, rfl⟩ := in_ex i17 (by omega)
              have t_nnn : tn (nI nnn) = nnn := tn_nI (by omega)
              refine lv_aload_n hx hb dX3_sheet_59 rfl (lv_at hl 0 rfl) ?_
              refine va_get (D := D) (ci := 3) (v := .ref (ad 1)) (C := RX3) (T := TX3) (N := 9) hx hb hts hinX3 hown hK hP 0 rfl rfl 5 (by decide) (hts (.fieldLink RX3 35 "OneShort" "sheets" "[LOneShort$Sheet;") (List.mem_of_getElem? (i := 1) rfl)) (fun _ h9 => h9) rfl dX3_sheet_60 ?_
              refine lv_iload_n hx hb dX3_sheet_63 rfl (lv_at hl 1 rfl) ?_
              refine nv_aald (v := .ref (ad (40 + 2 * (s_n)))) hx hb hK hP 1 1 rfl rfl (by omega) (by decide) rfl dX3_sheet_64 ?_
              refine lv_iload_n hx hb dX3_sheet_65 rfl (lv_at hl 2 rfl) ?_
              refine lv_iload_n hx hb dX3_sheet_66 rfl (lv_at hl 3 rfl) ?_
              refine mu_V (n := 2) (As := [.int (nI 16), .int (nI nnn)]) (rest := []) ⟨hx, hb, hml, hown, hts⟩ (c_X1_begin l D ci G ka (sh ad (40 + 2 * (s_n))) (X.2.2.2.2.2.2.1 (s_n)) (X.2.2.2.2.2.2.2.1 (s_n)) (X.2.2.2.2.2.2.2.2 (s_n)) (injA_sh2 hI (by omega)) (G_sh2 hG (by omega)) (16) (nnn) (by omega) (by omega)) gX3_sheet_X1_begin rfl ⟨rfl, rfl⟩ (by decide +kernel) rfl ⟨Nat.le_of_ble_eq_true rfl, Nat.le_of_ble_eq_true rfl⟩ hE (en_S hGA hs0 hS) hK (wX_sh hP (k := s_n) (by omega)) (ci := 1) (q0 := 0) rfl rfl hl.1 rfl (Nat.le_of_ble_eq_true rfl) dX3_sheet_67 ⟨Nat.zero_le _, Nat.zero_le _⟩ hS (fun q h => aR_X (by omega) q (aT_sh q h)) (fun H1 locs hz hfr hB hS => ?_)
              have hP := wX_jS hI (k := s_n) (by omega) hP hfr hB
              generalize H1 = H at hP hS ⊢
              have hD : va_D (aX ad) (wX ci ad (toH X (updF X.2.2.2.2.2.2.1 (s_n) (16)) (updF X.2.2.2.2.2.2.2.1 (s_n) ((if 16 = 0 then 0 else nnn))) (updF X.2.2.2.2.2.2.2.2 (s_n) ((fun _ => 0)))) T tq la tt z) := wX_D hI
              refine lv_aload_n hx hb dX3_sheet_70 rfl (lv_at hl 0 rfl) ?_
              refine va_get (D := D) (ci := 3) (v := .ref (ad 1)) (C := RX3) (T := TX3) (N := 9) hx hb hts hinX3 hown hK hP 0 rfl rfl 5 (by decide) (hts (.fieldLink RX3 35 "OneShort" "sheets" "[LOneShort$Sheet;") (List.mem_of_getElem? (i := 1) rfl)) (fun _ h9 => h9) rfl dX3_sheet_71 ?_
              refine lv_iload_n hx hb dX3_sheet_74 rfl (lv_at hl 1 rfl) ?_
              refine nv_aald (v := .ref (ad (40 + 2 * (s_n)))) hx hb hK hP 1 1 rfl rfl (by omega) (by decide) rfl dX3_sheet_75 ?_
              refine va_get (D := D) (ci := 1) (v := .int (nI ((updF X.2.2.2.2.2.2.2.1 (s_n) ((if 16 = 0 then 0 else nnn))) (s_n)))) (C := RX1) (T := TX1) (N := 3) hx hb hts hinX1 hown hK (wX_sh hP (k := s_n) (by omega)) 0 rfl rfl 2 (by decide) (hts (.fieldLink RX3 221 "OneShort$Sheet" "length" "I") (List.mem_of_getElem? (i := 2) rfl)) (fun _ h9 => h9) rfl dX3_sheet_76 ?_
              have hp : p_sheet X (nI s_n) (nI 16) (nI nnn) = (nI ((updF X.2.2.2.2.2.2.2.1 (s_n) ((if 16 = 0 then 0 else nnn))) (s_n)), toH X (updF X.2.2.2.2.2.2.1 (s_n) (16)) (updF X.2.2.2.2.2.2.2.1 (s_n) ((if 16 = 0 then 0 else nnn))) (updF X.2.2.2.2.2.2.2.2 (s_n) ((fun _ => 0)))) := by first | (simp [p_sheet, bk, fl_eq, updF_s, c1, c2, c8, Nat.lt_irrefl, c15, c16, t_s_n, t_bt, i17, t_nnn]; done)
              refine nv_cv (show nI ((updF X.2.2.2.2.2.2.2.1 (s_n) ((if 16 = 0 then 0 else nnn))) (s_n)) = (p_sheet X (nI s_n) (nI 16) (nI nnn)).1 from by rw [hp]) ?_
              exact mu_iret hx hb hr hlocks hS ((by rw [hp]; exact ⟨_, _, _, _, _, hP⟩)) dX3_sheet_79
            · have i18 : inN nn 41 = false := in_f3 (by omega) c16
              refine lv_aload_n hx hb dX3_sheet_53 rfl (lv_at hl 0 rfl) ?_
              refine lv_iconst (v := nI (0)) hx hb dX3_sheet_54 (by decide) ?_
              refine mu_V (n := 1) (As := [.int (nI 0)]) (rest := []) ⟨hx, hb, hml, hown, hts⟩ (c_X3_finding l D ci G ka ad X T tq la tt z hI hG (0) hWX (by omega)) gX3_sheet_X3_finding rfl ⟨rfl, rfl⟩ (by decide +kernel) rfl ⟨Nat.le_of_ble_eq_true rfl, Nat.le_of_ble_eq_true rfl⟩ hE (en_S hGA hs0 hS) hK hP (ci := 3) (q0 := 0) rfl rfl hl.1 rfl (Nat.le_of_ble_eq_true rfl) dX3_sheet_55 ⟨Nat.zero_le _, Nat.zero_le _⟩ hS (fun _ h => h) (fun H1 locs hz hfr hB hS => ?_)
              obtain ⟨T, tq, la, tt, z, hP⟩ := hB
              generalize H1 = H at hP hS ⊢
              have hD : va_D (aX ad) (wX ci ad (toF X (inc X.2.2.2.1 0)) T tq la tt z) := wX_D hI
              have hp : p_sheet X (nI s_n) (nI 16) nn = (fnd 0, toF X (inc X.2.2.2.1 0)) := by first | (simp [p_sheet, bk, fl_eq, updF_s, c1, c2, c8, Nat.lt_irrefl, c15, c16, t_s_n, t_bt, i18]; done)
              refine nv_cv (show fnd 0 = (p_sheet X (nI s_n) (nI 16) nn).1 from by rw [hp]) ?_
              exact mu_iret hx hb hr hlocks hS ((by rw [hp]; exact ⟨_, _, _, _, _, hP⟩)) dX3_sheet_58
          · have i19 : ∀ u9, inN nn u9 = false := fun u9 => in_f0 (Int32.not_le.mp c15)
            refine lv_aload_n hx hb dX3_sheet_40 rfl (lv_at hl 0 rfl) ?_
            refine lv_bipush (v := nI (6)) hx hb dX3_sheet_41 (by decide) ?_
            refine mu_V (n := 1) (As := [.int (nI 6)]) (rest := []) ⟨hx, hb, hml, hown, hts⟩ (c_X3_finding l D ci G ka ad X T tq la tt z hI hG (6) hWX (by omega)) gX3_sheet_X3_finding rfl ⟨rfl, rfl⟩ (by decide +kernel) rfl ⟨Nat.le_of_ble_eq_true rfl, Nat.le_of_ble_eq_true rfl⟩ hE (en_S hGA hs0 hS) hK hP (ci := 3) (q0 := 0) rfl rfl hl.1 rfl (Nat.le_of_ble_eq_true rfl) dX3_sheet_43 ⟨Nat.zero_le _, Nat.zero_le _⟩ hS (fun _ h => h) (fun H1 locs hz hfr hB hS => ?_)
            obtain ⟨T, tq, la, tt, z, hP⟩ := hB
            generalize H1 = H at hP hS ⊢
            have hD : va_D (aX ad) (wX ci ad (toF X (inc X.2.2.2.1 6)) T tq la tt z) := wX_D hI
            have hp : p_sheet X (nI s_n) (nI 16) nn = (fnd 6, toF X (inc X.2.2.2.1 6)) := by first | (simp [p_sheet, bk, fl_eq, updF_s, c1, c2, c8, Nat.lt_irrefl, c15, t_s_n, t_bt, i19]; done)
            refine nv_cv (show fnd 6 = (p_sheet X (nI s_n) (nI 16) nn).1 from by rw [hp]) ?_
            exact mu_iret hx hb hr hlocks hS ((by rw [hp]; exact ⟨_, _, _, _, _, hP⟩)) dX3_sheet_46
        · refine lv_iload_n hx hb dX3_sheet_24 rfl (lv_at hl 2 rfl) ?_
          refine lv_bipush (v := nI (32)) hx hb dX3_sheet_25 (by decide) ?_
          refine lv_icmp_eq (tgt := 36) hx hb dX3_sheet_27 (by decide) (fun c20 => ?_) (fun c20 => ?_)
          · subst c20
            have t_bt : tn (nI 32) = 32 := tn_nI (by decide)
            refine lv_iload_n hx hb dX3_sheet_36 rfl (lv_at hl 3 rfl) ?_
            refine lv_if_ge (tgt := 47) hx hb dX3_sheet_37 (by decide) (fun c21 => ?_) (fun c21 => ?_)
            · refine lv_iload_n hx hb dX3_sheet_47 rfl (lv_at hl 3 rfl) ?_
              refine lv_bipush (v := nI (40)) hx hb dX3_sheet_48 (by decide) ?_
              refine lv_icmp_le (tgt := 59) hx hb dX3_sheet_50 (by decide) (fun c22 => ?_) (fun c22 => ?_)
              · have i23 : inN nn 41 = true := in_t3 (by omega) (Int32.not_lt.mpr c21) c22
                obtain ⟨nnn, h_nnn, rfl⟩ := in_ex i23 (by omega)
                have t_nnn : tn (nI nnn) = nnn := tn_nI (by omega)
                refine lv_aload_n hx hb dX3_sheet_59 rfl (lv_at hl 0 rfl) ?_
                refine va_get (D := D) (ci := 3) (v := .ref (ad 1)) (C := RX3) (T := TX3) (N := 9) hx hb hts hinX3 hown hK hP 0 rfl rfl 5 (by decide) (hts (.fieldLink RX3 35 "OneShort" "sheets" "[LOneShort$Sheet;") (List.mem_of_getElem? (i := 1) rfl)) (fun _ h9 => h9) rfl dX3_sheet_60 ?_
                refine lv_iload_n hx hb dX3_sheet_63 rfl (lv_at hl 1 rfl) ?_
                refine nv_aald (v := .ref (ad (40 + 2 * (s_n)))) hx hb hK hP 1 1 rfl rfl (by omega) (by decide) rfl dX3_sheet_64 ?_
                refine lv_iload_n hx hb dX3_sheet_65 rfl (lv_at hl 2 rfl) ?_
                refine lv_iload_n hx hb dX3_sheet_66 rfl (lv_at hl 3 rfl) ?_
                refine mu_V (n := 2) (As := [.int (nI 32), .int (nI nnn)]) (rest := []) ⟨hx, hb, hml, hown, hts⟩ (c_X1_begin l D ci G ka (sh ad (40 + 2 * (s_n))) (X.2.2.2.2.2.2.1 (s_n)) (X.2.2.2.2.2.2.2.1 (s_n)) (X.2.2.2.2.2.2.2.2 (s_n)) (injA_sh2 hI (by omega)) (G_sh2 hG (by omega)) (32) (nnn) (by omega) (by omega)) gX3_sheet_X1_begin rfl ⟨rfl, rfl⟩ (by decide +kernel) rfl ⟨Nat.le_of_ble_eq_true rfl, Nat.le_of_ble_eq_true rfl⟩ hE (en_S hGA hs0 hS) hK (wX_sh hP (k := s_n) (by omega)) (ci := 1) (q0 := 0) rfl rfl hl.1 rfl (Nat.le_of_ble_eq_true rfl) dX3_sheet_67 ⟨Nat.zero_le _, Nat.zero_le _⟩ hS (fun q h => aR_X (by omega) q (aT_sh q h)) (fun H1 locs hz hfr hB hS => ?_)
                have hP := wX_jS hI (k := s_n) (by omega) hP hfr hB
                generalize H1 = H at hP hS ⊢
                have hD : va_D (aX ad) (wX ci ad (toH X (updF X.2.2.2.2.2.2.1 (s_n) (32)) (updF X.2.2.2.2.2.2.2.1 (s_n) ((if 32 = 0 then 0 else nnn))) (updF X.2.2.2.2.2.2.2.2 (s_n) ((fun _ => 0)))) T tq la tt z) := wX_D hI
                refine lv_aload_n hx hb dX3_sheet_70 rfl (lv_at hl 0 rfl) ?_
                refine va_get (D := D) (ci := 3) (v := .ref (ad 1)) (C := RX3) (T := TX3) (N := 9) hx hb hts hinX3 hown hK hP 0 rfl rfl 5 (by decide) (hts (.fieldLink RX3 35 "OneShort" "sheets" "[LOneShort$Sheet;") (List.mem_of_getElem? (i := 1) rfl)) (fun _ h9 => h9) rfl dX3_sheet_71 ?_
                refine lv_iload_n hx hb dX3_sheet_74 rfl (lv_at hl 1 rfl) ?_
                refine nv_aald (v := .ref (ad (40 + 2 * (s_n)))) hx hb hK hP 1 1 rfl rfl (by omega) (by decide) rfl dX3_sheet_75 ?_
                refine va_get (D := D) (ci := 1) (v := .int (nI ((updF X.2.2.2.2.2.2.2.1 (s_n) ((if 32 = 0 then 0 else nnn))) (s_n)))) (C := RX1) (T := TX1) (N := 3) hx hb hts hinX1 hown hK (wX_sh hP (k := s_n) (by omega)) 0 rfl rfl 2 (by decide) (hts (.fieldLink RX3 221 "OneShort$Sheet" "length" "I") (List.mem_of_getElem? (i := 2) rfl)) (fun _ h9 => h9) rfl dX3_sheet_76 ?_
                have hp : p_sheet X (nI s_n) (nI 32) (nI nnn) = (nI ((updF X.2.2.2.2.2.2.2.1 (s_n) ((if 32 = 0 then 0 else nnn))) (s_n)), toH X (updF X.2.2.2.2.2.2.1 (s_n) (32)) (updF X.2.2.2.2.2.2.2.1 (s_n) ((if 32 = 0 then 0 else nnn))) (updF X.2.2.2.2.2.2.2.2 (s_n) ((fun _ => 0)))) := by first | (simp [p_sheet, bk, fl_eq, updF_s, c1, c2, c8, c14, Nat.lt_irrefl, c21, c22, t_s_n, t_bt, i23, t_nnn]; done)
                refine nv_cv (show nI ((updF X.2.2.2.2.2.2.2.1 (s_n) ((if 32 = 0 then 0 else nnn))) (s_n)) = (p_sheet X (nI s_n) (nI 32) (nI nnn)).1 from by rw [hp]) ?_
                exact mu_iret hx hb hr hlocks hS ((by rw [hp]; exact ⟨_, _, _, _, _, hP⟩)) dX3_sheet_79
              · have i24 : inN nn 41 = false := in_f3 (by omega) c22
                refine lv_aload_n hx hb dX3_sheet_53 rfl (lv_at hl 0 rfl) ?_
                refine lv_iconst (v := nI (0)) hx hb dX3_sheet_54 (by decide) ?_
                refine mu_V (n := 1) (As := [.int (nI 0)]) (rest := []) ⟨hx, hb, hml, hown, hts⟩ (c_X3_finding l D ci G ka ad X T tq la tt z hI hG (0) hWX (by omega)) gX3_sheet_X3_finding rfl ⟨rfl, rfl⟩ (by decide +kernel) rfl ⟨Nat.le_of_ble_eq_true rfl, Nat.le_of_ble_eq_true rfl⟩ hE (en_S hGA hs0 hS) hK hP (ci := 3) (q0 := 0) rfl rfl hl.1 rfl (Nat.le_of_ble_eq_true rfl) dX3_sheet_55 ⟨Nat.zero_le _, Nat.zero_le _⟩ hS (fun _ h => h) (fun H1 locs hz hfr hB hS => ?_)
                obtain ⟨T, tq, la, tt, z, hP⟩ := hB
                generalize H1 = H at hP hS ⊢
                have hD : va_D (aX ad) (wX ci ad (toF X (inc X.2.2.2.1 0)) T tq la tt z) := wX_D hI
                have hp : p_sheet X (nI s_n) (nI 32) nn = (fnd 0, toF X (inc X.2.2.2.1 0)) := by first | (simp [p_sheet, bk, fl_eq, updF_s, c1, c2, c8, c14, Nat.lt_irrefl, c21, c22, t_s_n, t_bt, i24]; done)
                refine nv_cv (show fnd 0 = (p_sheet X (nI s_n) (nI 32) nn).1 from by rw [hp]) ?_
                exact mu_iret hx hb hr hlocks hS ((by rw [hp]; exact ⟨_, _, _, _, _, hP⟩)) dX3_sheet_58
            · have i25 : ∀ u9, inN nn u9 = false := fun u9 => in_f0 (Int32.not_le.mp c21)
              refine lv_aload_n hx hb dX3_sheet_40 rfl (lv_at hl 0 rfl) ?_
              refine lv_bipush (v := nI (6)) hx hb dX3_sheet_41 (by decide) ?_
              refine mu_V (n := 1) (As := [.int (nI 6)]) (rest := []) ⟨hx, hb, hml, hown, hts⟩ (c_X3_finding l D ci G ka ad X T tq la tt z hI hG (6) hWX (by omega)) gX3_sheet_X3_finding rfl ⟨rfl, rfl⟩ (by decide +kernel) rfl ⟨Nat.le_of_ble_eq_true rfl, Nat.le_of_ble_eq_true rfl⟩ hE (en_S hGA hs0 hS) hK hP (ci := 3) (q0 := 0) rfl rfl hl.1 rfl (Nat.le_of_ble_eq_true rfl) dX3_sheet_43 ⟨Nat.zero_le _, Nat.zero_le _⟩ hS (fun _ h => h) (fun H1 locs hz hfr hB hS => ?_)
              obtain ⟨T, tq, la, tt, z, hP⟩ := hB
              generalize H1 = H at hP hS ⊢
              have hD : va_D (aX ad) (wX ci ad (toF X (inc X.2.2.2.1 6)) T tq la tt z) := wX_D hI
              have hp : p_sheet X (nI s_n) (nI 32) nn = (fnd 6, toF X (inc X.2.2.2.1 6)) := by first | (simp [p_sheet, bk, fl_eq, updF_s, c1, c2, c8, c14, Nat.lt_irrefl, c21, t_s_n, t_bt, i25]; done)
              refine nv_cv (show fnd 6 = (p_sheet X (nI s_n) (nI 32) nn).1 from by rw [hp]) ?_
              exact mu_iret hx hb hr hlocks hS ((by rw [hp]; exact ⟨_, _, _, _, _, hP⟩)) dX3_sheet_46
          · refine lv_aload_n hx hb dX3_sheet_30 rfl (lv_at hl 0 rfl) ?_
            refine lv_iconst (v := nI (0)) hx hb dX3_sheet_31 (by decide) ?_
            refine mu_V (n := 1) (As := [.int (nI 0)]) (rest := []) ⟨hx, hb, hml, hown, hts⟩ (c_X3_finding l D ci G ka ad X T tq la tt z hI hG (0) hWX (by omega)) gX3_sheet_X3_finding rfl ⟨rfl, rfl⟩ (by decide +kernel) rfl ⟨Nat.le_of_ble_eq_true rfl, Nat.le_of_ble_eq_true rfl⟩ hE (en_S hGA hs0 hS) hK hP (ci := 3) (q0 := 0) rfl rfl hl.1 rfl (Nat.le_of_ble_eq_true rfl) dX3_sheet_32 ⟨Nat.zero_le _, Nat.zero_le _⟩ hS (fun _ h => h) (fun H1 locs hz hfr hB hS => ?_)
            obtain ⟨T, tq, la, tt, z, hP⟩ := hB
            generalize H1 = H at hP hS ⊢
            have hD : va_D (aX ad) (wX ci ad (toF X (inc X.2.2.2.1 0)) T tq la tt z) := wX_D hI
            have hp : p_sheet X (nI s_n) bt nn = (fnd 0, toF X (inc X.2.2.2.1 0)) := by first | (simp [p_sheet, bk, fl_eq, updF_s, c1, c2, c8, c14, c20, t_s_n]; done)
            refine nv_cv (show fnd 0 = (p_sheet X (nI s_n) bt nn).1 from by rw [hp]) ?_
            exact mu_iret hx hb hr hlocks hS ((by rw [hp]; exact ⟨_, _, _, _, _, hP⟩)) dX3_sheet_35

set_option maxHeartbeats 4000000 in
set_option maxRecDepth 100000 in
/-- X3_write -/
theorem c_X3_write (l : Launch) (D : va_G) (ci : Nat → ClassId) (G : Nat → Prop) (ka : Nat) (ad : Nat → Nat) (X : AS) (T : OS) (tq la tt : Nat → Int32) (z : Nat → Nat → Int32) (hI : injA ad 48) (hG : ∀ k, k < 48 → G (ad k)) (s_ i_ v : Int32) (hWX : WFX X) : Met l yX3_write wsX3_write ({ frames := 2, cells := 0, slots := 0, locals := 42 } : Room) (va_Pc [.ref (ad 0), .int (s_), .int (i_), .int (v)] (ro_B D (tyL ci) (wX ci ad X T tq la tt z) (en D (ci 0) G ka))) (mu_Q (aX ad) (some (.int ((p_write X s_ i_ v).1))) (fun H => ∃ T tq la tt z, va_P D vwCl (wX ci ad ((p_write X s_ i_ v).2) T tq la tt z) H)) 0 0 (aX ad) := by
  refine mu_Met (cc := cX3_write) (maxL := 5) (ret := (some .int)) [(0, .ref (ad 0)), (1, .int (s_)), (2, .int (i_)), (3, .int (v))] (wX_D hI) (by decide) rfl (Nat.le_of_ble_eq_true rfl) rfl ?_
  intro p e s m below meth c H locs hx hb hml hr hlocks hts hown hP hK hs0 hD hS ls hl
  have hown : s.vm.findClass RX3 = some m.cls := hown
  have hinX1 : ∀ w ∈ wsX10, w ∈ wsX3_write := by decide +kernel
  have hinX3 : ∀ w ∈ wsX30, w ∈ wsX3_write := by decide +kernel
  have hE := hE_en D (ci 0) G ka
  have hWF := hWX.w
  have f_n := hWF.n
  have f_e := hWX.e
  have f_tl := hWX.t
  have hGA := aX_G hG
  have hWK := hWX.k
  refine lv_aload_n hx hb dX3_write_0 rfl (lv_at hl 0 rfl) ?_
  refine lv_iload_n hx hb dX3_write_1 rfl (lv_at hl 1 rfl) ?_
  refine ro_V (n := 1) (As := [.int (s_)]) (rest := []) ⟨hx, hb, hml, hown, hts⟩ (c_X3_lackOf l D ci G ka ad X T tq la tt z (s_) hWX) gX3_write_X3_lackOf rfl ⟨rfl, rfl⟩ (by decide +kernel) rfl ⟨Nat.le_of_ble_eq_true rfl, Nat.le_of_ble_eq_true rfl⟩ hE (en_S hGA hs0 hS) hK hP (ci := 3) (q0 := 0) rfl rfl hl.1 rfl (Nat.le_of_ble_eq_true rfl) dX3_write_2 ⟨Nat.zero_le _, Nat.zero_le _⟩ ?_
  refine lv_istore (lv' := [(4, .int (lk (lackN X s_))), (0, .ref (ad 0)), (1, .int (s_)), (2, .int (i_)), (3, .int (v))]) hx hb dX3_write_5 hl (by decide) rfl (fun ls hl => ?_)
  refine lv_iload hx hb dX3_write_7 (lv_at hl 0 rfl) ?_
  refine lv_iconst (v := -1) hx hb dX3_write_9 (by decide) ?_
  refine lv_icmp_eq (tgt := 20) hx hb dX3_write_10 (by decide) (fun c1 => ?_) (fun c1 => ?_)
  · have q2 := lk_eq c1
    obtain ⟨s_n, h_s_n, h_bs_, rfl⟩ := lack_ok q2
    rw [c1] at hl
    have t_s_n : tn (nI s_n) = s_n := tn_nI (by omega)
    have f3 := hWX.sl s_n
    have f4 := sb_lt hWX s_n
    refine lv_iload_n hx hb dX3_write_20 rfl (lv_at hl 3 rfl) ?_
    refine lv_if_lt (tgt := 37) hx hb dX3_write_21 (by decide) (fun c5 => ?_) (fun c5 => ?_)
    · have i6 : ∀ u9, inN i_ u9 = false := fun u9 => in_f0 c5
      refine lv_aload_n hx hb dX3_write_37 rfl (lv_at hl 1 rfl) ?_
      refine lv_iconst (v := nI (0)) hx hb dX3_write_38 (by decide) ?_
      refine mu_V (n := 1) (As := [.int (nI 0)]) (rest := []) ⟨hx, hb, hml, hown, hts⟩ (c_X3_finding l D ci G ka ad X T tq la tt z hI hG (0) hWX (by omega)) gX3_write_X3_finding rfl ⟨rfl, rfl⟩ (by decide +kernel) rfl ⟨Nat.le_of_ble_eq_true rfl, Nat.le_of_ble_eq_true rfl⟩ hE (en_S hGA hs0 hS) hK hP (ci := 3) (q0 := 0) rfl rfl hl.1 rfl (Nat.le_of_ble_eq_true rfl) dX3_write_39 ⟨Nat.zero_le _, Nat.zero_le _⟩ hS (fun _ h => h) (fun H1 locs hz hfr hB hS => ?_)
      obtain ⟨T, tq, la, tt, z, hP⟩ := hB
      generalize H1 = H at hP hS ⊢
      have hD : va_D (aX ad) (wX ci ad (toF X (inc X.2.2.2.1 0)) T tq la tt z) := wX_D hI
      have hp : p_write X (nI s_n) i_ v = (fnd 0, toF X (inc X.2.2.2.1 0)) := by first | (simp [p_write, bk, fl_eq, c1, c5, q2, t_s_n, h_bs_, i6]; done)
      refine nv_cv (show fnd 0 = (p_write X (nI s_n) i_ v).1 from by rw [hp]) ?_
      exact mu_iret hx hb hr hlocks hS ((by rw [hp]; exact ⟨_, _, _, _, _, hP⟩)) dX3_write_42
    · refine lv_iload_n hx hb dX3_write_24 rfl (lv_at hl 3 rfl) ?_
      refine lv_aload_n hx hb dX3_write_25 rfl (lv_at hl 1 rfl) ?_
      refine va_get (D := D) (ci := 3) (v := .ref (ad 1)) (C := RX3) (T := TX3) (N := 9) hx hb hts hinX3 hown hK hP 0 rfl rfl 5 (by decide) (hts (.fieldLink RX3 35 "OneShort" "sheets" "[LOneShort$Sheet;") (List.mem_of_getElem? (i := 1) rfl)) (fun _ h9 => h9) rfl dX3_write_26 ?_
      refine lv_iload_n hx hb dX3_write_29 rfl (lv_at hl 2 rfl) ?_
      refine nv_aald (v := .ref (ad (40 + 2 * (s_n)))) hx hb hK hP 1 1 rfl rfl (by omega) (by decide) rfl dX3_write_30 ?_
      refine va_get (D := D) (ci := 1) (v := .int (nI (X.2.2.2.2.2.2.2.1 (s_n)))) (C := RX1) (T := TX1) (N := 3) hx hb hts hinX1 hown hK (wX_sh hP (k := s_n) (by omega)) 0 rfl rfl 2 (by decide) (hts (.fieldLink RX3 221 "OneShort$Sheet" "length" "I") (List.mem_of_getElem? (i := 2) rfl)) (fun _ h9 => h9) rfl dX3_write_31 ?_
      refine lv_icmp_lt (tgt := 43) hx hb dX3_write_34 (by decide) (fun c7 => ?_) (fun c7 => ?_)
      · have i8 : inN i_ (X.2.2.2.2.2.2.2.1 (s_n)) = true := in_t2 (by omega) c5 c7
        obtain ⟨i_n, h_i_n, rfl⟩ := in_ex i8 (by omega)
        have t_i_n : tn (nI i_n) = i_n := tn_nI (by omega)
        refine lv_aload_n hx hb dX3_write_43 rfl (lv_at hl 1 rfl) ?_
        refine va_get (D := D) (ci := 3) (v := .ref (ad 1)) (C := RX3) (T := TX3) (N := 9) hx hb hts hinX3 hown hK hP 0 rfl rfl 5 (by decide) (hts (.fieldLink RX3 35 "OneShort" "sheets" "[LOneShort$Sheet;") (List.mem_of_getElem? (i := 1) rfl)) (fun _ h9 => h9) rfl dX3_write_44 ?_
        refine lv_iload_n hx hb dX3_write_47 rfl (lv_at hl 2 rfl) ?_
        refine nv_aald (v := .ref (ad (40 + 2 * (s_n)))) hx hb hK hP 1 1 rfl rfl (by omega) (by decide) rfl dX3_write_48 ?_
        refine lv_iload_n hx hb dX3_write_49 rfl (lv_at hl 3 rfl) ?_
        refine lv_iload_n hx hb dX3_write_50 rfl (lv_at hl 4 rfl) ?_
        refine mu_V (n := 2) (As := [.int (nI i_n), .int (v)]) (rest := []) ⟨hx, hb, hml, hown, hts⟩ (c_X1_set l D ci G ka (sh ad (40 + 2 * (s_n))) (X.2.2.2.2.2.2.1 (s_n)) (X.2.2.2.2.2.2.2.1 (s_n)) (X.2.2.2.2.2.2.2.2 (s_n)) (injA_sh2 hI (by omega)) (G_sh2 hG (by omega)) (i_n) (v) (by omega) (by omega)) gX3_write_X1_set rfl ⟨rfl, rfl⟩ (by decide +kernel) rfl ⟨Nat.le_of_ble_eq_true rfl, Nat.le_of_ble_eq_true rfl⟩ hE (en_S hGA hs0 hS) hK (wX_sh hP (k := s_n) (by omega)) (ci := 1) (q0 := 0) rfl rfl hl.1 rfl (Nat.le_of_ble_eq_true rfl) dX3_write_51 ⟨Nat.zero_le _, Nat.zero_le _⟩ hS (fun q h => aR_X (by omega) q (aT_sh q h)) (fun H1 locs hz hfr hB hS => ?_)
        have hP := wX_jS hI (k := s_n) (by omega) hP hfr hB
        generalize H1 = H at hP hS ⊢
        have hD : va_D (aX ad) (wX ci ad (toH X (updF X.2.2.2.2.2.2.1 (s_n) ((X.2.2.2.2.2.2.1 (s_n)))) (updF X.2.2.2.2.2.2.2.1 (s_n) ((X.2.2.2.2.2.2.2.1 (s_n)))) (updF X.2.2.2.2.2.2.2.2 (s_n) ((upd (X.2.2.2.2.2.2.2.2 (s_n)) i_n (cutN (X.2.2.2.2.2.2.1 (s_n)) v))))) T tq la tt z) := wX_D hI
        refine lv_iconst (v := nI (1)) hx hb dX3_write_54 (by decide) ?_
        have hp : p_write X (nI s_n) (nI i_n) v = (nI (1), toH X (updF X.2.2.2.2.2.2.1 (s_n) ((X.2.2.2.2.2.2.1 (s_n)))) (updF X.2.2.2.2.2.2.2.1 (s_n) ((X.2.2.2.2.2.2.2.1 (s_n)))) (updF X.2.2.2.2.2.2.2.2 (s_n) ((upd (X.2.2.2.2.2.2.2.2 (s_n)) i_n (cutN (X.2.2.2.2.2.2.1 (s_n)) v))))) := by first | (simp [p_write, bk, fl_eq, c1, c5, c7, q2, t_s_n, h_bs_, i8, t_i_n]; done)
        refine nv_cv (show nI (1) = (p_write X (nI s_n) (nI i_n) v).1 from by rw [hp]) ?_
        exact mu_iret hx hb hr hlocks hS ((by rw [hp]; exact ⟨_, _, _, _, _, hP⟩)) dX3_write_55
      · have i9 : inN i_ (X.2.2.2.2.2.2.2.1 (s_n)) = false := in_f2 (by omega) c7
        refine lv_aload_n hx hb dX3_write_37 rfl (lv_at hl 1 rfl) ?_
        refine lv_iconst (v := nI (0)) hx hb dX3_write_38 (by decide) ?_
        refine mu_V (n := 1) (As := [.int (nI 0)]) (rest := []) ⟨hx, hb, hml, hown, hts⟩ (c_X3_finding l D ci G ka ad X T tq la tt z hI hG (0) hWX (by omega)) gX3_write_X3_finding rfl ⟨rfl, rfl⟩ (by decide +kernel) rfl ⟨Nat.le_of_ble_eq_true rfl, Nat.le_of_ble_eq_true rfl⟩ hE (en_S hGA hs0 hS) hK hP (ci := 3) (q0 := 0) rfl rfl hl.1 rfl (Nat.le_of_ble_eq_true rfl) dX3_write_39 ⟨Nat.zero_le _, Nat.zero_le _⟩ hS (fun _ h => h) (fun H1 locs hz hfr hB hS => ?_)
        obtain ⟨T, tq, la, tt, z, hP⟩ := hB
        generalize H1 = H at hP hS ⊢
        have hD : va_D (aX ad) (wX ci ad (toF X (inc X.2.2.2.1 0)) T tq la tt z) := wX_D hI
        have hp : p_write X (nI s_n) i_ v = (fnd 0, toF X (inc X.2.2.2.1 0)) := by first | (simp [p_write, bk, fl_eq, c1, c5, c7, q2, t_s_n, h_bs_, i9]; done)
        refine nv_cv (show fnd 0 = (p_write X (nI s_n) i_ v).1 from by rw [hp]) ?_
        exact mu_iret hx hb hr hlocks hS ((by rw [hp]; exact ⟨_, _, _, _, _, hP⟩)) dX3_write_42
  · have q10 := lk_ne c1
    have e11 := lk_nI q10
    rw [e11] at hl
    have f12 := lack_lt q10
    refine lv_aload_n hx hb dX3_write_13 rfl (lv_at hl 1 rfl) ?_
    refine lv_iload hx hb dX3_write_14 (lv_at hl 0 rfl) ?_
    refine mu_V (n := 1) (As := [.int (nI (lackN X s_))]) (rest := []) ⟨hx, hb, hml, hown, hts⟩ (c_X3_finding l D ci G ka ad X T tq la tt z hI hG (lackN X s_) hWX (by omega)) gX3_write_X3_finding rfl ⟨rfl, rfl⟩ (by decide +kernel) rfl ⟨Nat.le_of_ble_eq_true rfl, Nat.le_of_ble_eq_true rfl⟩ hE (en_S hGA hs0 hS) hK hP (ci := 3) (q0 := 0) rfl rfl hl.1 rfl (Nat.le_of_ble_eq_true rfl) dX3_write_16 ⟨Nat.zero_le _, Nat.zero_le _⟩ hS (fun _ h => h) (fun H1 locs hz hfr hB hS => ?_)
    obtain ⟨T, tq, la, tt, z, hP⟩ := hB
    generalize H1 = H at hP hS ⊢
    have hD : va_D (aX ad) (wX ci ad (toF X (inc X.2.2.2.1 (lackN X s_))) T tq la tt z) := wX_D hI
    have hp : p_write X s_ i_ v = (fnd (lackN X s_), toF X (inc X.2.2.2.1 (lackN X s_))) := by first | (simp [p_write, bk, fl_eq, c1, q10]; done)
    refine nv_cv (show fnd (lackN X s_) = (p_write X s_ i_ v).1 from by rw [hp]) ?_
    exact mu_iret hx hb hr hlocks hS ((by rw [hp]; exact ⟨_, _, _, _, _, hP⟩)) dX3_write_19
