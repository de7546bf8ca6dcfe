/-! walks laid by program -/
set_option maxHeartbeats 4000000 in
set_option maxRecDepth 100000 in
/-- X3_trialGoesAs -/
theorem c_X3_trialGoesAs (l : Launch) (D : va_G) (ci : Nat → ClassId) (G : Nat → Prop) (ka : Nat) (ad : Nat → Nat) (X : AS) (T : OS) (tq la tt : Nat → Int32) (z : Nat → Nat → Int32) (hI : injA ad 48) (hG : ∀ k, k < 48 → G (ad k)) (k q : Nat) (hWX : WFX X) (h_k : k < 4) (h_q : q < 8) (hWT : WF T) : Met l yX3_trialGoesAs wsX3_trialGoesAs ({ frames := 4, cells := 0, slots := 0, locals := 108 } : Room) (va_Pc [.ref (ad 0), .ref (ad (40 + 2 * (k))), .int (nI q)] (ro_B D (tyL ci) (wX ci ad X T tq la tt z) (en D (ci 0) G ka))) (mu_Q (aX ad) (some (.int (bI (goA T (X.2.2.2.2.2.2.2.1 k) (X.2.2.2.2.2.2.2.2 k) q)))) (fun H => ∃ T tq la tt z, va_P D vwCl (wX ci ad X T tq la tt z) H)) 0 0 (aX ad) := by
  refine mu_Met (cc := cX3_trialGoesAs) (maxL := 5) (ret := (some .boolean)) [(0, .ref (ad 0)), (1, .ref (ad (40 + 2 * (k)))), (2, .int (nI q))] (wX_D hI) (by decide) rfl (Nat.le_of_ble_eq_true rfl) rfl ?_
  intro p e s m below meth c H locs hx hb hml hr hlocks hts hown hP hK hs0 hD hS ls hl
  have hown : s.vm.findClass RX3 = some m.cls := hown
  have hinX0 : ∀ w ∈ wsX00, w ∈ wsX3_trialGoesAs := by decide +kernel
  have hinX1 : ∀ w ∈ wsX10, w ∈ wsX3_trialGoesAs := by decide +kernel
  have hinX3 : ∀ w ∈ wsX30, w ∈ wsX3_trialGoesAs := by decide +kernel
  have hE := hE_en D (ci 0) G ka
  have hWF := hWX.w
  have f_n := hWF.n
  have f_e := hWX.e
  have f_tl := hWX.t
  have hGA := aX_G hG
  have hWK := hWX.k
  have f_s := hWX.sl k
  refine lv_iconst (v := nI (0)) hx hb dX3_trialGoesAs_0 (by decide) ?_
  refine lv_istore_n (lv' := [(3, .int (nI 0)), (0, .ref (ad 0)), (1, .ref (ad (40 + 2 * (k)))), (2, .int (nI q))]) hx hb dX3_trialGoesAs_1 rfl hl (by decide) rfl (fun ls hl => ?_)
  have L2 : ∀ (k2 : Nat) (i : Nat), X.2.2.2.2.2.2.2.1 k - i < k2 → (i ≤ X.2.2.2.2.2.2.2.1 k) → (∀ j, j < i → badA T (X.2.2.2.2.2.2.2.2 k) q j = false) → ∀ (x3 : Int32), x3 = nI (i) → ∀ (z : Nat → Nat → Int32), ∀ (H : Heap) (locs : List Loc), va_P D vwCl (wX ci ad X (evCn T (i - 1)) tq la tt z) H → va_S (aX ad) s.heap H locs → ∀ ls : Array Slot, lv_has ls 5 [(3, .int (x3)), (0, .ref (ad 0)), (1, .ref (ad (40 + 2 * (k)))), (2, .int (nI q))] → W p l e (headSpec wsX3_trialGoesAs ({ frames := 4, cells := 0, slots := 0, locals := 108 } : Room)).room s m ([.ref (ad 0), .ref (ad (40 + 2 * (k))), .int (nI q)] : List Value).toArray below meth c H locs 0 0 (MQ below (mu_Q (aX ad) (some (.int (bI (goA T (X.2.2.2.2.2.2.2.1 k) (X.2.2.2.2.2.2.2.2 k) q)))) (fun H => ∃ T tq la tt z, va_P D vwCl (wX ci ad X T tq la tt z) H)) ([.ref (ad 0), .ref (ad (40 + 2 * (k))), .int (nI q)] : List Value).toArray s 0 0 (aX ad)) (F0 m 2 ls []) := by
    intro k2
    induction k2 with
    | zero => intro i h0; exact absurd h0 (Nat.not_lt_zero _)
    | succ k2 ih2 =>
      intro i hk2 h_i h_u x3 e3 z H locs hP hS ls hl
      subst e3
      have hD : va_D (aX ad) (wX ci ad X (evCn T (i - 1)) tq la tt z) := wX_D hI
      have hWFi := WF_evCn hWT (i - 1)
      refine lv_iload_n hx hb dX3_trialGoesAs_2 rfl (lv_at hl 0 rfl) ?_
      refine lv_aload_n hx hb dX3_trialGoesAs_3 rfl (lv_at hl 2 rfl) ?_
      refine va_get (D := D) (ci := 1) (v := .int (nI (X.2.2.2.2.2.2.2.1 (k)))) (C := RX1) (T := TX1) (N := 3) hx hb hts hinX1 hown hK (wX_sh (k := k) (by omega) hP) 0 rfl rfl 2 (by decide) (hts (.fieldLink RX3 221 "OneShort$Sheet" "length" "I") (List.mem_of_getElem? (i := 1) rfl)) (fun _ h9 => h9) rfl dX3_trialGoesAs_4 ?_
      refine nv_icmp_ge (tgt := 58) hx hb (by omega) (by omega) dX3_trialGoesAs_7 (by decide) (fun c1 => ?_) (fun c1 => ?_)
      · refine lv_iconst (v := nI (1)) hx hb dX3_trialGoesAs_58 (by decide) ?_
        refine nv_cv (show nI (1) = bI (goA T (X.2.2.2.2.2.2.2.1 k) (X.2.2.2.2.2.2.2.2 k) q) from nv_t (goA_t (fun j hj => h_u j (by omega)))) ?_
        exact mu_zret hx hb hr hlocks hS (⟨_, _, _, _, _, hP⟩) dX3_trialGoesAs_59
      · refine lv_iload_n hx hb dX3_trialGoesAs_10 rfl (lv_at hl 0 rfl) ?_
        refine nv_ifle (tgt := 22) hx hb (by omega) dX3_trialGoesAs_11 (by decide) (fun c2 => ?_) (fun c2 => ?_)
        · refine lv_aload_n hx hb dX3_trialGoesAs_22 rfl (lv_at hl 2 rfl) ?_
          refine va_get (D := D) (ci := 1) (v := .ref (ad (40 + 2 * (k) + 1))) (C := RX1) (T := TX1) (N := 3) hx hb hts hinX1 hown hK (wX_sh (k := k) (by omega) hP) 0 rfl rfl 0 (by decide) (hts (.fieldLink RX3 237 "OneShort$Sheet" "numbers" "[I") (List.mem_of_getElem? (i := 3) rfl)) (fun _ h9 => h9) rfl dX3_trialGoesAs_23 ?_
          refine lv_iload_n hx hb dX3_trialGoesAs_26 rfl (lv_at hl 0 rfl) ?_
          refine nv_iald (v := X.2.2.2.2.2.2.2.2 (k) (i)) hx hb hK (wX_sh (k := k) (by omega) hP) 1 0 rfl rfl (by omega) (by decide) rfl dX3_trialGoesAs_27 ?_
          refine lv_istore (lv' := [(4, .int (X.2.2.2.2.2.2.2.2 (k) (i))), (3, .int (nI i)), (0, .ref (ad 0)), (1, .ref (ad (40 + 2 * (k)))), (2, .int (nI q))]) hx hb dX3_trialGoesAs_28 hl (by decide) rfl (fun ls hl => ?_)
          refine lv_iload hx hb dX3_trialGoesAs_30 (lv_at hl 0 rfl) ?_
          refine lv_iconst (v := -1) hx hb dX3_trialGoesAs_32 (by decide) ?_
          refine lv_icmp_eq (tgt := 52) hx hb dX3_trialGoesAs_33 (by decide) (fun c3 => ?_) (fun c3 => ?_)
          · refine nv_iinc1 (lv' := [(3, .int (nI (i + 1))), (4, .int (X.2.2.2.2.2.2.2.2 (k) (i))), (0, .ref (ad 0)), (1, .ref (ad (40 + 2 * (k)))), (2, .int (nI q))]) hx hb dX3_trialGoesAs_52 hl (k := 1) rfl (by decide) rfl (fun ls hl => ?_)
            refine lv_goto (tgt := 2) hx hb dX3_trialGoesAs_55 (by decide) ?_
            exact ih2 (i + 1) (by omega) (by omega) (all_f h_u (by first | exact badA_1 c3 | exact badA_2 c3)) (nI (i + 1)) rfl (z) _ _ (va_P.re (by rw [Nat.add_sub_cancel]; first | rw [evC_pred c2] | rw [c2]) hP) hS ls (lv_sub hl [0, 2, 3, 4] rfl)
          · refine lv_iload hx hb dX3_trialGoesAs_36 (lv_at hl 0 rfl) ?_
            refine lv_aload_n hx hb dX3_trialGoesAs_38 rfl (lv_at hl 2 rfl) ?_
            refine va_get (D := D) (ci := 3) (v := .ref (ad 16)) (C := RX3) (T := TX3) (N := 9) hx hb hts hinX3 hown hK hP 0 rfl rfl 1 (by decide) (hts (.fieldLink RX3 16 "OneShort" "trial" "LOneShort$Orchestra;") (List.mem_of_getElem? (i := 2) rfl)) (fun _ h9 => h9) rfl dX3_trialGoesAs_39 ?_
            refine va_get (D := D) (ci := 0) (v := .ref (ad 22)) (C := RX0) (T := TX0) (N := 13) hx hb hts hinX0 hown hK hP 16 rfl rfl 5 (by decide) (hts (.fieldLink RX3 96 "OneShort$Orchestra" "nerve" "[I") (List.mem_of_getElem? (i := 4) rfl)) (fun _ h9 => h9) rfl dX3_trialGoesAs_42 ?_
            refine lv_iload_n hx hb dX3_trialGoesAs_45 rfl (lv_at hl 4 rfl) ?_
            have f4 := hWFi.f5 (q)
            refine nv_iald (v := nI ((evCn T (i - 1)) 5 (q))) hx hb hK hP 22 0 rfl rfl (by omega) (by decide) rfl dX3_trialGoesAs_46 ?_
            refine nv_cv (show nI ((evCn T (i - 1)) 5 (q)) = nI (evCn T i 5 q) from (nv_e (by first | rw [evC_pred c2] | rw [c2]))) ?_
            refine lv_icmp_eq (tgt := 52) hx hb dX3_trialGoesAs_47 (by decide) (fun c5 => ?_) (fun c5 => ?_)
            · refine nv_iinc1 (lv' := [(3, .int (nI (i + 1))), (4, .int (X.2.2.2.2.2.2.2.2 (k) (i))), (0, .ref (ad 0)), (1, .ref (ad (40 + 2 * (k)))), (2, .int (nI q))]) hx hb dX3_trialGoesAs_52 hl (k := 1) rfl (by decide) rfl (fun ls hl => ?_)
              refine lv_goto (tgt := 2) hx hb dX3_trialGoesAs_55 (by decide) ?_
              exact ih2 (i + 1) (by omega) (by omega) (all_f h_u (by first | exact badA_1 c5 | exact badA_2 c5)) (nI (i + 1)) rfl (z) _ _ (va_P.re (by rw [Nat.add_sub_cancel]; first | rw [evC_pred c2] | rw [c2]) hP) hS ls (lv_sub hl [0, 2, 3, 4] rfl)
            · refine lv_iconst (v := nI (0)) hx hb dX3_trialGoesAs_50 (by decide) ?_
              refine nv_cv (show nI (0) = bI (goA T (X.2.2.2.2.2.2.2.1 k) (X.2.2.2.2.2.2.2.2 k) q) from nv_f (goA_f (by omega) (badA_t c3 c5))) ?_
              exact mu_zret hx hb hr hlocks hS (⟨_, _, _, _, _, hP⟩) dX3_trialGoesAs_51
        · refine lv_aload_n hx hb dX3_trialGoesAs_14 rfl (lv_at hl 1 rfl) ?_
          refine va_get (D := D) (ci := 3) (v := .ref (ad 16)) (C := RX3) (T := TX3) (N := 9) hx hb hts hinX3 hown hK hP 0 rfl rfl 1 (by decide) (hts (.fieldLink RX3 16 "OneShort" "trial" "LOneShort$Orchestra;") (List.mem_of_getElem? (i := 2) rfl)) (fun _ h9 => h9) rfl dX3_trialGoesAs_15 ?_
          refine mu_V (n := 0) (As := []) (rest := []) ⟨hx, hb, hml, hown, hts⟩ (c_X0_passEvening l D ci G ka (sh ad 16) (evCn T (i - 1)) (z 3) (z 4) (z 5) (injA_sh hI (by decide)) (G_sh hG (by decide))  hWFi) gX3_trialGoesAs_X0_passEvening rfl ⟨rfl, rfl⟩ (by decide +kernel) rfl ⟨Nat.le_of_ble_eq_true rfl, Nat.le_of_ble_eq_true rfl⟩ hE (en_S hGA hs0 hS) hK (wX_s16 hP) (ci := 0) (q0 := 0) rfl rfl hl.1 rfl (Nat.le_of_ble_eq_true rfl) dX3_trialGoesAs_18 ⟨Nat.zero_le _, Nat.zero_le _⟩ hS (fun q h => aR_X (by decide) q (aO_sh q h)) (fun H1 locs hz hfr hB hS => ?_)
          obtain ⟨w9, r9, nb9, hB⟩ := hB
          have hP := wX_j16 hI hP hfr hB
          obtain ⟨z, hP⟩ : ∃ z, va_P D vwCl (wX ci ad X (eveC (evCn T (i - 1))) tq la tt z) H1 := ⟨_, hP⟩
          generalize H1 = H at hP hS ⊢
          have hD : va_D (aX ad) (wX ci ad X (eveC (evCn T (i - 1))) tq la tt z) := wX_D hI
          refine lv_pop hx hb dX3_trialGoesAs_21 rfl ?_
          refine lv_aload_n hx hb dX3_trialGoesAs_22 rfl (lv_at hl 2 rfl) ?_
          refine va_get (D := D) (ci := 1) (v := .ref (ad (40 + 2 * (k) + 1))) (C := RX1) (T := TX1) (N := 3) hx hb hts hinX1 hown hK (wX_sh (k := k) (by omega) hP) 0 rfl rfl 0 (by decide) (hts (.fieldLink RX3 237 "OneShort$Sheet" "numbers" "[I") (List.mem_of_getElem? (i := 3) rfl)) (fun _ h9 => h9) rfl dX3_trialGoesAs_23 ?_
          refine lv_iload_n hx hb dX3_trialGoesAs_26 rfl (lv_at hl 0 rfl) ?_
          refine nv_iald (v := X.2.2.2.2.2.2.2.2 (k) (i)) hx hb hK (wX_sh (k := k) (by omega) hP) 1 0 rfl rfl (by omega) (by decide) rfl dX3_trialGoesAs_27 ?_
          refine lv_istore (lv' := [(4, .int (X.2.2.2.2.2.2.2.2 (k) (i))), (3, .int (nI i)), (0, .ref (ad 0)), (1, .ref (ad (40 + 2 * (k)))), (2, .int (nI q))]) hx hb dX3_trialGoesAs_28 hl (by decide) rfl (fun ls hl => ?_)
          refine lv_iload hx hb dX3_trialGoesAs_30 (lv_at hl 0 rfl) ?_
          refine lv_iconst (v := -1) hx hb dX3_trialGoesAs_32 (by decide) ?_
          refine lv_icmp_eq (tgt := 52) hx hb dX3_trialGoesAs_33 (by decide) (fun c6 => ?_) (fun c6 => ?_)
          · refine nv_iinc1 (lv' := [(3, .int (nI (i + 1))), (4, .int (X.2.2.2.2.2.2.2.2 (k) (i))), (0, .ref (ad 0)), (1, .ref (ad (40 + 2 * (k)))), (2, .int (nI q))]) hx hb dX3_trialGoesAs_52 hl (k := 1) rfl (by decide) rfl (fun ls hl => ?_)
            refine lv_goto (tgt := 2) hx hb dX3_trialGoesAs_55 (by decide) ?_
            exact ih2 (i + 1) (by omega) (by omega) (all_f h_u (by first | exact badA_1 c6 | exact badA_2 c6)) (nI (i + 1)) rfl (z) _ _ (va_P.re (by rw [Nat.add_sub_cancel]; first | rw [evC_pred c2] | rw [c2]) hP) hS ls (lv_sub hl [0, 2, 3, 4] rfl)
          · refine lv_iload hx hb dX3_trialGoesAs_36 (lv_at hl 0 rfl) ?_
            refine lv_aload_n hx hb dX3_trialGoesAs_38 rfl (lv_at hl 2 rfl) ?_
            refine va_get (D := D) (ci := 3) (v := .ref (ad 16)) (C := RX3) (T := TX3) (N := 9) hx hb hts hinX3 hown hK hP 0 rfl rfl 1 (by decide) (hts (.fieldLink RX3 16 "OneShort" "trial" "LOneShort$Orchestra;") (List.mem_of_getElem? (i := 2) rfl)) (fun _ h9 => h9) rfl dX3_trialGoesAs_39 ?_
            refine va_get (D := D) (ci := 0) (v := .ref (ad 22)) (C := RX0) (T := TX0) (N := 13) hx hb hts hinX0 hown hK hP 16 rfl rfl 5 (by decide) (hts (.fieldLink RX3 96 "OneShort$Orchestra" "nerve" "[I") (List.mem_of_getElem? (i := 4) rfl)) (fun _ h9 => h9) rfl dX3_trialGoesAs_42 ?_
            refine lv_iload_n hx hb dX3_trialGoesAs_45 rfl (lv_at hl 4 rfl) ?_
            refine nv_iald (v := nI ((eveC (evCn T (i - 1))) 5 (q))) hx hb hK hP 22 0 rfl rfl (by omega) (by decide) rfl dX3_trialGoesAs_46 ?_
            refine nv_cv (show nI ((eveC (evCn T (i - 1))) 5 (q)) = nI (evCn T i 5 q) from (nv_e (by first | rw [evC_pred c2] | rw [c2]))) ?_
            refine lv_icmp_eq (tgt := 52) hx hb dX3_trialGoesAs_47 (by decide) (fun c7 => ?_) (fun c7 => ?_)
            · refine nv_iinc1 (lv' := [(3, .int (nI (i + 1))), (4, .int (X.2.2.2.2.2.2.2.2 (k) (i))), (0, .ref (ad 0)), (1, .ref (ad (40 + 2 * (k)))), (2, .int (nI q))]) hx hb dX3_trialGoesAs_52 hl (k := 1) rfl (by decide) rfl (fun ls hl => ?_)
              refine lv_goto (tgt := 2) hx hb dX3_trialGoesAs_55 (by decide) ?_
              exact ih2 (i + 1) (by omega) (by omega) (all_f h_u (by first | exact badA_1 c7 | exact badA_2 c7)) (nI (i + 1)) rfl (z) _ _ (va_P.re (by rw [Nat.add_sub_cancel]; first | rw [evC_pred c2] | rw [c2]) hP) hS ls (lv_sub hl [0, 2, 3, 4] rfl)
            · refine lv_iconst (v := nI (0)) hx hb dX3_trialGoesAs_50 (by decide) ?_
              refine nv_cv (show nI (0) = bI (goA T (X.2.2.2.2.2.2.2.1 k) (X.2.2.2.2.2.2.2.2 k) q) from nv_f (goA_f (by omega) (badA_t c6 c7))) ?_
              exact mu_zret hx hb hr hlocks hS (⟨_, _, _, _, _, hP⟩) dX3_trialGoesAs_51
  exact L2 _ (0) (Nat.lt_succ_self _) (by omega) (fun _ h => absurd h (Nat.not_lt_zero _)) (nI (0)) rfl (z) _ _ (va_P.re (by rfl) hP) hS ls (lv_sub hl [0, 1, 2, 3] rfl)
