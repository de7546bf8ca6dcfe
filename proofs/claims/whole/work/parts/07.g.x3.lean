/-! walks laid by program -/
set_option maxHeartbeats 4000000 in
set_option maxRecDepth 100000 in
/-- X3_nearest -/
theorem c_X3_nearest (l : Launch) (D : va_G) (ci : Nat → ClassId) (G : Nat → Prop) (ka : Nat) (ad : Nat → Nat) (X : AS) (T : OS) (tq la tt : Nat → Int32) (z : Nat → Nat → Int32) (hI : injA ad 48) (hG : ∀ k, k < 48 → G (ad k)) (x y : Int32) (hWX : WFX X) : Met l yX3_nearest wsX3_nearest ({ frames := 4, cells := 0, slots := 0, locals := 89 } : Room) (va_Pc [.ref (ad 0), .int (x), .int (y)] (ro_B D (tyL ci) (wX ci ad X T tq la tt z) (en D (ci 0) G ka))) (mu_Q (aX ad) (some (.int ((p_nearest X x y).1))) (fun H => ∃ T tq la tt z, va_P D vwCl (wX ci ad ((p_nearest X x y).2) T tq la tt z) H)) 0 0 (aX ad) := by
  refine mu_Met (cc := cX3_nearest) (maxL := 7) (ret := (some .int)) [(0, .ref (ad 0)), (1, .int (x)), (2, .int (y))] (wX_D hI) (by decide) rfl (Nat.le_of_ble_eq_true rfl) rfl ?_
  intro p e s m below meth c H locs hx hb hml hr hlocks hts hown hP hK hs0 hD hS ls hl
  have hown : s.vm.findClass RX3 = some m.cls := hown
  have hinX0 : ∀ w ∈ wsX00, w ∈ wsX3_nearest := by decide +kernel
  have hinX3 : ∀ w ∈ wsX30, w ∈ wsX3_nearest := by decide +kernel
  have hE := hE_en D (ci 0) G ka
  have hWF := hWX.w
  have f_n := hWF.n
  have f_e := hWX.e
  have f_tl := hWX.t
  have hGA := aX_G hG
  have hWK := hWX.k
  refine lv_aload_n hx hb dX3_nearest_0 rfl (lv_at hl 0 rfl) ?_
  refine lv_iload_n hx hb dX3_nearest_1 rfl (lv_at hl 1 rfl) ?_
  refine lv_iload_n hx hb dX3_nearest_2 rfl (lv_at hl 2 rfl) ?_
  refine ro_V (n := 2) (As := [.int (x), .int (y)]) (rest := []) ⟨hx, hb, hml, hown, hts⟩ (c_X3_isPair l D ci G ka ad X T tq la tt z (x) (y) hWX) gX3_nearest_X3_isPair rfl ⟨rfl, rfl⟩ (by decide +kernel) rfl ⟨Nat.le_of_ble_eq_true rfl, Nat.le_of_ble_eq_true rfl⟩ hE (en_S hGA hs0 hS) hK hP (ci := 3) (q0 := 0) rfl rfl hl.1 rfl (Nat.le_of_ble_eq_true rfl) dX3_nearest_3 ⟨Nat.zero_le _, Nat.zero_le _⟩ ?_
  refine nv_ifne_b (tgt := 15) hx hb dX3_nearest_6 (by decide) (fun c1 => ?_) (fun c1 => ?_)
  · obtain ⟨xn, yn, h_xn, h_yn, h_ne, rfl, rfl⟩ := pair_ex c1 f_n
    have t_xn : tn (nI xn) = xn := tn_nI (by omega)
    have t_yn : tn (nI yn) = yn := tn_nI (by omega)
    refine lv_aload_n hx hb dX3_nearest_15 rfl (lv_at hl 0 rfl) ?_
    refine va_get (D := D) (ci := 3) (v := .ref (ad 16)) (C := RX3) (T := TX3) (N := 9) hx hb hts hinX3 hown hK hP 0 rfl rfl 1 (by decide) (hts (.fieldLink RX3 16 "OneShort" "trial" "LOneShort$Orchestra;") (List.mem_of_getElem? (i := 1) rfl)) (fun _ h9 => h9) rfl dX3_nearest_16 ?_
    refine lv_aload_n hx hb dX3_nearest_19 rfl (lv_at hl 0 rfl) ?_
    refine va_get (D := D) (ci := 3) (v := .ref (ad 5)) (C := RX3) (T := TX3) (N := 9) hx hb hts hinX3 hown hK hP 0 rfl rfl 0 (by decide) (hts (.fieldLink RX3 10 "OneShort" "orchestra" "LOneShort$Orchestra;") (List.mem_of_getElem? (i := 2) rfl)) (fun _ h9 => h9) rfl dX3_nearest_20 ?_
    refine mu_V (n := 1) (As := [.ref (ad 5)]) (rest := []) ⟨hx, hb, hml, hown, hts⟩ (c_X0_become l D ci G ka (sh ad 16) T (z 3) (z 4) (z 5) (sh ad 5) X.1 (z 0) (z 1) (z 2) (wX_D2 hI (by decide) (by decide) (by decide) _ _ _ _ _ _ _ _) (aO2_G (G_sh hG (by decide)) (G_sh hG (by decide)))  ) gX3_nearest_X0_become rfl ⟨rfl, rfl⟩ (by decide +kernel) rfl ⟨Nat.le_of_ble_eq_true rfl, Nat.le_of_ble_eq_true rfl⟩ hE (en_S hGA hs0 hS) hK (va_P.app (wX_s16 hP) (wX_s5 hP)) (ci := 0) (q0 := 0) rfl rfl hl.1 rfl (Nat.le_of_ble_eq_true rfl) dX3_nearest_23 ⟨Nat.zero_le _, Nat.zero_le _⟩ hS (fun q h => h.elim (fun h => aR_X (by decide) q (aO_sh q h)) (fun h => aR_X (by decide) q (aO_sh q h))) (fun H1 locs hz hfr hB hS => ?_)
    have hP := wX_j16_5 hI hP hfr hB
    generalize H1 = H at hP hS ⊢
    have hD : va_D (aX ad) (wX ci ad X X.1 tq la tt z) := wX_D hI
    refine lv_iconst (v := nI (0)) hx hb dX3_nearest_26 (by decide) ?_
    refine lv_istore_n (lv' := [(3, .int (nI 0)), (0, .ref (ad 0)), (1, .int (nI xn)), (2, .int (nI yn))]) hx hb dX3_nearest_27 rfl hl (by decide) rfl (fun ls hl => ?_)
    refine lv_iconst (v := -1) hx hb dX3_nearest_28 (by decide) ?_
    refine lv_istore (lv' := [(4, .int (-1)), (3, .int (nI 0)), (0, .ref (ad 0)), (1, .int (nI xn)), (2, .int (nI yn))]) hx hb dX3_nearest_29 hl (by decide) rfl (fun ls hl => ?_)
    refine lv_iconst (v := nI (0)) hx hb dX3_nearest_31 (by decide) ?_
    refine lv_istore (lv' := [(5, .int (nI 0)), (4, .int (-1)), (3, .int (nI 0)), (0, .ref (ad 0)), (1, .int (nI xn)), (2, .int (nI yn))]) hx hb dX3_nearest_32 hl (by decide) rfl (fun ls hl => ?_)
    have L34 : ∀ (k34 : Nat) (i : Nat), 16 - i < k34 → (i ≤ 16) → ∀ (x3 x4 x5 : Int32), x3 = nI ((argTo (nrst X.1 xn yn) (i)).1) → x4 = nI ((argTo (nrst X.1 xn yn) (i)).2) - nI (1) → x5 = nI (i) → ∀ (H : Heap) (locs : List Loc), va_P D vwCl (wX ci ad X (nT X.1 xn i) tq la tt z) H → va_S (aX ad) s.heap H locs → ∀ ls : Array Slot, lv_has ls 7 [(3, .int (x3)), (4, .int (x4)), (5, .int (x5)), (0, .ref (ad 0)), (1, .int (nI xn)), (2, .int (nI yn))] → W p l e (headSpec wsX3_nearest ({ frames := 4, cells := 0, slots := 0, locals := 89 } : Room)).room s m ([.ref (ad 0), .int (nI xn), .int (nI yn)] : List Value).toArray below meth c H locs 0 0 (MQ below (mu_Q (aX ad) (some (.int ((p_nearest X (nI xn) (nI yn)).1))) (fun H => ∃ T tq la tt z, va_P D vwCl (wX ci ad ((p_nearest X (nI xn) (nI yn)).2) T tq la tt z) H)) ([.ref (ad 0), .int (nI xn), .int (nI yn)] : List Value).toArray s 0 0 (aX ad)) (F0 m 34 ls []) := by
      intro k34
      induction k34 with
      | zero => intro i h0; exact absurd h0 (Nat.not_lt_zero _)
      | succ k34 ih34 =>
        intro i hk34 h_i x3 x4 x5 e3 e4 e5  H locs hP hS ls hl
        subst e3
        subst e4
        subst e5
        have hD : va_D (aX ad) (wX ci ad X (nT X.1 xn i) tq la tt z) := wX_D hI
        have f_a : (argTo (nrst X.1 xn yn) i).2 ≤ 13 := arg_le i (fun v _ => Nat.lt_succ_of_le (pop_le _))
        refine lv_iload hx hb dX3_nearest_34 (lv_at hl 2 rfl) ?_
        refine lv_bipush (v := nI (16)) hx hb dX3_nearest_36 (by decide) ?_
        refine nv_icmp_ge (tgt := 86) hx hb (by omega) (by omega) dX3_nearest_38 (by decide) (fun c2 => ?_) (fun c2 => ?_)
        · refine lv_iload_n hx hb dX3_nearest_86 rfl (lv_at hl 0 rfl) ?_
          have hp : p_nearest X (nI xn) (nI yn) = (nI ((argTo (nrst X.1 xn yn) (i)).1), X) := by first | (simp [p_nearest, bk, fl_eq, c1, c2, t_xn, t_yn]; done) | (rw [show i = 16 by omega]; simp [p_nearest, bk, fl_eq, c1, c2, t_xn, t_yn]; done)
          refine nv_cv (show nI ((argTo (nrst X.1 xn yn) (i)).1) = (p_nearest X (nI xn) (nI yn)).1 from by rw [hp]) ?_
          exact mu_iret hx hb hr hlocks hS ((by rw [hp]; exact ⟨_, _, _, _, _, hP⟩)) dX3_nearest_87
        · refine lv_aload_n hx hb dX3_nearest_41 rfl (lv_at hl 3 rfl) ?_
          refine va_get (D := D) (ci := 3) (v := .ref (ad 16)) (C := RX3) (T := TX3) (N := 9) hx hb hts hinX3 hown hK hP 0 rfl rfl 1 (by decide) (hts (.fieldLink RX3 16 "OneShort" "trial" "LOneShort$Orchestra;") (List.mem_of_getElem? (i := 1) rfl)) (fun _ h9 => h9) rfl dX3_nearest_42 ?_
          refine va_get (D := D) (ci := 0) (v := .ref (ad 19)) (C := RX0) (T := TX0) (N := 13) hx hb hts hinX0 hown hK hP 16 rfl rfl 2 (by decide) (hts (.fieldLink RX3 87 "OneShort$Orchestra" "seat" "[I") (List.mem_of_getElem? (i := 3) rfl)) (fun _ h9 => h9) rfl dX3_nearest_45 ?_
          refine lv_iload_n hx hb dX3_nearest_48 rfl (lv_at hl 4 rfl) ?_
          refine lv_iload hx hb dX3_nearest_49 (lv_at hl 2 rfl) ?_
          refine nv_iast hx hb hK hP hD hS 19 0 rfl rfl (by omega) (by decide) dX3_nearest_51 (fun H locs hP hD hS => ?_)
          have hP : va_P D vwCl (wX ci ad X (st (nT X.1 xn i) 2 (xn) (i)) tq la tt z) H := va_P.re (wX_t2 ci ad X (nT X.1 xn i) tq la tt z (xn) (i)) hP
          have hD : va_D (aX ad) (wX ci ad X (st (nT X.1 xn i) 2 (xn) (i)) tq la tt z) := wX_D hI
          refine lv_aload_n hx hb dX3_nearest_52 rfl (lv_at hl 3 rfl) ?_
          refine va_get (D := D) (ci := 3) (v := .ref (ad 16)) (C := RX3) (T := TX3) (N := 9) hx hb hts hinX3 hown hK hP 0 rfl rfl 1 (by decide) (hts (.fieldLink RX3 16 "OneShort" "trial" "LOneShort$Orchestra;") (List.mem_of_getElem? (i := 1) rfl)) (fun _ h9 => h9) rfl dX3_nearest_53 ?_
          refine lv_iload_n hx hb dX3_nearest_56 rfl (lv_at hl 4 rfl) ?_
          refine lv_iload_n hx hb dX3_nearest_57 rfl (lv_at hl 5 rfl) ?_
          refine ro_V (n := 2) (As := [.int (nI xn), .int (nI yn)]) (rest := []) ⟨hx, hb, hml, hown, hts⟩ (c_X0_barsHearing l D ci G ka (sh ad 16) (st (nT X.1 xn i) 2 (xn) (i)) (z 3) (z 4) (z 5) (xn) (yn) (by rw [nT_st]; exact WF_st2 hWF _ (by omega)) (by omega) (by omega)) gX3_nearest_X0_barsHearing rfl ⟨rfl, rfl⟩ (by decide +kernel) rfl ⟨Nat.le_of_ble_eq_true rfl, Nat.le_of_ble_eq_true rfl⟩ hE (en_S hGA hs0 hS) hK (wX_s16 hP) (ci := 0) (q0 := 0) rfl rfl hl.1 rfl (Nat.le_of_ble_eq_true rfl) dX3_nearest_58 ⟨Nat.zero_le _, Nat.zero_le _⟩ ?_
          have f3 := bHear_lt (st (nT X.1 xn i) 2 (xn) (i)) (xn) (yn)
          have f4 := bHear_lt (st X.1 2 xn i) xn yn
          refine nv_cv (show nI (bHear (st (nT X.1 xn i) 2 (xn) (i)) xn yn) = nI (bHear (st X.1 2 xn i) xn yn) from by rw [nT_st]) ?_
          refine ro_S (n := 1) (As := [.int (nI (bHear (st X.1 2 xn i) xn yn))]) (rest := []) ⟨hx, hb, hml, hown, hts⟩ (c_J6_bitCount_0f7a4 l D ci (wX ci ad X (st (nT X.1 xn i) 2 (xn) (i)) tq la tt z) (en D (ci 0) G ka) (bHear (st X.1 2 xn i) xn yn) (by omega)) gX3_nearest_J6_bitCount_0f7a4 rfl ⟨rfl, rfl⟩ (by decide +kernel) rfl ⟨Nat.le_of_ble_eq_true rfl, Nat.le_of_ble_eq_true rfl⟩ hE (en_S hGA hs0 hS) hK hP hl.1 rfl (Nat.le_of_ble_eq_true rfl) dX3_nearest_61 ⟨Nat.zero_le _, Nat.zero_le _⟩ ?_
          have f5 := pop_le ((bHear (st X.1 2 xn i) xn yn))
          refine lv_istore (lv' := [(6, .int (nI (pop (bHear (st X.1 2 xn i) xn yn)))), (3, .int (nI ((argTo (nrst X.1 xn yn) (i)).1))), (4, .int (nI ((argTo (nrst X.1 xn yn) (i)).2) - nI (1))), (5, .int (nI i)), (0, .ref (ad 0)), (1, .int (nI xn)), (2, .int (nI yn))]) hx hb dX3_nearest_64 hl (by decide) rfl (fun ls hl => ?_)
          refine lv_iload hx hb dX3_nearest_66 (lv_at hl 0 rfl) ?_
          refine lv_iload hx hb dX3_nearest_68 (lv_at hl 2 rfl) ?_
          refine nv_icmp_le_D (tgt := 80) hx hb (by omega) (by omega) dX3_nearest_70 (by decide) (fun c6 => ?_) (fun c6 => ?_)
          · refine nv_iinc1 (lv' := [(5, .int (nI (i + 1))), (6, .int (nI (pop (bHear (st X.1 2 xn i) xn yn)))), (3, .int (nI ((argTo (nrst X.1 xn yn) (i)).1))), (4, .int (nI ((argTo (nrst X.1 xn yn) (i)).2) - nI (1))), (0, .ref (ad 0)), (1, .int (nI xn)), (2, .int (nI yn))]) hx hb dX3_nearest_80 hl (k := 3) rfl (by decide) rfl (fun ls hl => ?_)
            refine lv_goto (tgt := 34) hx hb dX3_nearest_83 (by decide) ?_
            exact ih34 (i + 1) (by omega) (by omega) (nI ((argTo (nrst X.1 xn yn) (i)).1)) (nI ((argTo (nrst X.1 xn yn) (i)).2) - nI (1)) (nI (i + 1)) (nv_e (by first | rw [arg_t c6] | rw [arg_f c6])) (by first | (rw [arg_t c6]; exact (nI_pred _).symm) | rw [arg_f c6]) rfl _ _ (va_P.re (by rw [nT_st]; rfl) hP) hS ls (lv_sub hl [2, 3, 0, 4, 5, 6] rfl)
          · refine lv_iload hx hb dX3_nearest_73 (lv_at hl 0 rfl) ?_
            refine lv_istore (lv' := [(4, .int (nI (pop (bHear (st X.1 2 xn i) xn yn)))), (6, .int (nI (pop (bHear (st X.1 2 xn i) xn yn)))), (3, .int (nI ((argTo (nrst X.1 xn yn) (i)).1))), (5, .int (nI i)), (0, .ref (ad 0)), (1, .int (nI xn)), (2, .int (nI yn))]) hx hb dX3_nearest_75 hl (by decide) rfl (fun ls hl => ?_)
            refine lv_iload hx hb dX3_nearest_77 (lv_at hl 3 rfl) ?_
            refine lv_istore_n (lv' := [(3, .int (nI i)), (4, .int (nI (pop (bHear (st X.1 2 xn i) xn yn)))), (6, .int (nI (pop (bHear (st X.1 2 xn i) xn yn)))), (5, .int (nI i)), (0, .ref (ad 0)), (1, .int (nI xn)), (2, .int (nI yn))]) hx hb dX3_nearest_79 rfl hl (by decide) rfl (fun ls hl => ?_)
            refine nv_iinc1 (lv' := [(5, .int (nI (i + 1))), (3, .int (nI i)), (4, .int (nI (pop (bHear (st X.1 2 xn i) xn yn)))), (6, .int (nI (pop (bHear (st X.1 2 xn i) xn yn)))), (0, .ref (ad 0)), (1, .int (nI xn)), (2, .int (nI yn))]) hx hb dX3_nearest_80 hl (k := 3) rfl (by decide) rfl (fun ls hl => ?_)
            refine lv_goto (tgt := 34) hx hb dX3_nearest_83 (by decide) ?_
            exact ih34 (i + 1) (by omega) (by omega) (nI (i)) (nI (pop (bHear (st X.1 2 xn i) xn yn))) (nI (i + 1)) (nv_e (by first | rw [arg_t c6] | rw [arg_f c6])) (by first | (rw [arg_t c6]; exact (nI_pred _).symm) | rw [arg_f c6]) rfl _ _ (va_P.re (by rw [nT_st]; rfl) hP) hS ls (lv_sub hl [1, 2, 0, 4, 5, 6] rfl)
    exact L34 _ (0) (Nat.lt_succ_self _) (by omega) (nI (0)) (-1) (nI (0)) rfl (by rfl) rfl _ _ (va_P.re (by rfl) hP) hS ls (lv_sub hl [2, 1, 0, 3, 4, 5] rfl)
  · refine lv_aload_n hx hb dX3_nearest_9 rfl (lv_at hl 0 rfl) ?_
    refine lv_iconst (v := nI (0)) hx hb dX3_nearest_10 (by decide) ?_
    refine mu_V (n := 1) (As := [.int (nI 0)]) (rest := []) ⟨hx, hb, hml, hown, hts⟩ (c_X3_finding l D ci G ka ad X T tq la tt z hI hG (0) hWX (by omega)) gX3_nearest_X3_finding rfl ⟨rfl, rfl⟩ (by decide +kernel) rfl ⟨Nat.le_of_ble_eq_true rfl, Nat.le_of_ble_eq_true rfl⟩ hE (en_S hGA hs0 hS) hK hP (ci := 3) (q0 := 0) rfl rfl hl.1 rfl (Nat.le_of_ble_eq_true rfl) dX3_nearest_11 ⟨Nat.zero_le _, Nat.zero_le _⟩ hS (fun _ h => h) (fun H1 locs hz hfr hB hS => ?_)
    obtain ⟨T, tq, la, tt, z, hP⟩ := hB
    generalize H1 = H at hP hS ⊢
    have hD : va_D (aX ad) (wX ci ad (toF X (inc X.2.2.2.1 0)) T tq la tt z) := wX_D hI
    have hp : p_nearest X x y = (fnd 0, toF X (inc X.2.2.2.1 0)) := by first | (simp [p_nearest, bk, fl_eq, c1]; done) | (rw [show i = 16 by omega]; simp [p_nearest, bk, fl_eq, c1]; done)
    refine nv_cv (show fnd 0 = (p_nearest X x y).1 from by rw [hp]) ?_
    exact mu_iret hx hb hr hlocks hS ((by rw [hp]; exact ⟨_, _, _, _, _, hP⟩)) dX3_nearest_14

set_option maxHeartbeats 4000000 in
set_option maxRecDepth 100000 in
/-- X3_halves -/
theorem c_X3_halves (l : Launch) (D : va_G) (ci : Nat → ClassId) (G : Nat → Prop) (ka : Nat) (ad : Nat → Nat) (X : AS) (T : OS) (tq la tt : Nat → Int32) (z : Nat → Nat → Int32) (hI : injA ad 48) (hG : ∀ k, k < 48 → G (ad k))  (hWX : WFX X) : Met l yX3_halves wsX3_halves ({ frames := 5, cells := 0, slots := 0, locals := 112 } : Room) (va_Pc [.ref (ad 0)] (ro_B D (tyL ci) (wX ci ad X T tq la tt z) (en D (ci 0) G ka))) (mu_Q (aX ad) (some (.int ((p_halves X).1))) (fun H => ∃ T tq la tt z, va_P D vwCl (wX ci ad ((p_halves X).2) T tq la tt z) H)) 0 0 (aX ad) := by
  refine mu_Met (cc := cX3_halves) (maxL := 6) (ret := (some .int)) [(0, .ref (ad 0))] (wX_D hI) (by decide) rfl (Nat.le_of_ble_eq_true rfl) rfl ?_
  intro p e s m below meth c H locs hx hb hml hr hlocks hts hown hP hK hs0 hD hS ls hl
  have hown : s.vm.findClass RX3 = some m.cls := hown
  have hinX0 : ∀ w ∈ wsX00, w ∈ wsX3_halves := by decide +kernel
  have hinX3 : ∀ w ∈ wsX30, w ∈ wsX3_halves := by decide +kernel
  have hE := hE_en D (ci 0) G ka
  have hWF := hWX.w
  have f_n := hWF.n
  have f_e := hWX.e
  have f_tl := hWX.t
  have hGA := aX_G hG
  have hWK := hWX.k
  refine lv_iconst (v := nI (0)) hx hb dX3_halves_0 (by decide) ?_
  refine lv_istore_n (lv' := [(1, .int (nI 0)), (0, .ref (ad 0))]) hx hb dX3_halves_1 rfl hl (by decide) rfl (fun ls hl => ?_)
  refine lv_iconst (v := -1) hx hb dX3_halves_2 (by decide) ?_
  refine lv_istore_n (lv' := [(2, .int (-1)), (1, .int (nI 0)), (0, .ref (ad 0))]) hx hb dX3_halves_3 rfl hl (by decide) rfl (fun ls hl => ?_)
  refine lv_iconst (v := nI (0)) hx hb dX3_halves_4 (by decide) ?_
  refine lv_istore_n (lv' := [(3, .int (nI 0)), (2, .int (-1)), (1, .int (nI 0)), (0, .ref (ad 0))]) hx hb dX3_halves_5 rfl hl (by decide) rfl (fun ls hl => ?_)
  have L6 : ∀ (k6 : Nat) (i : Nat), 12 - i < k6 → (i ≤ 12) → ∀ (x1 x2 x3 : Int32), x1 = nI ((argTo (hlv X.1) (i)).1) → x2 = nI ((argTo (hlv X.1) (i)).2) - nI (1) → x3 = nI (i) → ∀ ls : Array Slot, lv_has ls 6 [(1, .int (x1)), (2, .int (x2)), (3, .int (x3)), (0, .ref (ad 0))] → W p l e (headSpec wsX3_halves ({ frames := 5, cells := 0, slots := 0, locals := 112 } : Room)).room s m ([.ref (ad 0)] : List Value).toArray below meth c H locs 0 0 (MQ below (mu_Q (aX ad) (some (.int ((p_halves X).1))) (fun H => ∃ T tq la tt z, va_P D vwCl (wX ci ad ((p_halves X).2) T tq la tt z) H)) ([.ref (ad 0)] : List Value).toArray s 0 0 (aX ad)) (F0 m 6 ls []) := by
    intro k6
    induction k6 with
    | zero => intro i h0; exact absurd h0 (Nat.not_lt_zero _)
    | succ k6 ih6 =>
      intro i hk6 h_i x1 x2 x3 e1 e2 e3 ls hl
      subst e1
      subst e2
      subst e3
      have f_a : (argTo (hlv X.1) i).2 ≤ 9 := arg_le i (fun v _ => hlv_lt hWF v)
      have f_p := pop_n (playIn_lt2 X.1 i)
      refine lv_iload_n hx hb dX3_halves_6 rfl (lv_at hl 2 rfl) ?_
      refine lv_bipush (v := nI (12)) hx hb dX3_halves_7 (by decide) ?_
      refine nv_icmp_ge (tgt := 59) hx hb (by omega) (by omega) dX3_halves_9 (by decide) (fun c1 => ?_) (fun c1 => ?_)
      · refine lv_iload_n hx hb dX3_halves_59 rfl (lv_at hl 0 rfl) ?_
        have hp : p_halves X = (nI ((argTo (hlv X.1) (i)).1), X) := by first | (rw [show i = 12 by omega]; rfl; done)
        refine nv_cv (show nI ((argTo (hlv X.1) (i)).1) = (p_halves X).1 from by rw [hp]) ?_
        exact mu_iret hx hb hr hlocks hS ((by rw [hp]; exact ⟨_, _, _, _, _, hP⟩)) dX3_halves_60
      · refine lv_aload_n hx hb dX3_halves_12 rfl (lv_at hl 3 rfl) ?_
        refine va_get (D := D) (ci := 3) (v := .ref (ad 5)) (C := RX3) (T := TX3) (N := 9) hx hb hts hinX3 hown hK hP 0 rfl rfl 0 (by decide) (hts (.fieldLink RX3 10 "OneShort" "orchestra" "LOneShort$Orchestra;") (List.mem_of_getElem? (i := 1) rfl)) (fun _ h9 => h9) rfl dX3_halves_13 ?_
        refine lv_iload_n hx hb dX3_halves_16 rfl (lv_at hl 2 rfl) ?_
        refine ro_V (n := 1) (As := [.int (nI i)]) (rest := []) ⟨hx, hb, hml, hown, hts⟩ (c_X0_playersIn l D ci G ka (sh ad 5) X.1 (z 0) (z 1) (z 2) (i) hWF (by omega)) gX3_halves_X0_playersIn rfl ⟨rfl, rfl⟩ (by decide +kernel) rfl ⟨Nat.le_of_ble_eq_true rfl, Nat.le_of_ble_eq_true rfl⟩ hE (en_S hGA hs0 hS) hK (wX_s5 hP) (ci := 0) (q0 := 0) rfl rfl hl.1 rfl (Nat.le_of_ble_eq_true rfl) dX3_halves_17 ⟨Nat.zero_le _, Nat.zero_le _⟩ ?_
        have f2 := playIn_lt hWF (i)
        refine ro_S (n := 1) (As := [.int (nI (playIn X.1 i))]) (rest := []) ⟨hx, hb, hml, hown, hts⟩ (c_J6_bitCount_0f7a4 l D ci (wX ci ad X T tq la tt z) (en D (ci 0) G ka) (playIn X.1 i) (by omega)) gX3_halves_J6_bitCount_0f7a4 rfl ⟨rfl, rfl⟩ (by decide +kernel) rfl ⟨Nat.le_of_ble_eq_true rfl, Nat.le_of_ble_eq_true rfl⟩ hE (en_S hGA hs0 hS) hK hP hl.1 rfl (Nat.le_of_ble_eq_true rfl) dX3_halves_20 ⟨Nat.zero_le _, Nat.zero_le _⟩ ?_
        have f3 := pop_le ((playIn X.1 i))
        refine lv_istore (lv' := [(4, .int (nI (pop (playIn X.1 i)))), (1, .int (nI ((argTo (hlv X.1) (i)).1))), (2, .int (nI ((argTo (hlv X.1) (i)).2) - nI (1))), (3, .int (nI i)), (0, .ref (ad 0))]) hx hb dX3_halves_23 hl (by decide) rfl (fun ls hl => ?_)
        refine lv_iload hx hb dX3_halves_25 (lv_at hl 0 rfl) ?_
        refine lv_aload_n hx hb dX3_halves_27 rfl (lv_at hl 4 rfl) ?_
        refine va_get (D := D) (ci := 3) (v := .ref (ad 5)) (C := RX3) (T := TX3) (N := 9) hx hb hts hinX3 hown hK hP 0 rfl rfl 0 (by decide) (hts (.fieldLink RX3 10 "OneShort" "orchestra" "LOneShort$Orchestra;") (List.mem_of_getElem? (i := 1) rfl)) (fun _ h9 => h9) rfl dX3_halves_28 ?_
        refine va_get (D := D) (ci := 0) (v := .int (nI (X.1 7 0))) (C := RX0) (T := TX0) (N := 13) hx hb hts hinX0 hown hK hP 5 rfl rfl 7 (by decide) (hts (.fieldLink RX3 73 "OneShort$Orchestra" "size" "I") (List.mem_of_getElem? (i := 2) rfl)) (fun _ h9 => h9) rfl dX3_halves_31 ?_
        refine lv_iload hx hb dX3_halves_34 (lv_at hl 0 rfl) ?_
        refine nv_isub hx hb (by omega) dX3_halves_36 ?_
        refine va_mmin hx hb (hml.trans hl.1.symm) hown (hts (.methodLink RX3 175 Lib.Math.min.name) (List.mem_of_getElem? (i := 3) rfl)) (hts (.static Lib.Math.min.name) (List.mem_of_getElem? (i := 4) rfl)) (hts (.initialized "java/lang/Math") (List.mem_of_getElem? (i := 5) rfl)) (hts (.code Lib.Math.min.name Lib.Math.min.code 2 (some .int)) (List.mem_of_getElem? (i := 6) rfl)) (Nat.le_of_ble_eq_true rfl) (Nat.le_of_ble_eq_true rfl) (Nat.zero_le _) (Nat.zero_le _) dX3_halves_37 (nv_cv (nv_min (x := pop (playIn X.1 i)) (y := (X.1 7 0 - pop (playIn X.1 i))) (by omega) (by omega)) ?_)
        refine lv_istore (lv' := [(5, .int (nI (min (pop (playIn X.1 i)) ((X.1 7 0 - pop (playIn X.1 i)))))), (4, .int (nI (pop (playIn X.1 i)))), (1, .int (nI ((argTo (hlv X.1) (i)).1))), (2, .int (nI ((argTo (hlv X.1) (i)).2) - nI (1))), (3, .int (nI i)), (0, .ref (ad 0))]) hx hb dX3_halves_40 hl (by decide) rfl (fun ls hl => ?_)
        refine lv_iload hx hb dX3_halves_42 (lv_at hl 0 rfl) ?_
        refine lv_iload_n hx hb dX3_halves_44 rfl (lv_at hl 3 rfl) ?_
        refine nv_icmp_le_D (tgt := 53) hx hb (by omega) (by omega) dX3_halves_45 (by decide) (fun c4 => ?_) (fun c4 => ?_)
        · refine nv_iinc1 (lv' := [(3, .int (nI (i + 1))), (5, .int (nI (min (pop (playIn X.1 i)) ((X.1 7 0 - pop (playIn X.1 i)))))), (4, .int (nI (pop (playIn X.1 i)))), (1, .int (nI ((argTo (hlv X.1) (i)).1))), (2, .int (nI ((argTo (hlv X.1) (i)).2) - nI (1))), (0, .ref (ad 0))]) hx hb dX3_halves_53 hl (k := 4) rfl (by decide) rfl (fun ls hl => ?_)
          refine lv_goto (tgt := 6) hx hb dX3_halves_56 (by decide) ?_
          exact ih6 (i + 1) (by omega) (by omega) (nI ((argTo (hlv X.1) (i)).1)) (nI ((argTo (hlv X.1) (i)).2) - nI (1)) (nI (i + 1)) (nv_e (by first | rw [arg_t c4] | rw [arg_f c4])) (by first | (rw [arg_t c4]; exact (nI_pred _).symm) | rw [arg_f c4]) rfl ls (lv_sub hl [3, 4, 0, 5] rfl)
        · refine lv_iload hx hb dX3_halves_48 (lv_at hl 0 rfl) ?_
          refine lv_istore_n (lv' := [(2, .int (nI (min (pop (playIn X.1 i)) ((X.1 7 0 - pop (playIn X.1 i)))))), (5, .int (nI (min (pop (playIn X.1 i)) ((X.1 7 0 - pop (playIn X.1 i)))))), (4, .int (nI (pop (playIn X.1 i)))), (1, .int (nI ((argTo (hlv X.1) (i)).1))), (3, .int (nI i)), (0, .ref (ad 0))]) hx hb dX3_halves_50 rfl hl (by decide) rfl (fun ls hl => ?_)
          refine lv_iload_n hx hb dX3_halves_51 rfl (lv_at hl 4 rfl) ?_
          refine lv_istore_n (lv' := [(1, .int (nI i)), (2, .int (nI (min (pop (playIn X.1 i)) ((X.1 7 0 - pop (playIn X.1 i)))))), (5, .int (nI (min (pop (playIn X.1 i)) ((X.1 7 0 - pop (playIn X.1 i)))))), (4, .int (nI (pop (playIn X.1 i)))), (3, .int (nI i)), (0, .ref (ad 0))]) hx hb dX3_halves_52 rfl hl (by decide) rfl (fun ls hl => ?_)
          refine nv_iinc1 (lv' := [(3, .int (nI (i + 1))), (1, .int (nI i)), (2, .int (nI (min (pop (playIn X.1 i)) ((X.1 7 0 - pop (playIn X.1 i)))))), (5, .int (nI (min (pop (playIn X.1 i)) ((X.1 7 0 - pop (playIn X.1 i)))))), (4, .int (nI (pop (playIn X.1 i)))), (0, .ref (ad 0))]) hx hb dX3_halves_53 hl (k := 4) rfl (by decide) rfl (fun ls hl => ?_)
          refine lv_goto (tgt := 6) hx hb dX3_halves_56 (by decide) ?_
          exact ih6 (i + 1) (by omega) (by omega) (nI (i)) (nI (min (pop (playIn X.1 i)) ((X.1 7 0 - pop (playIn X.1 i))))) (nI (i + 1)) (nv_e (by first | rw [arg_t c4] | rw [arg_f c4])) (by first | (rw [arg_t c4]; exact (nI_pred _).symm) | rw [arg_f c4]) rfl ls (lv_sub hl [1, 2, 0, 5] rfl)
  exact L6 _ (0) (Nat.lt_succ_self _) (by omega) (nI (0)) (-1) (nI (0)) rfl (by rfl) rfl ls (lv_sub hl [2, 1, 0, 3] rfl)

set_option maxHeartbeats 4000000 in
set_option maxRecDepth 100000 in
/-- X3_count -/
theorem c_X3_count (l : Launch) (D : va_G) (ci : Nat → ClassId) (G : Nat → Prop) (ka : Nat) (ad : Nat → Nat) (X : AS) (T : OS) (tq la tt : Nat → Int32) (z : Nat → Nat → Int32) (hI : injA ad 48) (hG : ∀ k, k < 48 → G (ad k)) (w : Int32) (hWX : WFX X) : Met l yX3_count wsX3_count ({ frames := 1, cells := 0, slots := 0, locals := 22 } : Room) (va_Pc [.ref (ad 0), .int (w)] (ro_B D (tyL ci) (wX ci ad X T tq la tt z) (en D (ci 0) G ka))) (mu_Q (aX ad) (some (.int ((p_count X w).1))) (fun H => ∃ T tq la tt z, va_P D vwCl (wX ci ad ((p_count X w).2) T tq la tt z) H)) 0 0 (aX ad) := by
  refine mu_Met (cc := cX3_count) (maxL := 2) (ret := (some .int)) [(0, .ref (ad 0)), (1, .int (w))] (wX_D hI) (by decide) rfl (Nat.le_of_ble_eq_true rfl) rfl ?_
  intro p e s m below meth c H locs hx hb hml hr hlocks hts hown hP hK hs0 hD hS ls hl
  have hown : s.vm.findClass RX3 = some m.cls := hown
  have hinX0 : ∀ w ∈ wsX00, w ∈ wsX3_count := by decide +kernel
  have hinX2 : ∀ w ∈ wsX20, w ∈ wsX3_count := by decide +kernel
  have hinX3 : ∀ w ∈ wsX30, w ∈ wsX3_count := by decide +kernel
  have hE := hE_en D (ci 0) G ka
  have hWF := hWX.w
  have f_n := hWF.n
  have f_e := hWX.e
  have f_tl := hWX.t
  have hGA := aX_G hG
  have hWK := hWX.k
  refine lv_iload_n hx hb dX3_count_0 rfl (lv_at hl 1 rfl) ?_
  rcases Bool.eq_false_or_eq_true (inN w 8) with i1 | i1
  · obtain ⟨wn, h_wn, rfl⟩ := in_ex i1 (by decide)
    rcases (show wn = 0 ∨ wn = 1 ∨ wn = 2 ∨ wn = 3 ∨ wn = 4 ∨ wn = 5 ∨ wn = 6 ∨ wn = 7 by omega) with rfl | rfl | rfl | rfl | rfl | rfl | rfl | rfl
    · have t_w : tn (nI 0) = 0 := tn_nI (by decide)
      refine lv_tableIn (x := nI 0) (off := 47) (tgt := 48) hx hb dX3_count_1 (by decide) (by decide) (by decide) (by decide) ?_
      refine lv_aload_n hx hb dX3_count_48 rfl (lv_at hl 0 rfl) ?_
      refine va_get (D := D) (ci := 3) (v := .ref (ad 5)) (C := RX3) (T := TX3) (N := 9) hx hb hts hinX3 hown hK hP 0 rfl rfl 0 (by decide) (hts (.fieldLink RX3 10 "OneShort" "orchestra" "LOneShort$Orchestra;") (List.mem_of_getElem? (i := 1) rfl)) (fun _ h9 => h9) rfl dX3_count_49 ?_
      refine va_get (D := D) (ci := 0) (v := .int (nI (X.1 8 0))) (C := RX0) (T := TX0) (N := 13) hx hb hts hinX0 hown hK hP 5 rfl rfl 8 (by decide) (hts (.fieldLink RX3 132 "OneShort$Orchestra" "evening" "I") (List.mem_of_getElem? (i := 2) rfl)) (fun _ h9 => h9) rfl dX3_count_52 ?_
      have hp : p_count X (nI 0) = (nI (X.1 8 0), X) := by first | (simp [p_count, sNerve, sLoud, bk, fl_eq, inP, i1, t_w]; done) | (simp [p_count, sNerve, sLoud, bk, fl_eq, inP, i1, t_w] <;> omega)
      refine nv_cv (show nI (X.1 8 0) = (p_count X (nI 0)).1 from by rw [hp]) ?_
      exact mu_iret hx hb hr hlocks hS ((by rw [hp]; exact ⟨_, _, _, _, _, hP⟩)) dX3_count_55
    · have t_w : tn (nI 1) = 1 := tn_nI (by decide)
      refine lv_tableIn (x := nI 1) (off := 55) (tgt := 56) hx hb dX3_count_1 (by decide) (by decide) (by decide) (by decide) ?_
      refine lv_aload_n hx hb dX3_count_56 rfl (lv_at hl 0 rfl) ?_
      refine va_get (D := D) (ci := 3) (v := .ref (ad 5)) (C := RX3) (T := TX3) (N := 9) hx hb hts hinX3 hown hK hP 0 rfl rfl 0 (by decide) (hts (.fieldLink RX3 10 "OneShort" "orchestra" "LOneShort$Orchestra;") (List.mem_of_getElem? (i := 1) rfl)) (fun _ h9 => h9) rfl dX3_count_57 ?_
      refine va_get (D := D) (ci := 0) (v := .int (nI (X.1 7 0))) (C := RX0) (T := TX0) (N := 13) hx hb hts hinX0 hown hK hP 5 rfl rfl 7 (by decide) (hts (.fieldLink RX3 73 "OneShort$Orchestra" "size" "I") (List.mem_of_getElem? (i := 3) rfl)) (fun _ h9 => h9) rfl dX3_count_60 ?_
      have hp : p_count X (nI 1) = (nI (X.1 7 0), X) := by first | (simp [p_count, sNerve, sLoud, bk, fl_eq, inP, i1, t_w]; done) | (simp [p_count, sNerve, sLoud, bk, fl_eq, inP, i1, t_w] <;> omega)
      refine nv_cv (show nI (X.1 7 0) = (p_count X (nI 1)).1 from by rw [hp]) ?_
      exact mu_iret hx hb hr hlocks hS ((by rw [hp]; exact ⟨_, _, _, _, _, hP⟩)) dX3_count_63
    · have t_w : tn (nI 2) = 2 := tn_nI (by decide)
      refine lv_tableIn (x := nI 2) (off := 63) (tgt := 64) hx hb dX3_count_1 (by decide) (by decide) (by decide) (by decide) ?_
      refine lv_aload_n hx hb dX3_count_64 rfl (lv_at hl 0 rfl) ?_
      refine va_get (D := D) (ci := 3) (v := .ref (ad 5)) (C := RX3) (T := TX3) (N := 9) hx hb hts hinX3 hown hK hP 0 rfl rfl 0 (by decide) (hts (.fieldLink RX3 10 "OneShort" "orchestra" "LOneShort$Orchestra;") (List.mem_of_getElem? (i := 1) rfl)) (fun _ h9 => h9) rfl dX3_count_65 ?_
      refine ro_V (n := 0) (As := []) (rest := []) ⟨hx, hb, hml, hown, hts⟩ (c_X0_unnerved l D ci G ka (sh ad 5) X.1 (z 0) (z 1) (z 2)  hWF) gX3_count_X0_unnerved rfl ⟨rfl, rfl⟩ (by decide +kernel) rfl ⟨Nat.le_of_ble_eq_true rfl, Nat.le_of_ble_eq_true rfl⟩ hE (en_S hGA hs0 hS) hK (wX_s5 hP) (ci := 0) (q0 := 0) rfl rfl hl.1 rfl (Nat.le_of_ble_eq_true rfl) dX3_count_68 ⟨Nat.zero_le _, Nat.zero_le _⟩ ?_
      have f2 := unner_lt hWF
      refine ro_S (n := 1) (As := [.int (nI (unner X.1))]) (rest := []) ⟨hx, hb, hml, hown, hts⟩ (c_J6_bitCount_0f7a4 l D ci (wX ci ad X T tq la tt z) (en D (ci 0) G ka) (unner X.1) (by omega)) gX3_count_J6_bitCount_0f7a4 rfl ⟨rfl, rfl⟩ (by decide +kernel) rfl ⟨Nat.le_of_ble_eq_true rfl, Nat.le_of_ble_eq_true rfl⟩ hE (en_S hGA hs0 hS) hK hP hl.1 rfl (Nat.le_of_ble_eq_true rfl) dX3_count_71 ⟨Nat.zero_le _, Nat.zero_le _⟩ ?_
      have f3 := pop_le ((unner X.1))
      have hp : p_count X (nI 2) = (nI (pop (unner X.1)), X) := by first | (simp [p_count, sNerve, sLoud, bk, fl_eq, inP, i1, t_w]; done) | (simp [p_count, sNerve, sLoud, bk, fl_eq, inP, i1, t_w] <;> omega)
      refine nv_cv (show nI (pop (unner X.1)) = (p_count X (nI 2)).1 from by rw [hp]) ?_
      exact mu_iret hx hb hr hlocks hS ((by rw [hp]; exact ⟨_, _, _, _, _, hP⟩)) dX3_count_74
    · have t_w : tn (nI 3) = 3 := tn_nI (by decide)
      refine lv_tableIn (x := nI 3) (off := 74) (tgt := 75) hx hb dX3_count_1 (by decide) (by decide) (by decide) (by decide) ?_
      refine lv_aload_n hx hb dX3_count_75 rfl (lv_at hl 0 rfl) ?_
      refine va_get (D := D) (ci := 3) (v := .ref (ad 5)) (C := RX3) (T := TX3) (N := 9) hx hb hts hinX3 hown hK hP 0 rfl rfl 0 (by decide) (hts (.fieldLink RX3 10 "OneShort" "orchestra" "LOneShort$Orchestra;") (List.mem_of_getElem? (i := 1) rfl)) (fun _ h9 => h9) rfl dX3_count_76 ?_
      refine ro_V (n := 0) (As := []) (rest := []) ⟨hx, hb, hml, hown, hts⟩ (c_X0_allLoud l D ci G ka (sh ad 5) X.1 (z 0) (z 1) (z 2)  hWF) gX3_count_X0_allLoud rfl ⟨rfl, rfl⟩ (by decide +kernel) rfl ⟨Nat.le_of_ble_eq_true rfl, Nat.le_of_ble_eq_true rfl⟩ hE (en_S hGA hs0 hS) hK (wX_s5 hP) (ci := 0) (q0 := 0) rfl rfl hl.1 rfl (Nat.le_of_ble_eq_true rfl) dX3_count_79 ⟨Nat.zero_le _, Nat.zero_le _⟩ ?_
      have hp : p_count X (nI 3) = (nI (sumTo (fun q => X.1 4 q) (X.1 7 0)), X) := by first | (simp [p_count, sNerve, sLoud, bk, fl_eq, inP, i1, t_w]; done) | (simp [p_count, sNerve, sLoud, bk, fl_eq, inP, i1, t_w] <;> omega)
      refine nv_cv (show nI (sumTo (fun q => X.1 4 q) (X.1 7 0)) = (p_count X (nI 3)).1 from by rw [hp]) ?_
      exact mu_iret hx hb hr hlocks hS ((by rw [hp]; exact ⟨_, _, _, _, _, hP⟩)) dX3_count_82
    · have t_w : tn (nI 4) = 4 := tn_nI (by decide)
      refine lv_tableIn (x := nI 4) (off := 82) (tgt := 83) hx hb dX3_count_1 (by decide) (by decide) (by decide) (by decide) ?_
      refine lv_aload_n hx hb dX3_count_83 rfl (lv_at hl 0 rfl) ?_
      refine va_get (D := D) (ci := 3) (v := .ref (ad 5)) (C := RX3) (T := TX3) (N := 9) hx hb hts hinX3 hown hK hP 0 rfl rfl 0 (by decide) (hts (.fieldLink RX3 10 "OneShort" "orchestra" "LOneShort$Orchestra;") (List.mem_of_getElem? (i := 1) rfl)) (fun _ h9 => h9) rfl dX3_count_84 ?_
      refine ro_V (n := 0) (As := []) (rest := []) ⟨hx, hb, hml, hown, hts⟩ (c_X0_allNerve l D ci G ka (sh ad 5) X.1 (z 0) (z 1) (z 2)  hWF) gX3_count_X0_allNerve rfl ⟨rfl, rfl⟩ (by decide +kernel) rfl ⟨Nat.le_of_ble_eq_true rfl, Nat.le_of_ble_eq_true rfl⟩ hE (en_S hGA hs0 hS) hK (wX_s5 hP) (ci := 0) (q0 := 0) rfl rfl hl.1 rfl (Nat.le_of_ble_eq_true rfl) dX3_count_87 ⟨Nat.zero_le _, Nat.zero_le _⟩ ?_
      have hp : p_count X (nI 4) = (nI (sumTo (fun q => X.1 5 q) (X.1 7 0)), X) := by first | (simp [p_count, sNerve, sLoud, bk, fl_eq, inP, i1, t_w]; done) | (simp [p_count, sNerve, sLoud, bk, fl_eq, inP, i1, t_w] <;> omega)
      refine nv_cv (show nI (sumTo (fun q => X.1 5 q) (X.1 7 0)) = (p_count X (nI 4)).1 from by rw [hp]) ?_
      exact mu_iret hx hb hr hlocks hS ((by rw [hp]; exact ⟨_, _, _, _, _, hP⟩)) dX3_count_90
    · have t_w : tn (nI 5) = 5 := tn_nI (by decide)
      refine lv_tableIn (x := nI 5) (off := 90) (tgt := 91) hx hb dX3_count_1 (by decide) (by decide) (by decide) (by decide) ?_
      refine lv_aload_n hx hb dX3_count_91 rfl (lv_at hl 0 rfl) ?_
      refine va_get (D := D) (ci := 3) (v := .ref (ad 38)) (C := RX3) (T := TX3) (N := 9) hx hb hts hinX3 hown hK hP 0 rfl rfl 4 (by decide) (hts (.fieldLink RX3 29 "OneShort" "tape" "LOneShort$Tape;") (List.mem_of_getElem? (i := 4) rfl)) (fun _ h9 => h9) rfl dX3_count_92 ?_
      refine va_get (D := D) (ci := 2) (v := .int (nI (X.2.2.2.2.1))) (C := RX2) (T := TX2) (N := 6) hx hb hts hinX2 hown hK hP 38 rfl rfl 0 (by decide) (hts (.fieldLink RX3 196 "OneShort$Tape" "length" "I") (List.mem_of_getElem? (i := 5) rfl)) (fun _ h9 => h9) rfl dX3_count_95 ?_
      have hp : p_count X (nI 5) = (nI (X.2.2.2.2.1), X) := by first | (simp [p_count, sNerve, sLoud, bk, fl_eq, inP, i1, t_w]; done) | (simp [p_count, sNerve, sLoud, bk, fl_eq, inP, i1, t_w] <;> omega)
      refine nv_cv (show nI (X.2.2.2.2.1) = (p_count X (nI 5)).1 from by rw [hp]) ?_
      exact mu_iret hx hb hr hlocks hS ((by rw [hp]; exact ⟨_, _, _, _, _, hP⟩)) dX3_count_98
    · have t_w : tn (nI 6) = 6 := tn_nI (by decide)
      refine lv_tableIn (x := nI 6) (off := 98) (tgt := 99) hx hb dX3_count_1 (by decide) (by decide) (by decide) (by decide) ?_
      refine lv_aload_n hx hb dX3_count_99 rfl (lv_at hl 0 rfl) ?_
      refine va_get (D := D) (ci := 3) (v := .ref (ad 5)) (C := RX3) (T := TX3) (N := 9) hx hb hts hinX3 hown hK hP 0 rfl rfl 0 (by decide) (hts (.fieldLink RX3 10 "OneShort" "orchestra" "LOneShort$Orchestra;") (List.mem_of_getElem? (i := 1) rfl)) (fun _ h9 => h9) rfl dX3_count_100 ?_
      refine va_get (D := D) (ci := 0) (v := .int (nI (X.1 9 0))) (C := RX0) (T := TX0) (N := 13) hx hb hts hinX0 hown hK hP 5 rfl rfl 9 (by decide) (hts (.fieldLink RX3 193 "OneShort$Orchestra" "z" "I") (List.mem_of_getElem? (i := 6) rfl)) (fun _ h9 => h9) rfl dX3_count_103 ?_
      have hp : p_count X (nI 6) = (nI (X.1 9 0), X) := by first | (simp [p_count, sNerve, sLoud, bk, fl_eq, inP, i1, t_w]; done) | (simp [p_count, sNerve, sLoud, bk, fl_eq, inP, i1, t_w] <;> omega)
      refine nv_cv (show nI (X.1 9 0) = (p_count X (nI 6)).1 from by rw [hp]) ?_
      exact mu_iret hx hb hr hlocks hS ((by rw [hp]; exact ⟨_, _, _, _, _, hP⟩)) dX3_count_106
    · have t_w : tn (nI 7) = 7 := tn_nI (by decide)
      refine lv_tableIn (x := nI 7) (off := 106) (tgt := 107) hx hb dX3_count_1 (by decide) (by decide) (by decide) (by decide) ?_
      refine lv_aload_n hx hb dX3_count_107 rfl (lv_at hl 0 rfl) ?_
      refine va_get (D := D) (ci := 3) (v := .ref (ad 5)) (C := RX3) (T := TX3) (N := 9) hx hb hts hinX3 hown hK hP 0 rfl rfl 0 (by decide) (hts (.fieldLink RX3 10 "OneShort" "orchestra" "LOneShort$Orchestra;") (List.mem_of_getElem? (i := 1) rfl)) (fun _ h9 => h9) rfl dX3_count_108 ?_
      refine ro_V (n := 0) (As := []) (rest := []) ⟨hx, hb, hml, hown, hts⟩ (c_X0_spotsTaken l D ci G ka (sh ad 5) X.1 (z 0) (z 1) (z 2)  hWF) gX3_count_X0_spotsTaken rfl ⟨rfl, rfl⟩ (by decide +kernel) rfl ⟨Nat.le_of_ble_eq_true rfl, Nat.le_of_ble_eq_true rfl⟩ hE (en_S hGA hs0 hS) hK (wX_s5 hP) (ci := 0) (q0 := 0) rfl rfl hl.1 rfl (Nat.le_of_ble_eq_true rfl) dX3_count_111 ⟨Nat.zero_le _, Nat.zero_le _⟩ ?_
      have hp : p_count X (nI 7) = (nI (spotsT X.1), X) := by first | (simp [p_count, sNerve, sLoud, bk, fl_eq, inP, i1, t_w]; done) | (simp [p_count, sNerve, sLoud, bk, fl_eq, inP, i1, t_w] <;> omega)
      refine nv_cv (show nI (spotsT X.1) = (p_count X (nI 7)).1 from by rw [hp]) ?_
      exact mu_iret hx hb hr hlocks hS ((by rw [hp]; exact ⟨_, _, _, _, _, hP⟩)) dX3_count_114
  · refine lv_tableOut (tgt := 115) hx hb dX3_count_1 (tsw_out i1) (by decide) ?_
    refine lv_aload_n hx hb dX3_count_115 rfl (lv_at hl 0 rfl) ?_
    refine lv_iconst (v := nI (0)) hx hb dX3_count_116 (by decide) ?_
    refine mu_V (n := 1) (As := [.int (nI 0)]) (rest := []) ⟨hx, hb, hml, hown, hts⟩ (c_X3_finding l D ci G ka ad X T tq la tt z hI hG (0) hWX (by omega)) gX3_count_X3_finding rfl ⟨rfl, rfl⟩ (by decide +kernel) rfl ⟨Nat.le_of_ble_eq_true rfl, Nat.le_of_ble_eq_true rfl⟩ hE (en_S hGA hs0 hS) hK hP (ci := 3) (q0 := 0) rfl rfl hl.1 rfl (Nat.le_of_ble_eq_true rfl) dX3_count_117 ⟨Nat.zero_le _, Nat.zero_le _⟩ hS (fun _ h => h) (fun H1 locs hz hfr hB hS => ?_)
    obtain ⟨T, tq, la, tt, z, hP⟩ := hB
    generalize H1 = H at hP hS ⊢
    have hD : va_D (aX ad) (wX ci ad (toF X (inc X.2.2.2.1 0)) T tq la tt z) := wX_D hI
    have hp : p_count X w = (fnd 0, toF X (inc X.2.2.2.1 0)) := by first | (simp [p_count, sNerve, sLoud, bk, fl_eq, inP, i1]; done) | (simp [p_count, sNerve, sLoud, bk, fl_eq, inP, i1] <;> omega)
    refine nv_cv (show fnd 0 = (p_count X w).1 from by rw [hp]) ?_
    exact mu_iret hx hb hr hlocks hS ((by rw [hp]; exact ⟨_, _, _, _, _, hP⟩)) dX3_count_120
