/-! walks laid by program -/
set_option maxHeartbeats 4000000 in
set_option maxRecDepth 100000 in
/-- X3_fitting -/
theorem c_X3_fitting_part (l : Launch) (D : va_G) (ci : Nat → ClassId) (G : Nat → Prop) (ka : Nat) (ad : Nat → Nat) (X : AS) (T : OS) (tq la tt : Nat → Int32) (z : Nat → Nat → Int32) (hI : injA ad 48) (hG : ∀ k, k < 48 → G (ad k)) (s_ q : Int32) (hWX : WFX X) : Met l yX3_fitting wsX3_fitting ({ frames := 5, cells := 0, slots := 0, locals := 132 } : Room) (va_Pc [.ref (ad 0), .int (s_), .int (q), .ref (ad 20), .int (nI 6)] (ro_B D (tyL ci) (wX ci ad X T tq la tt z) (en D (ci 0) G ka))) (mu_Q (aX ad) (some (.int ((p_fitg 3 6 X s_ q).1))) (fun H => ∃ T tq la tt z, va_P D vwCl (wX ci ad ((p_fitg 3 6 X s_ q).2) T tq la tt z) H)) 0 0 (aX ad) := by
  refine mu_Met (cc := cX3_fitting) (maxL := 8) (ret := (some .int)) [(0, .ref (ad 0)), (1, .int (s_)), (2, .int (q)), (3, .ref (ad 20)), (4, .int (nI 6))] (wX_D hI) (by decide) rfl (Nat.le_of_ble_eq_true rfl) rfl ?_
  intro p e s m below meth c H locs hx hb hml hr hlocks hts hown hP hK hs0 hD hS ls hl
  have hown : s.vm.findClass RX3 = some m.cls := hown
  have hinX3 : ∀ w ∈ wsX30, w ∈ wsX3_fitting := by decide +kernel
  have hE := hE_en D (ci 0) G ka
  have hWF := hWX.w
  have f_n := hWF.n
  have f_e := hWX.e
  have f_tl := hWX.t
  have hGA := aX_G hG
  have hWK := hWX.k
  refine lv_aload_n hx hb dX3_fitting_0 rfl (lv_at hl 0 rfl) ?_
  refine lv_iload_n hx hb dX3_fitting_1 rfl (lv_at hl 1 rfl) ?_
  refine ro_V (n := 1) (As := [.int (s_)]) (rest := []) ⟨hx, hb, hml, hown, hts⟩ (c_X3_lackOf l D ci G ka ad X T tq la tt z (s_) hWX) gX3_fitting_X3_lackOf rfl ⟨rfl, rfl⟩ (by decide +kernel) rfl ⟨Nat.le_of_ble_eq_true rfl, Nat.le_of_ble_eq_true rfl⟩ hE (en_S hGA hs0 hS) hK hP (ci := 3) (q0 := 0) rfl rfl hl.1 rfl (Nat.le_of_ble_eq_true rfl) dX3_fitting_2 ⟨Nat.zero_le _, Nat.zero_le _⟩ ?_
  refine lv_istore (lv' := [(5, .int (lk (lackN X s_))), (0, .ref (ad 0)), (1, .int (s_)), (2, .int (q)), (3, .ref (ad 20)), (4, .int (nI 6))]) hx hb dX3_fitting_5 hl (by decide) rfl (fun ls hl => ?_)
  refine lv_iload hx hb dX3_fitting_7 (lv_at hl 0 rfl) ?_
  refine lv_iconst (v := -1) hx hb dX3_fitting_9 (by decide) ?_
  refine lv_icmp_ne (tgt := 21) hx hb dX3_fitting_10 (by decide) (fun c1 => ?_) (fun c1 => ?_)
  · have q2 := lk_ne c1
    have e3 := lk_nI q2
    rw [e3] at hl
    have f4 := lack_lt q2
    refine lv_aload_n hx hb dX3_fitting_21 rfl (lv_at hl 1 rfl) ?_
    refine lv_iload hx hb dX3_fitting_22 (lv_at hl 0 rfl) ?_
    refine lv_iconst (v := -1) hx hb dX3_fitting_24 (by decide) ?_
    refine lv_icmp_eq (tgt := 33) hx hb dX3_fitting_25 (by decide) (fun h => absurd h (nI_m1 (by omega))) (fun _ => ?_)
    refine lv_iload hx hb dX3_fitting_28 (lv_at hl 0 rfl) ?_
    refine lv_goto (tgt := 34) hx hb dX3_fitting_30 (by decide) ?_
    refine mu_V (n := 1) (As := [.int (nI (lackN X s_))]) (rest := []) ⟨hx, hb, hml, hown, hts⟩ (c_X3_finding l D ci G ka ad X T tq la tt z hI hG (lackN X s_) hWX (by omega)) gX3_fitting_X3_finding rfl ⟨rfl, rfl⟩ (by decide +kernel) rfl ⟨Nat.le_of_ble_eq_true rfl, Nat.le_of_ble_eq_true rfl⟩ hE (en_S hGA hs0 hS) hK hP (ci := 3) (q0 := 0) rfl rfl hl.1 rfl (Nat.le_of_ble_eq_true rfl) dX3_fitting_34 ⟨Nat.zero_le _, Nat.zero_le _⟩ hS (fun _ h => h) (fun H1 locs hz hfr hB hS => ?_)
    obtain ⟨T, tq, la, tt, z, hP⟩ := hB
    generalize H1 = H at hP hS ⊢
    have hD : va_D (aX ad) (wX ci ad (toF X (inc X.2.2.2.1 (lackN X s_))) T tq la tt z) := wX_D hI
    have hp : p_fitg 3 6 X s_ q = (fnd (lackN X s_), toF X (inc X.2.2.2.1 (lackN X s_))) := by first | (simp [p_fitg, bk, fl_eq, inP, c1, q2]; done) | (simp [p_fitg, bk, fl_eq, inP, show i = 6 by omega, c1, q2]; done)
    refine nv_cv (show fnd (lackN X s_) = (p_fitg 3 6 X s_ q).1 from by rw [hp]) ?_
    exact mu_iret hx hb hr hlocks hS ((by rw [hp]; exact ⟨_, _, _, _, _, hP⟩)) dX3_fitting_37
  · have q6 := lk_eq c1
    obtain ⟨s_n, h_s_n, h_bs_, rfl⟩ := lack_ok q6
    rw [c1] at hl
    have t_s_n : tn (nI s_n) = s_n := tn_nI (by omega)
    have f7 := hWX.sl s_n
    have f8 := sb_lt hWX s_n
    refine lv_aload_n hx hb dX3_fitting_13 rfl (lv_at hl 1 rfl) ?_
    refine lv_iload_n hx hb dX3_fitting_14 rfl (lv_at hl 3 rfl) ?_
    refine ro_V (n := 1) (As := [.int (q)]) (rest := []) ⟨hx, hb, hml, hown, hts⟩ (c_X3_isPlayer l D ci G ka ad X T tq la tt z (q) hWX) gX3_fitting_X3_isPlayer rfl ⟨rfl, rfl⟩ (by decide +kernel) rfl ⟨Nat.le_of_ble_eq_true rfl, Nat.le_of_ble_eq_true rfl⟩ hE (en_S hGA hs0 hS) hK hP (ci := 3) (q0 := 0) rfl rfl hl.1 rfl (Nat.le_of_ble_eq_true rfl) dX3_fitting_15 ⟨Nat.zero_le _, Nat.zero_le _⟩ ?_
    refine nv_ifne_b (tgt := 38) hx hb dX3_fitting_18 (by decide) (fun c9 => ?_) (fun c9 => ?_)
    · obtain ⟨qn, h_qn, rfl⟩ := in_ex c9 (by omega)
      have t_qn : tn (nI qn) = qn := tn_nI (by omega)
      refine lv_iconst (v := nI (0)) hx hb dX3_fitting_38 (by decide) ?_
      refine lv_istore (lv' := [(6, .int (nI 0)), (5, .int (-1)), (0, .ref (ad 0)), (1, .int (nI s_n)), (2, .int (nI qn)), (3, .ref (ad 20)), (4, .int (nI 6))]) hx hb dX3_fitting_39 hl (by decide) rfl (fun ls hl => ?_)
      refine lv_iconst (v := nI (0)) hx hb dX3_fitting_41 (by decide) ?_
      refine lv_istore (lv' := [(7, .int (nI 0)), (6, .int (nI 0)), (5, .int (-1)), (0, .ref (ad 0)), (1, .int (nI s_n)), (2, .int (nI qn)), (3, .ref (ad 20)), (4, .int (nI 6))]) hx hb dX3_fitting_42 hl (by decide) rfl (fun ls hl => ?_)
      have L44 : ∀ (k44 : Nat) (i : Nat), 6 - i < k44 → (i ≤ 6) → ∀ (x6 x7 : Int32), x6 = nI (setTo (fun v => goA (st X.1 3 qn v) (X.2.2.2.2.2.2.2.1 s_n) (X.2.2.2.2.2.2.2.2 s_n) qn) (i)) → x7 = nI (i) → ∀ (T : OS) (tq : Nat → Int32) (la : Nat → Int32) (tt : Nat → Int32) (z : Nat → Nat → Int32), ∀ (H : Heap) (locs : List Loc), va_P D vwCl (wX ci ad X T tq la tt z) H → va_S (aX ad) s.heap H locs → ∀ ls : Array Slot, lv_has ls 8 [(6, .int (x6)), (7, .int (x7)), (5, .int (-1)), (0, .ref (ad 0)), (1, .int (nI s_n)), (2, .int (nI qn)), (3, .ref (ad 20)), (4, .int (nI 6))] → W p l e (headSpec wsX3_fitting ({ frames := 5, cells := 0, slots := 0, locals := 132 } : Room)).room s m ([.ref (ad 0), .int (nI s_n), .int (nI qn), .ref (ad 20), .int (nI 6)] : List Value).toArray below meth c H locs 0 0 (MQ below (mu_Q (aX ad) (some (.int ((p_fitg 3 6 X (nI s_n) (nI qn)).1))) (fun H => ∃ T tq la tt z, va_P D vwCl (wX ci ad ((p_fitg 3 6 X (nI s_n) (nI qn)).2) T tq la tt z) H)) ([.ref (ad 0), .int (nI s_n), .int (nI qn), .ref (ad 20), .int (nI 6)] : List Value).toArray s 0 0 (aX ad)) (F0 m 44 ls []) := by
        intro k44
        induction k44 with
        | zero => intro i h0; exact absurd h0 (Nat.not_lt_zero _)
        | succ k44 ih44 =>
          intro i hk44 h_i x6 x7 e6 e7 T tq la tt z H locs hP hS ls hl
          subst e6
          subst e7
          have hD : va_D (aX ad) (wX ci ad X T tq la tt z) := wX_D hI
          refine lv_iload hx hb dX3_fitting_44 (lv_at hl 1 rfl) ?_
          refine lv_iload hx hb dX3_fitting_46 (lv_at hl 7 rfl) ?_
          refine nv_icmp_ge (tgt := 96) hx hb (by omega) (by omega) dX3_fitting_48 (by decide) (fun c10 => ?_) (fun c10 => ?_)
          · refine lv_iload hx hb dX3_fitting_96 (lv_at hl 0 rfl) ?_
            have hp : p_fitg 3 6 X (nI s_n) (nI qn) = (nI (setTo (fun v => goA (st X.1 3 qn v) (X.2.2.2.2.2.2.2.1 s_n) (X.2.2.2.2.2.2.2.2 s_n) qn) (i)), X) := by first | (simp [p_fitg, bk, fl_eq, inP, c1, c9, c10, q6, t_s_n, h_bs_, t_qn]; done) | (simp [p_fitg, bk, fl_eq, inP, show i = 6 by omega, c1, c9, c10, q6, t_s_n, h_bs_, t_qn]; done)
            refine nv_cv (show nI (setTo (fun v => goA (st X.1 3 qn v) (X.2.2.2.2.2.2.2.1 s_n) (X.2.2.2.2.2.2.2.2 s_n) qn) (i)) = (p_fitg 3 6 X (nI s_n) (nI qn)).1 from by rw [hp]) ?_
            exact mu_iret hx hb hr hlocks hS ((by rw [hp]; exact ⟨_, _, _, _, _, hP⟩)) dX3_fitting_98
          · refine lv_aload_n hx hb dX3_fitting_51 rfl (lv_at hl 3 rfl) ?_
            refine va_get (D := D) (ci := 3) (v := .ref (ad 16)) (C := RX3) (T := TX3) (N := 9) hx hb hts hinX3 hown hK hP 0 rfl rfl 1 (by decide) (hts (.fieldLink RX3 16 "OneShort" "trial" "LOneShort$Orchestra;") (List.mem_of_getElem? (i := 1) rfl)) (fun _ h9 => h9) rfl dX3_fitting_52 ?_
            refine lv_aload_n hx hb dX3_fitting_55 rfl (lv_at hl 3 rfl) ?_
            refine va_get (D := D) (ci := 3) (v := .ref (ad 5)) (C := RX3) (T := TX3) (N := 9) hx hb hts hinX3 hown hK hP 0 rfl rfl 0 (by decide) (hts (.fieldLink RX3 10 "OneShort" "orchestra" "LOneShort$Orchestra;") (List.mem_of_getElem? (i := 2) rfl)) (fun _ h9 => h9) rfl dX3_fitting_56 ?_
            refine mu_V (n := 1) (As := [.ref (ad 5)]) (rest := []) ⟨hx, hb, hml, hown, hts⟩ (c_X0_become l D ci G ka (sh ad 16) T (z 3) (z 4) (z 5) (sh ad 5) X.1 (z 0) (z 1) (z 2) (wX_D2 hI (by decide) (by decide) (by decide) _ _ _ _ _ _ _ _) (aO2_G (G_sh hG (by decide)) (G_sh hG (by decide)))  ) gX3_fitting_X0_become rfl ⟨rfl, rfl⟩ (by decide +kernel) rfl ⟨Nat.le_of_ble_eq_true rfl, Nat.le_of_ble_eq_true rfl⟩ hE (en_S hGA hs0 hS) hK (va_P.app (wX_s16 hP) (wX_s5 hP)) (ci := 0) (q0 := 0) rfl rfl hl.1 rfl (Nat.le_of_ble_eq_true rfl) dX3_fitting_59 ⟨Nat.zero_le _, Nat.zero_le _⟩ hS (fun q h => h.elim (fun h => aR_X (by decide) q (aO_sh q h)) (fun h => aR_X (by decide) q (aO_sh q h))) (fun H1 locs hz hfr hB hS => ?_)
            have hP := wX_j16_5 hI hP hfr hB
            generalize H1 = H at hP hS ⊢
            have hD : va_D (aX ad) (wX ci ad X X.1 tq la tt z) := wX_D hI
            refine lv_aload_n hx hb dX3_fitting_62 rfl (lv_at hl 6 rfl) ?_
            refine lv_iload_n hx hb dX3_fitting_63 rfl (lv_at hl 5 rfl) ?_
            refine lv_iload hx hb dX3_fitting_64 (lv_at hl 1 rfl) ?_
            refine nv_iast hx hb hK hP hD hS 20 0 rfl rfl (by omega) (by decide) dX3_fitting_66 (fun H locs hP hD hS => ?_)
            have hP : va_P D vwCl (wX ci ad X (st X.1 3 (qn) (i)) tq la tt z) H := va_P.re (wX_t3 ci ad X X.1 tq la tt z (qn) (i)) hP
            have hD : va_D (aX ad) (wX ci ad X (st X.1 3 (qn) (i)) tq la tt z) := wX_D hI
            refine lv_aload_n hx hb dX3_fitting_67 rfl (lv_at hl 3 rfl) ?_
            refine lv_aload_n hx hb dX3_fitting_68 rfl (lv_at hl 3 rfl) ?_
            refine va_get (D := D) (ci := 3) (v := .ref (ad 1)) (C := RX3) (T := TX3) (N := 9) hx hb hts hinX3 hown hK hP 0 rfl rfl 5 (by decide) (hts (.fieldLink RX3 35 "OneShort" "sheets" "[LOneShort$Sheet;") (List.mem_of_getElem? (i := 3) rfl)) (fun _ h9 => h9) rfl dX3_fitting_69 ?_
            refine lv_iload_n hx hb dX3_fitting_72 rfl (lv_at hl 4 rfl) ?_
            refine nv_aald (v := .ref (ad (40 + 2 * (s_n)))) hx hb hK hP 1 1 rfl rfl (by omega) (by decide) rfl dX3_fitting_73 ?_
            refine lv_iload_n hx hb dX3_fitting_74 rfl (lv_at hl 5 rfl) ?_
            refine mu_V (n := 2) (As := [.ref (ad (40 + 2 * (s_n))), .int (nI qn)]) (rest := []) ⟨hx, hb, hml, hown, hts⟩ (c_X3_trialGoesAs l D ci G ka ad X (st X.1 3 (qn) (i)) tq la tt z hI hG (s_n) (qn) hWX (by omega) (by omega) (WF_st3 hWF qn (by omega))) gX3_fitting_X3_trialGoesAs rfl ⟨rfl, rfl⟩ (by decide +kernel) rfl ⟨Nat.le_of_ble_eq_true rfl, Nat.le_of_ble_eq_true rfl⟩ hE (en_S hGA hs0 hS) hK hP (ci := 3) (q0 := 0) rfl rfl hl.1 rfl (Nat.le_of_ble_eq_true rfl) dX3_fitting_75 ⟨Nat.zero_le _, Nat.zero_le _⟩ hS (fun _ h => h) (fun H1 locs hz hfr hB hS => ?_)
            obtain ⟨T, tq, la, tt, z, hP⟩ := hB
            generalize H1 = H at hP hS ⊢
            have hD : va_D (aX ad) (wX ci ad X T tq la tt z) := wX_D hI
            refine nv_ifeq_b (tgt := 90) hx hb dX3_fitting_78 (by decide) (fun c11 => ?_) (fun c11 => ?_)
            · refine nv_iinc1 (lv' := [(7, .int (nI (i + 1))), (6, .int (nI (setTo (fun v => goA (st X.1 3 qn v) (X.2.2.2.2.2.2.2.1 s_n) (X.2.2.2.2.2.2.2.2 s_n) qn) (i)))), (5, .int (-1)), (0, .ref (ad 0)), (1, .int (nI s_n)), (2, .int (nI qn)), (3, .ref (ad 20)), (4, .int (nI 6))]) hx hb dX3_fitting_90 hl (k := 1) rfl (by decide) rfl (fun ls hl => ?_)
              refine lv_goto (tgt := 44) hx hb dX3_fitting_93 (by decide) ?_
              exact ih44 (i + 1) (by omega) (by omega) (nI (setTo (fun v => goA (st X.1 3 qn v) (X.2.2.2.2.2.2.2.1 s_n) (X.2.2.2.2.2.2.2.2 s_n) qn) (i))) (nI (i + 1)) (nv_e (by first | exact setTo_t c11 | exact setTo_f c11)) rfl (T) (tq) (la) (tt) (z) _ _ hP hS ls (lv_sub hl [1, 0, 2, 3, 4, 5, 6, 7] rfl)
            · refine lv_iload hx hb dX3_fitting_81 (lv_at hl 0 rfl) ?_
              refine lv_iconst (v := nI (1)) hx hb dX3_fitting_83 (by decide) ?_
              refine lv_iload hx hb dX3_fitting_84 (lv_at hl 1 rfl) ?_
              refine nv_ishl hx hb (by omega) dX3_fitting_86 ?_
              refine nv_ior hx hb dX3_fitting_87 ?_
              refine lv_istore (lv' := [(6, .int (nI ((setTo (fun v => goA (st X.1 3 qn v) (X.2.2.2.2.2.2.2.1 s_n) (X.2.2.2.2.2.2.2.2 s_n) qn) (i) ||| (1 * 2 ^ (i)))))), (7, .int (nI i)), (5, .int (-1)), (0, .ref (ad 0)), (1, .int (nI s_n)), (2, .int (nI qn)), (3, .ref (ad 20)), (4, .int (nI 6))]) hx hb dX3_fitting_88 hl (by decide) rfl (fun ls hl => ?_)
              refine nv_iinc1 (lv' := [(7, .int (nI (i + 1))), (6, .int (nI ((setTo (fun v => goA (st X.1 3 qn v) (X.2.2.2.2.2.2.2.1 s_n) (X.2.2.2.2.2.2.2.2 s_n) qn) (i) ||| (1 * 2 ^ (i)))))), (5, .int (-1)), (0, .ref (ad 0)), (1, .int (nI s_n)), (2, .int (nI qn)), (3, .ref (ad 20)), (4, .int (nI 6))]) hx hb dX3_fitting_90 hl (k := 1) rfl (by decide) rfl (fun ls hl => ?_)
              refine lv_goto (tgt := 44) hx hb dX3_fitting_93 (by decide) ?_
              exact ih44 (i + 1) (by omega) (by omega) (nI ((setTo (fun v => goA (st X.1 3 qn v) (X.2.2.2.2.2.2.2.1 s_n) (X.2.2.2.2.2.2.2.2 s_n) qn) (i) ||| (1 * 2 ^ (i))))) (nI (i + 1)) (nv_e (by first | exact setTo_t c11 | exact setTo_f c11)) rfl (T) (tq) (la) (tt) (z) _ _ hP hS ls (lv_sub hl [1, 0, 2, 3, 4, 5, 6, 7] rfl)
      exact L44 _ (0) (Nat.lt_succ_self _) (by omega) (nI (0)) (nI (0)) rfl rfl (T) (tq) (la) (tt) (z) _ _ hP hS ls (lv_sub hl [1, 0, 2, 3, 4, 5, 6, 7] rfl)
    · refine lv_aload_n hx hb dX3_fitting_21 rfl (lv_at hl 1 rfl) ?_
      refine lv_iload hx hb dX3_fitting_22 (lv_at hl 0 rfl) ?_
      refine lv_iconst (v := -1) hx hb dX3_fitting_24 (by decide) ?_
      refine lv_icmp_eq (tgt := 33) hx hb dX3_fitting_25 (by decide) (fun _ => ?_) (fun h => absurd rfl h)
      refine lv_iconst (v := nI (0)) hx hb dX3_fitting_33 (by decide) ?_
      refine mu_V (n := 1) (As := [.int (nI 0)]) (rest := []) ⟨hx, hb, hml, hown, hts⟩ (c_X3_finding l D ci G ka ad X T tq la tt z hI hG (0) hWX (by omega)) gX3_fitting_X3_finding rfl ⟨rfl, rfl⟩ (by decide +kernel) rfl ⟨Nat.le_of_ble_eq_true rfl, Nat.le_of_ble_eq_true rfl⟩ hE (en_S hGA hs0 hS) hK hP (ci := 3) (q0 := 0) rfl rfl hl.1 rfl (Nat.le_of_ble_eq_true rfl) dX3_fitting_34 ⟨Nat.zero_le _, Nat.zero_le _⟩ hS (fun _ h => h) (fun H1 locs hz hfr hB hS => ?_)
      obtain ⟨T, tq, la, tt, z, hP⟩ := hB
      generalize H1 = H at hP hS ⊢
      have hD : va_D (aX ad) (wX ci ad (toF X (inc X.2.2.2.1 0)) T tq la tt z) := wX_D hI
      have hp : p_fitg 3 6 X (nI s_n) q = (fnd 0, toF X (inc X.2.2.2.1 0)) := by first | (simp [p_fitg, bk, fl_eq, inP, c1, c9, q6, t_s_n, h_bs_]; done) | (simp [p_fitg, bk, fl_eq, inP, show i = 6 by omega, c1, c9, q6, t_s_n, h_bs_]; done)
      refine nv_cv (show fnd 0 = (p_fitg 3 6 X (nI s_n) q).1 from by rw [hp]) ?_
      exact mu_iret hx hb hr hlocks hS ((by rw [hp]; exact ⟨_, _, _, _, _, hP⟩)) dX3_fitting_37

set_option maxHeartbeats 4000000 in
set_option maxRecDepth 100000 in
/-- X3_fitting -/
theorem c_X3_fitting_kind (l : Launch) (D : va_G) (ci : Nat → ClassId) (G : Nat → Prop) (ka : Nat) (ad : Nat → Nat) (X : AS) (T : OS) (tq la tt : Nat → Int32) (z : Nat → Nat → Int32) (hI : injA ad 48) (hG : ∀ k, k < 48 → G (ad k)) (s_ q : Int32) (hWX : WFX X) : Met l yX3_fitting wsX3_fitting ({ frames := 5, cells := 0, slots := 0, locals := 132 } : Room) (va_Pc [.ref (ad 0), .int (s_), .int (q), .ref (ad 18), .int (nI 7)] (ro_B D (tyL ci) (wX ci ad X T tq la tt z) (en D (ci 0) G ka))) (mu_Q (aX ad) (some (.int ((p_fitg 1 7 X s_ q).1))) (fun H => ∃ T tq la tt z, va_P D vwCl (wX ci ad ((p_fitg 1 7 X s_ q).2) T tq la tt z) H)) 0 0 (aX ad) := by
  refine mu_Met (cc := cX3_fitting) (maxL := 8) (ret := (some .int)) [(0, .ref (ad 0)), (1, .int (s_)), (2, .int (q)), (3, .ref (ad 18)), (4, .int (nI 7))] (wX_D hI) (by decide) rfl (Nat.le_of_ble_eq_true rfl) rfl ?_
  intro p e s m below meth c H locs hx hb hml hr hlocks hts hown hP hK hs0 hD hS ls hl
  have hown : s.vm.findClass RX3 = some m.cls := hown
  have hinX3 : ∀ w ∈ wsX30, w ∈ wsX3_fitting := by decide +kernel
  have hE := hE_en D (ci 0) G ka
  have hWF := hWX.w
  have f_n := hWF.n
  have f_e := hWX.e
  have f_tl := hWX.t
  have hGA := aX_G hG
  have hWK := hWX.k
  refine lv_aload_n hx hb dX3_fitting_0 rfl (lv_at hl 0 rfl) ?_
  refine lv_iload_n hx hb dX3_fitting_1 rfl (lv_at hl 1 rfl) ?_
  refine ro_V (n := 1) (As := [.int (s_)]) (rest := []) ⟨hx, hb, hml, hown, hts⟩ (c_X3_lackOf l D ci G ka ad X T tq la tt z (s_) hWX) gX3_fitting_X3_lackOf rfl ⟨rfl, rfl⟩ (by decide +kernel) rfl ⟨Nat.le_of_ble_eq_true rfl, Nat.le_of_ble_eq_true rfl⟩ hE (en_S hGA hs0 hS) hK hP (ci := 3) (q0 := 0) rfl rfl hl.1 rfl (Nat.le_of_ble_eq_true rfl) dX3_fitting_2 ⟨Nat.zero_le _, Nat.zero_le _⟩ ?_
  refine lv_istore (lv' := [(5, .int (lk (lackN X s_))), (0, .ref (ad 0)), (1, .int (s_)), (2, .int (q)), (3, .ref (ad 18)), (4, .int (nI 7))]) hx hb dX3_fitting_5 hl (by decide) rfl (fun ls hl => ?_)
  refine lv_iload hx hb dX3_fitting_7 (lv_at hl 0 rfl) ?_
  refine lv_iconst (v := -1) hx hb dX3_fitting_9 (by decide) ?_
  refine lv_icmp_ne (tgt := 21) hx hb dX3_fitting_10 (by decide) (fun c1 => ?_) (fun c1 => ?_)
  · have q2 := lk_ne c1
    have e3 := lk_nI q2
    rw [e3] at hl
    have f4 := lack_lt q2
    refine lv_aload_n hx hb dX3_fitting_21 rfl (lv_at hl 1 rfl) ?_
    refine lv_iload hx hb dX3_fitting_22 (lv_at hl 0 rfl) ?_
    refine lv_iconst (v := -1) hx hb dX3_fitting_24 (by decide) ?_
    refine lv_icmp_eq (tgt := 33) hx hb dX3_fitting_25 (by decide) (fun h => absurd h (nI_m1 (by omega))) (fun _ => ?_)
    refine lv_iload hx hb dX3_fitting_28 (lv_at hl 0 rfl) ?_
    refine lv_goto (tgt := 34) hx hb dX3_fitting_30 (by decide) ?_
    refine mu_V (n := 1) (As := [.int (nI (lackN X s_))]) (rest := []) ⟨hx, hb, hml, hown, hts⟩ (c_X3_finding l D ci G ka ad X T tq la tt z hI hG (lackN X s_) hWX (by omega)) gX3_fitting_X3_finding rfl ⟨rfl, rfl⟩ (by decide +kernel) rfl ⟨Nat.le_of_ble_eq_true rfl, Nat.le_of_ble_eq_true rfl⟩ hE (en_S hGA hs0 hS) hK hP (ci := 3) (q0 := 0) rfl rfl hl.1 rfl (Nat.le_of_ble_eq_true rfl) dX3_fitting_34 ⟨Nat.zero_le _, Nat.zero_le _⟩ hS (fun _ h => h) (fun H1 locs hz hfr hB hS => ?_)
    obtain ⟨T, tq, la, tt, z, hP⟩ := hB
    generalize H1 = H at hP hS ⊢
    have hD : va_D (aX ad) (wX ci ad (toF X (inc X.2.2.2.1 (lackN X s_))) T tq la tt z) := wX_D hI
    have hp : p_fitg 1 7 X s_ q = (fnd (lackN X s_), toF X (inc X.2.2.2.1 (lackN X s_))) := by first | (simp [p_fitg, bk, fl_eq, inP, c1, q2]; done) | (simp [p_fitg, bk, fl_eq, inP, show i = 7 by omega, c1, q2]; done)
    refine nv_cv (show fnd (lackN X s_) = (p_fitg 1 7 X s_ q).1 from by rw [hp]) ?_
    exact mu_iret hx hb hr hlocks hS ((by rw [hp]; exact ⟨_, _, _, _, _, hP⟩)) dX3_fitting_37
  · have q6 := lk_eq c1
    obtain ⟨s_n, h_s_n, h_bs_, rfl⟩ := lack_ok q6
    rw [c1] at hl
    have t_s_n : tn (nI s_n) = s_n := tn_nI (by omega)
    have f7 := hWX.sl s_n
    have f8 := sb_lt hWX s_n
    refine lv_aload_n hx hb dX3_fitting_13 rfl (lv_at hl 1 rfl) ?_
    refine lv_iload_n hx hb dX3_fitting_14 rfl (lv_at hl 3 rfl) ?_
    refine ro_V (n := 1) (As := [.int (q)]) (rest := []) ⟨hx, hb, hml, hown, hts⟩ (c_X3_isPlayer l D ci G ka ad X T tq la tt z (q) hWX) gX3_fitting_X3_isPlayer rfl ⟨rfl, rfl⟩ (by decide +kernel) rfl ⟨Nat.le_of_ble_eq_true rfl, Nat.le_of_ble_eq_true rfl⟩ hE (en_S hGA hs0 hS) hK hP (ci := 3) (q0 := 0) rfl rfl hl.1 rfl (Nat.le_of_ble_eq_true rfl) dX3_fitting_15 ⟨Nat.zero_le _, Nat.zero_le _⟩ ?_
    refine nv_ifne_b (tgt := 38) hx hb dX3_fitting_18 (by decide) (fun c9 => ?_) (fun c9 => ?_)
    · obtain ⟨qn, h_qn, rfl⟩ := in_ex c9 (by omega)
      have t_qn : tn (nI qn) = qn := tn_nI (by omega)
      refine lv_iconst (v := nI (0)) hx hb dX3_fitting_38 (by decide) ?_
      refine lv_istore (lv' := [(6, .int (nI 0)), (5, .int (-1)), (0, .ref (ad 0)), (1, .int (nI s_n)), (2, .int (nI qn)), (3, .ref (ad 18)), (4, .int (nI 7))]) hx hb dX3_fitting_39 hl (by decide) rfl (fun ls hl => ?_)
      refine lv_iconst (v := nI (0)) hx hb dX3_fitting_41 (by decide) ?_
      refine lv_istore (lv' := [(7, .int (nI 0)), (6, .int (nI 0)), (5, .int (-1)), (0, .ref (ad 0)), (1, .int (nI s_n)), (2, .int (nI qn)), (3, .ref (ad 18)), (4, .int (nI 7))]) hx hb dX3_fitting_42 hl (by decide) rfl (fun ls hl => ?_)
      have L44 : ∀ (k44 : Nat) (i : Nat), 7 - i < k44 → (i ≤ 7) → ∀ (x6 x7 : Int32), x6 = nI (setTo (fun v => goA (st X.1 1 qn v) (X.2.2.2.2.2.2.2.1 s_n) (X.2.2.2.2.2.2.2.2 s_n) qn) (i)) → x7 = nI (i) → ∀ (T : OS) (tq : Nat → Int32) (la : Nat → Int32) (tt : Nat → Int32) (z : Nat → Nat → Int32), ∀ (H : Heap) (locs : List Loc), va_P D vwCl (wX ci ad X T tq la tt z) H → va_S (aX ad) s.heap H locs → ∀ ls : Array Slot, lv_has ls 8 [(6, .int (x6)), (7, .int (x7)), (5, .int (-1)), (0, .ref (ad 0)), (1, .int (nI s_n)), (2, .int (nI qn)), (3, .ref (ad 18)), (4, .int (nI 7))] → W p l e (headSpec wsX3_fitting ({ frames := 5, cells := 0, slots := 0, locals := 132 } : Room)).room s m ([.ref (ad 0), .int (nI s_n), .int (nI qn), .ref (ad 18), .int (nI 7)] : List Value).toArray below meth c H locs 0 0 (MQ below (mu_Q (aX ad) (some (.int ((p_fitg 1 7 X (nI s_n) (nI qn)).1))) (fun H => ∃ T tq la tt z, va_P D vwCl (wX ci ad ((p_fitg 1 7 X (nI s_n) (nI qn)).2) T tq la tt z) H)) ([.ref (ad 0), .int (nI s_n), .int (nI qn), .ref (ad 18), .int (nI 7)] : List Value).toArray s 0 0 (aX ad)) (F0 m 44 ls []) := by
        intro k44
        induction k44 with
        | zero => intro i h0; exact absurd h0 (Nat.not_lt_zero _)
        | succ k44 ih44 =>
          intro i hk44 h_i x6 x7 e6 e7 T tq la tt z H locs hP hS ls hl
          subst e6
          subst e7
          have hD : va_D (aX ad) (wX ci ad X T tq la tt z) := wX_D hI
          refine lv_iload hx hb dX3_fitting_44 (lv_at hl 1 rfl) ?_
          refine lv_iload hx hb dX3_fitting_46 (lv_at hl 7 rfl) ?_
          refine nv_icmp_ge (tgt := 96) hx hb (by omega) (by omega) dX3_fitting_48 (by decide) (fun c10 => ?_) (fun c10 => ?_)
          · refine lv_iload hx hb dX3_fitting_96 (lv_at hl 0 rfl) ?_
            have hp : p_fitg 1 7 X (nI s_n) (nI qn) = (nI (setTo (fun v => goA (st X.1 1 qn v) (X.2.2.2.2.2.2.2.1 s_n) (X.2.2.2.2.2.2.2.2 s_n) qn) (i)), X) := by first | (simp [p_fitg, bk, fl_eq, inP, c1, c9, c10, q6, t_s_n, h_bs_, t_qn]; done) | (simp [p_fitg, bk, fl_eq, inP, show i = 7 by omega, c1, c9, c10, q6, t_s_n, h_bs_, t_qn]; done)
            refine nv_cv (show nI (setTo (fun v => goA (st X.1 1 qn v) (X.2.2.2.2.2.2.2.1 s_n) (X.2.2.2.2.2.2.2.2 s_n) qn) (i)) = (p_fitg 1 7 X (nI s_n) (nI qn)).1 from by rw [hp]) ?_
            exact mu_iret hx hb hr hlocks hS ((by rw [hp]; exact ⟨_, _, _, _, _, hP⟩)) dX3_fitting_98
          · refine lv_aload_n hx hb dX3_fitting_51 rfl (lv_at hl 3 rfl) ?_
            refine va_get (D := D) (ci := 3) (v := .ref (ad 16)) (C := RX3) (T := TX3) (N := 9) hx hb hts hinX3 hown hK hP 0 rfl rfl 1 (by decide) (hts (.fieldLink RX3 16 "OneShort" "trial" "LOneShort$Orchestra;") (List.mem_of_getElem? (i := 1) rfl)) (fun _ h9 => h9) rfl dX3_fitting_52 ?_
            refine lv_aload_n hx hb dX3_fitting_55 rfl (lv_at hl 3 rfl) ?_
            refine va_get (D := D) (ci := 3) (v := .ref (ad 5)) (C := RX3) (T := TX3) (N := 9) hx hb hts hinX3 hown hK hP 0 rfl rfl 0 (by decide) (hts (.fieldLink RX3 10 "OneShort" "orchestra" "LOneShort$Orchestra;") (List.mem_of_getElem? (i := 2) rfl)) (fun _ h9 => h9) rfl dX3_fitting_56 ?_
            refine mu_V (n := 1) (As := [.ref (ad 5)]) (rest := []) ⟨hx, hb, hml, hown, hts⟩ (c_X0_become l D ci G ka (sh ad 16) T (z 3) (z 4) (z 5) (sh ad 5) X.1 (z 0) (z 1) (z 2) (wX_D2 hI (by decide) (by decide) (by decide) _ _ _ _ _ _ _ _) (aO2_G (G_sh hG (by decide)) (G_sh hG (by decide)))  ) gX3_fitting_X0_become rfl ⟨rfl, rfl⟩ (by decide +kernel) rfl ⟨Nat.le_of_ble_eq_true rfl, Nat.le_of_ble_eq_true rfl⟩ hE (en_S hGA hs0 hS) hK (va_P.app (wX_s16 hP) (wX_s5 hP)) (ci := 0) (q0 := 0) rfl rfl hl.1 rfl (Nat.le_of_ble_eq_true rfl) dX3_fitting_59 ⟨Nat.zero_le _, Nat.zero_le _⟩ hS (fun q h => h.elim (fun h => aR_X (by decide) q (aO_sh q h)) (fun h => aR_X (by decide) q (aO_sh q h))) (fun H1 locs hz hfr hB hS => ?_)
            have hP := wX_j16_5 hI hP hfr hB
            generalize H1 = H at hP hS ⊢
            have hD : va_D (aX ad) (wX ci ad X X.1 tq la tt z) := wX_D hI
            refine lv_aload_n hx hb dX3_fitting_62 rfl (lv_at hl 6 rfl) ?_
            refine lv_iload_n hx hb dX3_fitting_63 rfl (lv_at hl 5 rfl) ?_
            refine lv_iload hx hb dX3_fitting_64 (lv_at hl 1 rfl) ?_
            refine nv_iast hx hb hK hP hD hS 18 0 rfl rfl (by omega) (by decide) dX3_fitting_66 (fun H locs hP hD hS => ?_)
            have hP : va_P D vwCl (wX ci ad X (st X.1 1 (qn) (i)) tq la tt z) H := va_P.re (wX_t1 ci ad X X.1 tq la tt z (qn) (i)) hP
            have hD : va_D (aX ad) (wX ci ad X (st X.1 1 (qn) (i)) tq la tt z) := wX_D hI
            refine lv_aload_n hx hb dX3_fitting_67 rfl (lv_at hl 3 rfl) ?_
            refine lv_aload_n hx hb dX3_fitting_68 rfl (lv_at hl 3 rfl) ?_
            refine va_get (D := D) (ci := 3) (v := .ref (ad 1)) (C := RX3) (T := TX3) (N := 9) hx hb hts hinX3 hown hK hP 0 rfl rfl 5 (by decide) (hts (.fieldLink RX3 35 "OneShort" "sheets" "[LOneShort$Sheet;") (List.mem_of_getElem? (i := 3) rfl)) (fun _ h9 => h9) rfl dX3_fitting_69 ?_
            refine lv_iload_n hx hb dX3_fitting_72 rfl (lv_at hl 4 rfl) ?_
            refine nv_aald (v := .ref (ad (40 + 2 * (s_n)))) hx hb hK hP 1 1 rfl rfl (by omega) (by decide) rfl dX3_fitting_73 ?_
            refine lv_iload_n hx hb dX3_fitting_74 rfl (lv_at hl 5 rfl) ?_
            refine mu_V (n := 2) (As := [.ref (ad (40 + 2 * (s_n))), .int (nI qn)]) (rest := []) ⟨hx, hb, hml, hown, hts⟩ (c_X3_trialGoesAs l D ci G ka ad X (st X.1 1 (qn) (i)) tq la tt z hI hG (s_n) (qn) hWX (by omega) (by omega) (WF_st1 hWF qn (by omega))) gX3_fitting_X3_trialGoesAs rfl ⟨rfl, rfl⟩ (by decide +kernel) rfl ⟨Nat.le_of_ble_eq_true rfl, Nat.le_of_ble_eq_true rfl⟩ hE (en_S hGA hs0 hS) hK hP (ci := 3) (q0 := 0) rfl rfl hl.1 rfl (Nat.le_of_ble_eq_true rfl) dX3_fitting_75 ⟨Nat.zero_le _, Nat.zero_le _⟩ hS (fun _ h => h) (fun H1 locs hz hfr hB hS => ?_)
            obtain ⟨T, tq, la, tt, z, hP⟩ := hB
            generalize H1 = H at hP hS ⊢
            have hD : va_D (aX ad) (wX ci ad X T tq la tt z) := wX_D hI
            refine nv_ifeq_b (tgt := 90) hx hb dX3_fitting_78 (by decide) (fun c11 => ?_) (fun c11 => ?_)
            · refine nv_iinc1 (lv' := [(7, .int (nI (i + 1))), (6, .int (nI (setTo (fun v => goA (st X.1 1 qn v) (X.2.2.2.2.2.2.2.1 s_n) (X.2.2.2.2.2.2.2.2 s_n) qn) (i)))), (5, .int (-1)), (0, .ref (ad 0)), (1, .int (nI s_n)), (2, .int (nI qn)), (3, .ref (ad 18)), (4, .int (nI 7))]) hx hb dX3_fitting_90 hl (k := 1) rfl (by decide) rfl (fun ls hl => ?_)
              refine lv_goto (tgt := 44) hx hb dX3_fitting_93 (by decide) ?_
              exact ih44 (i + 1) (by omega) (by omega) (nI (setTo (fun v => goA (st X.1 1 qn v) (X.2.2.2.2.2.2.2.1 s_n) (X.2.2.2.2.2.2.2.2 s_n) qn) (i))) (nI (i + 1)) (nv_e (by first | exact setTo_t c11 | exact setTo_f c11)) rfl (T) (tq) (la) (tt) (z) _ _ hP hS ls (lv_sub hl [1, 0, 2, 3, 4, 5, 6, 7] rfl)
            · refine lv_iload hx hb dX3_fitting_81 (lv_at hl 0 rfl) ?_
              refine lv_iconst (v := nI (1)) hx hb dX3_fitting_83 (by decide) ?_
              refine lv_iload hx hb dX3_fitting_84 (lv_at hl 1 rfl) ?_
              refine nv_ishl hx hb (by omega) dX3_fitting_86 ?_
              refine nv_ior hx hb dX3_fitting_87 ?_
              refine lv_istore (lv' := [(6, .int (nI ((setTo (fun v => goA (st X.1 1 qn v) (X.2.2.2.2.2.2.2.1 s_n) (X.2.2.2.2.2.2.2.2 s_n) qn) (i) ||| (1 * 2 ^ (i)))))), (7, .int (nI i)), (5, .int (-1)), (0, .ref (ad 0)), (1, .int (nI s_n)), (2, .int (nI qn)), (3, .ref (ad 18)), (4, .int (nI 7))]) hx hb dX3_fitting_88 hl (by decide) rfl (fun ls hl => ?_)
              refine nv_iinc1 (lv' := [(7, .int (nI (i + 1))), (6, .int (nI ((setTo (fun v => goA (st X.1 1 qn v) (X.2.2.2.2.2.2.2.1 s_n) (X.2.2.2.2.2.2.2.2 s_n) qn) (i) ||| (1 * 2 ^ (i)))))), (5, .int (-1)), (0, .ref (ad 0)), (1, .int (nI s_n)), (2, .int (nI qn)), (3, .ref (ad 18)), (4, .int (nI 7))]) hx hb dX3_fitting_90 hl (k := 1) rfl (by decide) rfl (fun ls hl => ?_)
              refine lv_goto (tgt := 44) hx hb dX3_fitting_93 (by decide) ?_
              exact ih44 (i + 1) (by omega) (by omega) (nI ((setTo (fun v => goA (st X.1 1 qn v) (X.2.2.2.2.2.2.2.1 s_n) (X.2.2.2.2.2.2.2.2 s_n) qn) (i) ||| (1 * 2 ^ (i))))) (nI (i + 1)) (nv_e (by first | exact setTo_t c11 | exact setTo_f c11)) rfl (T) (tq) (la) (tt) (z) _ _ hP hS ls (lv_sub hl [1, 0, 2, 3, 4, 5, 6, 7] rfl)
      exact L44 _ (0) (Nat.lt_succ_self _) (by omega) (nI (0)) (nI (0)) rfl rfl (T) (tq) (la) (tt) (z) _ _ hP hS ls (lv_sub hl [1, 0, 2, 3, 4, 5, 6, 7] rfl)
    · refine lv_aload_n hx hb dX3_fitting_21 rfl (lv_at hl 1 rfl) ?_
      refine lv_iload hx hb dX3_fitting_22 (lv_at hl 0 rfl) ?_
      refine lv_iconst (v := -1) hx hb dX3_fitting_24 (by decide) ?_
      refine lv_icmp_eq (tgt := 33) hx hb dX3_fitting_25 (by decide) (fun _ => ?_) (fun h => absurd rfl h)
      refine lv_iconst (v := nI (0)) hx hb dX3_fitting_33 (by decide) ?_
      refine mu_V (n := 1) (As := [.int (nI 0)]) (rest := []) ⟨hx, hb, hml, hown, hts⟩ (c_X3_finding l D ci G ka ad X T tq la tt z hI hG (0) hWX (by omega)) gX3_fitting_X3_finding rfl ⟨rfl, rfl⟩ (by decide +kernel) rfl ⟨Nat.le_of_ble_eq_true rfl, Nat.le_of_ble_eq_true rfl⟩ hE (en_S hGA hs0 hS) hK hP (ci := 3) (q0 := 0) rfl rfl hl.1 rfl (Nat.le_of_ble_eq_true rfl) dX3_fitting_34 ⟨Nat.zero_le _, Nat.zero_le _⟩ hS (fun _ h => h) (fun H1 locs hz hfr hB hS => ?_)
      obtain ⟨T, tq, la, tt, z, hP⟩ := hB
      generalize H1 = H at hP hS ⊢
      have hD : va_D (aX ad) (wX ci ad (toF X (inc X.2.2.2.1 0)) T tq la tt z) := wX_D hI
      have hp : p_fitg 1 7 X (nI s_n) q = (fnd 0, toF X (inc X.2.2.2.1 0)) := by first | (simp [p_fitg, bk, fl_eq, inP, c1, c9, q6, t_s_n, h_bs_]; done) | (simp [p_fitg, bk, fl_eq, inP, show i = 7 by omega, c1, c9, q6, t_s_n, h_bs_]; done)
      refine nv_cv (show fnd 0 = (p_fitg 1 7 X (nI s_n) q).1 from by rw [hp]) ?_
      exact mu_iret hx hb hr hlocks hS ((by rw [hp]; exact ⟨_, _, _, _, _, hP⟩)) dX3_fitting_37
