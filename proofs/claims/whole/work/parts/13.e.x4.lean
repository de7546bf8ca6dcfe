/-! walks laid by program -/
set_option maxHeartbeats 4000000 in
set_option maxRecDepth 100000 in
/-- X4_odds -/
theorem c_X4_odds (l : Launch) (D : va_G) (ci : Nat → ClassId) (am : Nat → Nat) (X : AS) (kr : Nat → Int32) (q0 q1 q2 q3 q4 q5 : Int32) (iw : Bool) (kn : Nat → Option Nat) (y0 y1 y2 y3 y4 y5 y6 : Nat → Int32) (hI : injA am 16) (n w : Int32) (hWX : WFX X) (hkr : kOK X kr) : Met l yX4_odds wsX4_odds ({ frames := 1, cells := 0, slots := 0, locals := 22 } : Room) (va_Pc [.ref (am 0), .int (n), .int (w)] (ro_B D (tyL ci) (wN ci am X kr q0 q1 q2 q3 q4 q5 iw kn y0 y1 y2 y3 y4 y5 y6) (enT))) (mu_Q (aM am) (some (.long ((p_odds X n w).1))) (fun H => ∃ (kr : Nat → Int32) (q0 : Int32) (q1 : Int32) (q2 : Int32) (q3 : Int32) (q4 : Int32) (q5 : Int32) (iw : Bool) (y0 : Nat → Int32) (y1 : Nat → Int32) (y2 : Nat → Int32) (y3 : Nat → Int32) (y4 : Nat → Int32) (y5 : Nat → Int32) (y6 : Nat → Int32), kOK (p_odds X n w).2 kr ∧ va_P D vwCl (wN ci am ((p_odds X n w).2) kr q0 q1 q2 q3 q4 q5 iw kn y0 y1 y2 y3 y4 y5 y6) H)) 0 0 (aM am) := by
  refine mu_Met (cc := cX4_odds) (maxL := 8) (ret := (some .long)) [(0, .ref (am 0)), (1, .int (n)), (2, .int (w))] (wN_D hI) (by decide) rfl (Nat.le_of_ble_eq_true rfl) rfl ?_
  intro p e s m below meth c H locs hx hb hml hr hlocks hts hown hP hK hs0 hD hS ls hl
  have hown : s.vm.findClass RX4 = some m.cls := hown
  have hinX4 : ∀ w ∈ wsX40, w ∈ wsX4_odds := by decide +kernel
  have hE := hE_T
  have hWF := hWX.w
  have f_n := hWF.n
  have f_e := hWX.e
  have f_tl := hWX.t
  refine lv_iload_n hx hb dX4_odds_0 rfl (lv_at hl 1 rfl) ?_
  refine lv_iconst (v := nI (0)) hx hb dX4_odds_1 (by decide) ?_
  refine lv_bipush (v := nI (14)) hx hb dX4_odds_2 (by decide) ?_
  refine ro_S (n := 3) (As := [.int (n), .int (nI 0), .int (nI 14)]) (rest := []) ⟨hx, hb, hml, hown, hts⟩ (c_X4_within l D ci (wN ci am X kr q0 q1 q2 q3 q4 q5 iw kn y0 y1 y2 y3 y4 y5 y6) (n) (nI (0)) (nI (14)) ) gX4_odds_X4_within rfl ⟨rfl, rfl⟩ (by decide +kernel) rfl ⟨Nat.le_of_ble_eq_true rfl, Nat.le_of_ble_eq_true rfl⟩ hE trivial hK hP hl.1 rfl (Nat.le_of_ble_eq_true rfl) dX4_odds_4 ⟨Nat.zero_le _, Nat.zero_le _⟩ ?_
  refine nv_cv (congrArg bI (wth_in n 14 (by decide))) ?_
  refine nv_ifeq_b (tgt := 19) hx hb dX4_odds_7 (by decide) (fun c1 => ?_) (fun c1 => ?_)
  · refine lv_aload_n hx hb dX4_odds_19 rfl (lv_at hl 0 rfl) ?_
    refine lv_ldc (v := -1000001) hx hb hown (hts (.constant RX4 72 (-1000001)) (List.mem_of_getElem? (i := 1) rfl)) dX4_odds_20 ?_
    refine mu_V (n := 1) (As := [.int (-1000001)]) (rest := []) ⟨hx, hb, hml, hown, hts⟩ (c_X4_finding l D ci am X kr q0 q1 q2 q3 q4 q5 iw kn y0 y1 y2 y3 y4 y5 y6 hI (-1000001) (0) (by omega) (by decide)) gX4_odds_X4_finding rfl ⟨rfl, rfl⟩ (by decide +kernel) rfl ⟨Nat.le_of_ble_eq_true rfl, Nat.le_of_ble_eq_true rfl⟩ hE trivial hK hP (ci := 4) (q0 := 0) rfl rfl hl.1 rfl (Nat.le_of_ble_eq_true rfl) dX4_odds_22 ⟨Nat.zero_le _, Nat.zero_le _⟩ hS (fun _ h => h) (fun H1 locs hz hfr hB hS => ?_)
    have hP := hB
    have hP : va_P D vwCl (wN ci am (toF X (inc X.2.2.2.1 0)) kr q0 q1 q2 q3 q4 q5 iw kn y0 y1 y2 y3 y4 y5 y6) H1 := hP
    generalize H1 = H at hP hS ⊢
    have hD : va_D (aM am) (wN ci am (toF X (inc X.2.2.2.1 0)) kr q0 q1 q2 q3 q4 q5 iw kn y0 y1 y2 y3 y4 y5 y6) := wN_D hI
    refine lv_i2l hx hb dX4_odds_25 rfl ?_
    have hp : p_odds X n w = ((fnd 0).toInt64, toF X (inc X.2.2.2.1 0)) := by first | (simp [p_odds, c1]; done) | ((rw [show k = nn by omega, p_odds, t_nn, t_wn, if_pos (by rw [Bool.and_eq_true]; exact ⟨by assumption, by assumption⟩)]); done)
    refine nv_cvl (show (fnd 0).toInt64 = (p_odds X n w).1 from by rw [hp]) ?_
    exact mu_lret hx hb hr hlocks hS ((by rw [hp]; exact ⟨_, _, _, _, _, _, _, _, _, _, _, _, _, _, _, hkr, hP⟩)) dX4_odds_26
  · obtain ⟨nn, h_nn, rfl⟩ := in_ex c1 (by omega)
    have t_nn : tn (nI nn) = nn := tn_nI (by omega)
    refine lv_iload_n hx hb dX4_odds_10 rfl (lv_at hl 2 rfl) ?_
    refine lv_iconst (v := nI (0)) hx hb dX4_odds_11 (by decide) ?_
    refine lv_iconst (v := nI (1)) hx hb dX4_odds_12 (by decide) ?_
    refine ro_S (n := 3) (As := [.int (w), .int (nI 0), .int (nI 1)]) (rest := []) ⟨hx, hb, hml, hown, hts⟩ (c_X4_within l D ci (wN ci am X kr q0 q1 q2 q3 q4 q5 iw kn y0 y1 y2 y3 y4 y5 y6) (w) (nI (0)) (nI (1)) ) gX4_odds_X4_within rfl ⟨rfl, rfl⟩ (by decide +kernel) rfl ⟨Nat.le_of_ble_eq_true rfl, Nat.le_of_ble_eq_true rfl⟩ hE trivial hK hP hl.1 rfl (Nat.le_of_ble_eq_true rfl) dX4_odds_13 ⟨Nat.zero_le _, Nat.zero_le _⟩ ?_
    refine nv_cv (congrArg bI (wth_in w 1 (by decide))) ?_
    refine nv_ifne_b (tgt := 27) hx hb dX4_odds_16 (by decide) (fun c2 => ?_) (fun c2 => ?_)
    · obtain ⟨wn, h_wn, rfl⟩ := in_ex c2 (by omega)
      have t_wn : tn (nI wn) = wn := tn_nI (by omega)
      refine lv_bipush (v := nI (16)) hx hb dX4_odds_27 (by decide) ?_
      refine lv_aload_n hx hb dX4_odds_29 rfl (lv_at hl 0 rfl) ?_
      refine va_get (D := D) (ci := 4) (v := .ref (am 1)) (C := RX4) (T := TX4) (N := 24) hx hb hts hinX4 hown hK hP 0 rfl rfl 0 (by decide) (hts (.fieldLink RX4 9 "OneShortModel" "now" "[I") (List.mem_of_getElem? (i := 2) rfl)) (fun _ h9 => h9) rfl dX4_odds_30 ?_
      refine lv_iconst (v := nI (1)) hx hb dX4_odds_33 (by decide) ?_
      refine nv_iald (v := nI (X.1 7 0)) hx hb hK hP 1 0 rfl rfl (by omega) (by decide) (pk_n X.1) dX4_odds_34 ?_
      refine nv_isub hx hb (by omega) dX4_odds_35 ?_
      refine lv_istore_n (lv' := [(3, .int (nI ((16 - X.1 7 0)))), (0, .ref (am 0)), (1, .int (nI nn)), (2, .int (nI wn))]) hx hb dX4_odds_36 rfl hl (by decide) rfl (fun ls hl => ?_)
      refine lv_bipush (v := nI (16)) hx hb dX4_odds_37 (by decide) ?_
      refine lv_istore (lv' := [(4, .int (nI 16)), (3, .int (nI ((16 - X.1 7 0)))), (0, .ref (am 0)), (1, .int (nI nn)), (2, .int (nI wn))]) hx hb dX4_odds_39 hl (by decide) rfl (fun ls hl => ?_)
      have L41 : ∀ (k41 : Nat) (i : Nat), 5 - i < k41 → (i ≤ 4) → ∀ (x3 : Int32), ∀ (x4 : Int32), x3 = nI ((hvn (X.1 7 0) (i)).1) → x4 = nI ((hvn (X.1 7 0) (i)).2) → ∀ ls : Array Slot, lv_has ls 8 [(3, .int (x3)), (4, .int (x4)), (0, .ref (am 0)), (1, .int (nI nn)), (2, .int (nI wn))] → W p l e (headSpec wsX4_odds ({ frames := 1, cells := 0, slots := 0, locals := 22 } : Room)).room s m ([.ref (am 0), .int (nI nn), .int (nI wn)] : List Value).toArray below meth c H locs 0 0 (MQ below (mu_Q (aM am) (some (.long ((p_odds X (nI nn) (nI wn)).1))) (fun H => ∃ (kr : Nat → Int32) (q0 : Int32) (q1 : Int32) (q2 : Int32) (q3 : Int32) (q4 : Int32) (q5 : Int32) (iw : Bool) (y0 : Nat → Int32) (y1 : Nat → Int32) (y2 : Nat → Int32) (y3 : Nat → Int32) (y4 : Nat → Int32) (y5 : Nat → Int32) (y6 : Nat → Int32), kOK (p_odds X (nI nn) (nI wn)).2 kr ∧ va_P D vwCl (wN ci am ((p_odds X (nI nn) (nI wn)).2) kr q0 q1 q2 q3 q4 q5 iw kn y0 y1 y2 y3 y4 y5 y6) H)) ([.ref (am 0), .int (nI nn), .int (nI wn)] : List Value).toArray s 0 0 (aM am)) (F0 m 41 ls []) := by
        intro k41
        induction k41 with
        | zero => intro i h0; exact absurd h0 (Nat.not_lt_zero _)
        | succ k41 ih41 =>
          intro i hk41 h_i x3 x4 e3 e4 ls hl
          subst e3
          subst e4
          obtain ⟨f_h1, f_h2⟩ := hv_le (X.1 7 0) i
          refine lv_iload_n hx hb dX4_odds_41 rfl (lv_at hl 0 rfl) ?_
          refine lv_iconst (v := nI (2)) hx hb dX4_odds_42 (by decide) ?_
          refine nv_irem hx hb (by omega) (by omega) (by omega) dX4_odds_43 ?_
          refine nv_ifne (tgt := 67) hx hb (by omega) dX4_odds_44 (by decide) (fun c3 => ?_) (fun c3 => ?_)
          · have e_h := hv_1 (s := X.1 7 0) (k := i) (by omega) (by omega) (Or.inl c3)
            rw [e_h] at hl
            obtain ⟨f_h3, f_h4⟩ := hv_le (X.1 7 0) 4
            refine lv_lconst (v := 1) hx hb dX4_odds_67 (by decide) ?_
            refine lv_lstore (lv' := [(5, .long (1)), (3, .int (nI ((hvn (X.1 7 0) 4).1))), (4, .int (nI ((hvn (X.1 7 0) 4).2))), (0, .ref (am 0)), (1, .int (nI nn)), (2, .int (nI wn))]) hx hb dX4_odds_68 hl (by decide) rfl (fun ls hl => ?_)
            refine lv_iconst (v := nI (0)) hx hb dX4_odds_70 (by decide) ?_
            refine lv_istore (lv' := [(7, .int (nI 0)), (5, .long (1)), (3, .int (nI ((hvn (X.1 7 0) 4).1))), (4, .int (nI ((hvn (X.1 7 0) 4).2))), (0, .ref (am 0)), (1, .int (nI nn)), (2, .int (nI wn))]) hx hb dX4_odds_71 hl (by decide) rfl (fun ls hl => ?_)
            have L73 : ∀ (k73 : Nat) (k : Nat), nn - k < k73 → (k ≤ nn) → ∀ (x5 : Int64), ∀ (x7 : Int32), x5 = pwL (if wn = 0 then (hvn (X.1 7 0) 4).1 else (hvn (X.1 7 0) 4).2) (k) → x7 = nI (k) → ∀ ls : Array Slot, lv_has ls 8 [(5, .long (x5)), (7, .int (x7)), (3, .int (nI ((hvn (X.1 7 0) 4).1))), (4, .int (nI ((hvn (X.1 7 0) 4).2))), (0, .ref (am 0)), (1, .int (nI nn)), (2, .int (nI wn))] → W p l e (headSpec wsX4_odds ({ frames := 1, cells := 0, slots := 0, locals := 22 } : Room)).room s m ([.ref (am 0), .int (nI nn), .int (nI wn)] : List Value).toArray below meth c H locs 0 0 (MQ below (mu_Q (aM am) (some (.long ((p_odds X (nI nn) (nI wn)).1))) (fun H => ∃ (kr : Nat → Int32) (q0 : Int32) (q1 : Int32) (q2 : Int32) (q3 : Int32) (q4 : Int32) (q5 : Int32) (iw : Bool) (y0 : Nat → Int32) (y1 : Nat → Int32) (y2 : Nat → Int32) (y3 : Nat → Int32) (y4 : Nat → Int32) (y5 : Nat → Int32) (y6 : Nat → Int32), kOK (p_odds X (nI nn) (nI wn)).2 kr ∧ va_P D vwCl (wN ci am ((p_odds X (nI nn) (nI wn)).2) kr q0 q1 q2 q3 q4 q5 iw kn y0 y1 y2 y3 y4 y5 y6) H)) ([.ref (am 0), .int (nI nn), .int (nI wn)] : List Value).toArray s 0 0 (aM am)) (F0 m 73 ls []) := by
              intro k73
              induction k73 with
              | zero => intro k h0; exact absurd h0 (Nat.not_lt_zero _)
              | succ k73 ih73 =>
                intro k hk73 h_k x5 x7 e5 e7 ls hl
                subst e5
                subst e7
                refine lv_iload hx hb dX4_odds_73 (lv_at hl 1 rfl) ?_
                refine lv_iload_n hx hb dX4_odds_75 rfl (lv_at hl 5 rfl) ?_
                refine nv_icmp_ge (tgt := 102) hx hb (by omega) (by omega) dX4_odds_76 (by decide) (fun c4 => ?_) (fun c4 => ?_)
                · refine lv_lload hx hb dX4_odds_102 (lv_at hl 0 rfl) ?_
                  have hp : p_odds X (nI nn) (nI wn) = (pwL (if wn = 0 then (hvn (X.1 7 0) 4).1 else (hvn (X.1 7 0) 4).2) (k), X) := by first | (simp [p_odds, c1, c2, c3, c4, t_nn, t_wn]; done) | ((rw [show k = nn by omega, p_odds, t_nn, t_wn, if_pos (by rw [Bool.and_eq_true]; exact ⟨by assumption, by assumption⟩)]); done)
                  refine nv_cvl (show pwL (if wn = 0 then (hvn (X.1 7 0) 4).1 else (hvn (X.1 7 0) 4).2) (k) = (p_odds X (nI nn) (nI wn)).1 from by rw [hp]) ?_
                  exact mu_lret hx hb hr hlocks hS ((by rw [hp]; exact ⟨_, _, _, _, _, _, _, _, _, _, _, _, _, _, _, hkr, hP⟩)) dX4_odds_104
                · refine lv_lload hx hb dX4_odds_79 (lv_at hl 0 rfl) ?_
                  refine lv_iload_n hx hb dX4_odds_81 rfl (lv_at hl 6 rfl) ?_
                  refine nv_ifne (tgt := 90) hx hb (by omega) dX4_odds_82 (by decide) (fun c5 => ?_) (fun c5 => ?_)
                  · refine lv_iload hx hb dX4_odds_90 (lv_at hl 3 rfl) ?_
                    refine lv_i2l hx hb dX4_odds_92 rfl ?_
                    refine lv_lmul hx hb dX4_odds_93 ?_
                    refine lv_lstore (lv' := [(5, .long ((pwL (if wn = 0 then (hvn (X.1 7 0) 4).1 else (hvn (X.1 7 0) 4).2) (k) * (nI ((hvn (X.1 7 0) 4).2)).toInt64))), (7, .int (nI k)), (3, .int (nI ((hvn (X.1 7 0) 4).1))), (4, .int (nI ((hvn (X.1 7 0) 4).2))), (0, .ref (am 0)), (1, .int (nI nn)), (2, .int (nI wn))]) hx hb dX4_odds_94 hl (by decide) rfl (fun ls hl => ?_)
                    refine nv_iinc1 (lv' := [(7, .int (nI (k + 1))), (5, .long ((pwL (if wn = 0 then (hvn (X.1 7 0) 4).1 else (hvn (X.1 7 0) 4).2) (k) * (nI ((hvn (X.1 7 0) 4).2)).toInt64))), (3, .int (nI ((hvn (X.1 7 0) 4).1))), (4, .int (nI ((hvn (X.1 7 0) 4).2))), (0, .ref (am 0)), (1, .int (nI nn)), (2, .int (nI wn))]) hx hb dX4_odds_96 hl (k := 1) rfl (by decide) rfl (fun ls hl => ?_)
                    refine lv_goto (tgt := 73) hx hb dX4_odds_99 (by decide) ?_
                    exact ih73 (k + 1) (by omega) (by omega) ((pwL (if wn = 0 then (hvn (X.1 7 0) 4).1 else (hvn (X.1 7 0) 4).2) (k) * (nI ((hvn (X.1 7 0) 4).2)).toInt64)) (nI (k + 1)) (by first | (simp only [if_pos c5]; rfl) | (simp only [if_neg c5]; rfl)) rfl ls (lv_sub hl [1, 0, 2, 3, 4, 5, 6] rfl)
                  · refine lv_iload_n hx hb dX4_odds_85 rfl (lv_at hl 2 rfl) ?_
                    refine lv_i2l hx hb dX4_odds_86 rfl ?_
                    refine lv_goto (tgt := 93) hx hb dX4_odds_87 (by decide) ?_
                    refine lv_lmul hx hb dX4_odds_93 ?_
                    refine lv_lstore (lv' := [(5, .long ((pwL (if wn = 0 then (hvn (X.1 7 0) 4).1 else (hvn (X.1 7 0) 4).2) (k) * (nI ((hvn (X.1 7 0) 4).1)).toInt64))), (7, .int (nI k)), (3, .int (nI ((hvn (X.1 7 0) 4).1))), (4, .int (nI ((hvn (X.1 7 0) 4).2))), (0, .ref (am 0)), (1, .int (nI nn)), (2, .int (nI wn))]) hx hb dX4_odds_94 hl (by decide) rfl (fun ls hl => ?_)
                    refine nv_iinc1 (lv' := [(7, .int (nI (k + 1))), (5, .long ((pwL (if wn = 0 then (hvn (X.1 7 0) 4).1 else (hvn (X.1 7 0) 4).2) (k) * (nI ((hvn (X.1 7 0) 4).1)).toInt64))), (3, .int (nI ((hvn (X.1 7 0) 4).1))), (4, .int (nI ((hvn (X.1 7 0) 4).2))), (0, .ref (am 0)), (1, .int (nI nn)), (2, .int (nI wn))]) hx hb dX4_odds_96 hl (k := 1) rfl (by decide) rfl (fun ls hl => ?_)
                    refine lv_goto (tgt := 73) hx hb dX4_odds_99 (by decide) ?_
                    exact ih73 (k + 1) (by omega) (by omega) ((pwL (if wn = 0 then (hvn (X.1 7 0) 4).1 else (hvn (X.1 7 0) 4).2) (k) * (nI ((hvn (X.1 7 0) 4).1)).toInt64)) (nI (k + 1)) (by first | (simp only [if_pos c5]; rfl) | (simp only [if_neg c5]; rfl)) rfl ls (lv_sub hl [1, 0, 2, 3, 4, 5, 6] rfl)
            exact L73 _ (0) (Nat.lt_succ_self _) (by omega) (1) (nI (0)) rfl rfl ls (lv_sub hl [1, 0, 2, 3, 4, 5, 6] rfl)
          · refine lv_iload hx hb dX4_odds_47 (lv_at hl 1 rfl) ?_
            refine lv_iconst (v := nI (2)) hx hb dX4_odds_49 (by decide) ?_
            refine nv_irem hx hb (by omega) (by omega) (by omega) dX4_odds_50 ?_
            refine nv_ifne (tgt := 67) hx hb (by omega) dX4_odds_51 (by decide) (fun c6 => ?_) (fun c6 => ?_)
            · have e_h := hv_1 (s := X.1 7 0) (k := i) (by omega) (by omega) (Or.inr c6)
              rw [e_h] at hl
              obtain ⟨f_h3, f_h4⟩ := hv_le (X.1 7 0) 4
              refine lv_lconst (v := 1) hx hb dX4_odds_67 (by decide) ?_
              refine lv_lstore (lv' := [(5, .long (1)), (3, .int (nI ((hvn (X.1 7 0) 4).1))), (4, .int (nI ((hvn (X.1 7 0) 4).2))), (0, .ref (am 0)), (1, .int (nI nn)), (2, .int (nI wn))]) hx hb dX4_odds_68 hl (by decide) rfl (fun ls hl => ?_)
              refine lv_iconst (v := nI (0)) hx hb dX4_odds_70 (by decide) ?_
              refine lv_istore (lv' := [(7, .int (nI 0)), (5, .long (1)), (3, .int (nI ((hvn (X.1 7 0) 4).1))), (4, .int (nI ((hvn (X.1 7 0) 4).2))), (0, .ref (am 0)), (1, .int (nI nn)), (2, .int (nI wn))]) hx hb dX4_odds_71 hl (by decide) rfl (fun ls hl => ?_)
              have L73 : ∀ (k73 : Nat) (k : Nat), nn - k < k73 → (k ≤ nn) → ∀ (x5 : Int64), ∀ (x7 : Int32), x5 = pwL (if wn = 0 then (hvn (X.1 7 0) 4).1 else (hvn (X.1 7 0) 4).2) (k) → x7 = nI (k) → ∀ ls : Array Slot, lv_has ls 8 [(5, .long (x5)), (7, .int (x7)), (3, .int (nI ((hvn (X.1 7 0) 4).1))), (4, .int (nI ((hvn (X.1 7 0) 4).2))), (0, .ref (am 0)), (1, .int (nI nn)), (2, .int (nI wn))] → W p l e (headSpec wsX4_odds ({ frames := 1, cells := 0, slots := 0, locals := 22 } : Room)).room s m ([.ref (am 0), .int (nI nn), .int (nI wn)] : List Value).toArray below meth c H locs 0 0 (MQ below (mu_Q (aM am) (some (.long ((p_odds X (nI nn) (nI wn)).1))) (fun H => ∃ (kr : Nat → Int32) (q0 : Int32) (q1 : Int32) (q2 : Int32) (q3 : Int32) (q4 : Int32) (q5 : Int32) (iw : Bool) (y0 : Nat → Int32) (y1 : Nat → Int32) (y2 : Nat → Int32) (y3 : Nat → Int32) (y4 : Nat → Int32) (y5 : Nat → Int32) (y6 : Nat → Int32), kOK (p_odds X (nI nn) (nI wn)).2 kr ∧ va_P D vwCl (wN ci am ((p_odds X (nI nn) (nI wn)).2) kr q0 q1 q2 q3 q4 q5 iw kn y0 y1 y2 y3 y4 y5 y6) H)) ([.ref (am 0), .int (nI nn), .int (nI wn)] : List Value).toArray s 0 0 (aM am)) (F0 m 73 ls []) := by
                intro k73
                induction k73 with
                | zero => intro k h0; exact absurd h0 (Nat.not_lt_zero _)
                | succ k73 ih73 =>
                  intro k hk73 h_k x5 x7 e5 e7 ls hl
                  subst e5
                  subst e7
                  refine lv_iload hx hb dX4_odds_73 (lv_at hl 1 rfl) ?_
                  refine lv_iload_n hx hb dX4_odds_75 rfl (lv_at hl 5 rfl) ?_
                  refine nv_icmp_ge (tgt := 102) hx hb (by omega) (by omega) dX4_odds_76 (by decide) (fun c7 => ?_) (fun c7 => ?_)
                  · refine lv_lload hx hb dX4_odds_102 (lv_at hl 0 rfl) ?_
                    have hp : p_odds X (nI nn) (nI wn) = (pwL (if wn = 0 then (hvn (X.1 7 0) 4).1 else (hvn (X.1 7 0) 4).2) (k), X) := by first | (simp [p_odds, c1, c2, c3, c6, c7, t_nn, t_wn]; done) | ((rw [show k = nn by omega, p_odds, t_nn, t_wn, if_pos (by rw [Bool.and_eq_true]; exact ⟨by assumption, by assumption⟩)]); done)
                    refine nv_cvl (show pwL (if wn = 0 then (hvn (X.1 7 0) 4).1 else (hvn (X.1 7 0) 4).2) (k) = (p_odds X (nI nn) (nI wn)).1 from by rw [hp]) ?_
                    exact mu_lret hx hb hr hlocks hS ((by rw [hp]; exact ⟨_, _, _, _, _, _, _, _, _, _, _, _, _, _, _, hkr, hP⟩)) dX4_odds_104
                  · refine lv_lload hx hb dX4_odds_79 (lv_at hl 0 rfl) ?_
                    refine lv_iload_n hx hb dX4_odds_81 rfl (lv_at hl 6 rfl) ?_
                    refine nv_ifne (tgt := 90) hx hb (by omega) dX4_odds_82 (by decide) (fun c8 => ?_) (fun c8 => ?_)
                    · refine lv_iload hx hb dX4_odds_90 (lv_at hl 3 rfl) ?_
                      refine lv_i2l hx hb dX4_odds_92 rfl ?_
                      refine lv_lmul hx hb dX4_odds_93 ?_
                      refine lv_lstore (lv' := [(5, .long ((pwL (if wn = 0 then (hvn (X.1 7 0) 4).1 else (hvn (X.1 7 0) 4).2) (k) * (nI ((hvn (X.1 7 0) 4).2)).toInt64))), (7, .int (nI k)), (3, .int (nI ((hvn (X.1 7 0) 4).1))), (4, .int (nI ((hvn (X.1 7 0) 4).2))), (0, .ref (am 0)), (1, .int (nI nn)), (2, .int (nI wn))]) hx hb dX4_odds_94 hl (by decide) rfl (fun ls hl => ?_)
                      refine nv_iinc1 (lv' := [(7, .int (nI (k + 1))), (5, .long ((pwL (if wn = 0 then (hvn (X.1 7 0) 4).1 else (hvn (X.1 7 0) 4).2) (k) * (nI ((hvn (X.1 7 0) 4).2)).toInt64))), (3, .int (nI ((hvn (X.1 7 0) 4).1))), (4, .int (nI ((hvn (X.1 7 0) 4).2))), (0, .ref (am 0)), (1, .int (nI nn)), (2, .int (nI wn))]) hx hb dX4_odds_96 hl (k := 1) rfl (by decide) rfl (fun ls hl => ?_)
                      refine lv_goto (tgt := 73) hx hb dX4_odds_99 (by decide) ?_
                      exact ih73 (k + 1) (by omega) (by omega) ((pwL (if wn = 0 then (hvn (X.1 7 0) 4).1 else (hvn (X.1 7 0) 4).2) (k) * (nI ((hvn (X.1 7 0) 4).2)).toInt64)) (nI (k + 1)) (by first | (simp only [if_pos c8]; rfl) | (simp only [if_neg c8]; rfl)) rfl ls (lv_sub hl [1, 0, 2, 3, 4, 5, 6] rfl)
                    · refine lv_iload_n hx hb dX4_odds_85 rfl (lv_at hl 2 rfl) ?_
                      refine lv_i2l hx hb dX4_odds_86 rfl ?_
                      refine lv_goto (tgt := 93) hx hb dX4_odds_87 (by decide) ?_
                      refine lv_lmul hx hb dX4_odds_93 ?_
                      refine lv_lstore (lv' := [(5, .long ((pwL (if wn = 0 then (hvn (X.1 7 0) 4).1 else (hvn (X.1 7 0) 4).2) (k) * (nI ((hvn (X.1 7 0) 4).1)).toInt64))), (7, .int (nI k)), (3, .int (nI ((hvn (X.1 7 0) 4).1))), (4, .int (nI ((hvn (X.1 7 0) 4).2))), (0, .ref (am 0)), (1, .int (nI nn)), (2, .int (nI wn))]) hx hb dX4_odds_94 hl (by decide) rfl (fun ls hl => ?_)
                      refine nv_iinc1 (lv' := [(7, .int (nI (k + 1))), (5, .long ((pwL (if wn = 0 then (hvn (X.1 7 0) 4).1 else (hvn (X.1 7 0) 4).2) (k) * (nI ((hvn (X.1 7 0) 4).1)).toInt64))), (3, .int (nI ((hvn (X.1 7 0) 4).1))), (4, .int (nI ((hvn (X.1 7 0) 4).2))), (0, .ref (am 0)), (1, .int (nI nn)), (2, .int (nI wn))]) hx hb dX4_odds_96 hl (k := 1) rfl (by decide) rfl (fun ls hl => ?_)
                      refine lv_goto (tgt := 73) hx hb dX4_odds_99 (by decide) ?_
                      exact ih73 (k + 1) (by omega) (by omega) ((pwL (if wn = 0 then (hvn (X.1 7 0) 4).1 else (hvn (X.1 7 0) 4).2) (k) * (nI ((hvn (X.1 7 0) 4).1)).toInt64)) (nI (k + 1)) (by first | (simp only [if_pos c8]; rfl) | (simp only [if_neg c8]; rfl)) rfl ls (lv_sub hl [1, 0, 2, 3, 4, 5, 6] rfl)
              exact L73 _ (0) (Nat.lt_succ_self _) (by omega) (1) (nI (0)) rfl rfl ls (lv_sub hl [1, 0, 2, 3, 4, 5, 6] rfl)
            · refine lv_iload_n hx hb dX4_odds_54 rfl (lv_at hl 0 rfl) ?_
              refine lv_iconst (v := nI (2)) hx hb dX4_odds_55 (by decide) ?_
              refine nv_idiv hx hb (by omega) (by omega) (by omega) dX4_odds_56 ?_
              refine lv_istore_n (lv' := [(3, .int (nI (((hvn (X.1 7 0) (i)).1 / 2)))), (4, .int (nI ((hvn (X.1 7 0) (i)).2))), (0, .ref (am 0)), (1, .int (nI nn)), (2, .int (nI wn))]) hx hb dX4_odds_57 rfl hl (by decide) rfl (fun ls hl => ?_)
              refine lv_iload hx hb dX4_odds_58 (lv_at hl 1 rfl) ?_
              refine lv_iconst (v := nI (2)) hx hb dX4_odds_60 (by decide) ?_
              refine nv_idiv hx hb (by omega) (by omega) (by omega) dX4_odds_61 ?_
              refine lv_istore (lv' := [(4, .int (nI (((hvn (X.1 7 0) (i)).2 / 2)))), (3, .int (nI (((hvn (X.1 7 0) (i)).1 / 2)))), (0, .ref (am 0)), (1, .int (nI nn)), (2, .int (nI wn))]) hx hb dX4_odds_62 hl (by decide) rfl (fun ls hl => ?_)
              refine lv_goto (tgt := 41) hx hb dX4_odds_64 (by decide) ?_
              exact ih41 (i + 1) (by omega) (hv_more (s := X.1 7 0) (by omega) (by omega) c3 c6) (nI (((hvn (X.1 7 0) (i)).1 / 2))) (nI (((hvn (X.1 7 0) (i)).2 / 2))) (nv_e (by exact (congrArg Prod.fst (hv_t c3 c6)).symm)) (nv_e (by exact (congrArg Prod.snd (hv_t c3 c6)).symm)) ls (lv_sub hl [1, 0, 2, 3, 4] rfl)
      exact L41 _ (0) (Nat.lt_succ_self _) (by omega) (nI ((16 - X.1 7 0))) (nI (16)) rfl rfl ls (lv_sub hl [1, 0, 2, 3, 4] rfl)
    · refine lv_aload_n hx hb dX4_odds_19 rfl (lv_at hl 0 rfl) ?_
      refine lv_ldc (v := -1000001) hx hb hown (hts (.constant RX4 72 (-1000001)) (List.mem_of_getElem? (i := 1) rfl)) dX4_odds_20 ?_
      refine mu_V (n := 1) (As := [.int (-1000001)]) (rest := []) ⟨hx, hb, hml, hown, hts⟩ (c_X4_finding l D ci am X kr q0 q1 q2 q3 q4 q5 iw kn y0 y1 y2 y3 y4 y5 y6 hI (-1000001) (0) (by omega) (by decide)) gX4_odds_X4_finding rfl ⟨rfl, rfl⟩ (by decide +kernel) rfl ⟨Nat.le_of_ble_eq_true rfl, Nat.le_of_ble_eq_true rfl⟩ hE trivial hK hP (ci := 4) (q0 := 0) rfl rfl hl.1 rfl (Nat.le_of_ble_eq_true rfl) dX4_odds_22 ⟨Nat.zero_le _, Nat.zero_le _⟩ hS (fun _ h => h) (fun H1 locs hz hfr hB hS => ?_)
      have hP := hB
      have hP : va_P D vwCl (wN ci am (toF X (inc X.2.2.2.1 0)) kr q0 q1 q2 q3 q4 q5 iw kn y0 y1 y2 y3 y4 y5 y6) H1 := hP
      generalize H1 = H at hP hS ⊢
      have hD : va_D (aM am) (wN ci am (toF X (inc X.2.2.2.1 0)) kr q0 q1 q2 q3 q4 q5 iw kn y0 y1 y2 y3 y4 y5 y6) := wN_D hI
      refine lv_i2l hx hb dX4_odds_25 rfl ?_
      have hp : p_odds X (nI nn) w = ((fnd 0).toInt64, toF X (inc X.2.2.2.1 0)) := by first | (simp [p_odds, c1, c2, t_nn]; done) | ((rw [show k = nn by omega, p_odds, t_nn, t_wn, if_pos (by rw [Bool.and_eq_true]; exact ⟨by assumption, by assumption⟩)]); done)
      refine nv_cvl (show (fnd 0).toInt64 = (p_odds X (nI nn) w).1 from by rw [hp]) ?_
      exact mu_lret hx hb hr hlocks hS ((by rw [hp]; exact ⟨_, _, _, _, _, _, _, _, _, _, _, _, _, _, _, hkr, hP⟩)) dX4_odds_26
