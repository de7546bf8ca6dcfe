/-! walks laid by program -/
set_option maxHeartbeats 4000000 in
set_option maxRecDepth 100000 in
/-- X3_odds -/
theorem c_X3_odds (l : Launch) (D : va_G) (ci : Nat → ClassId) (G : Nat → Prop) (ka : Nat) (ad : Nat → Nat) (X : AS) (T : OS) (tq la tt : Nat → Int32) (z : Nat → Nat → Int32) (hI : injA ad 48) (hG : ∀ k, k < 48 → G (ad k)) (n w : Int32) (hWX : WFX X) : Met l yX3_odds wsX3_odds ({ frames := 1, cells := 0, slots := 0, locals := 21 } : Room) (va_Pc [.ref (ad 0), .int (n), .int (w)] (ro_B D (tyL ci) (wX ci ad X T tq la tt z) (en D (ci 0) G ka))) (mu_Q (aX ad) (some (.long ((p_odds X n w).1))) (fun H => ∃ T tq la tt z, va_P D vwCl (wX ci ad ((p_odds X n w).2) T tq la tt z) H)) 0 0 (aX ad) := by
  refine mu_Met (cc := cX3_odds) (maxL := 9) (ret := (some .long)) [(0, .ref (ad 0)), (1, .int (n)), (2, .int (w))] (wX_D hI) (by decide) rfl (Nat.le_of_ble_eq_true rfl) rfl ?_
  intro p e s m below meth c H locs hx hb hml hr hlocks hts hown hP hK hs0 hD hS ls hl
  have hown : s.vm.findClass RX3 = some m.cls := hown
  have hinX0 : ∀ w ∈ wsX00, w ∈ wsX3_odds := by decide +kernel
  have hinX3 : ∀ w ∈ wsX30, w ∈ wsX3_odds := by decide +kernel
  have hE := hE_en D (ci 0) G ka
  have hWF := hWX.w
  have f_n := hWF.n
  have f_e := hWX.e
  have f_tl := hWX.t
  have hGA := aX_G hG
  have hWK := hWX.k
  refine lv_iload_n hx hb dX3_odds_0 rfl (lv_at hl 1 rfl) ?_
  refine lv_if_lt (tgt := 19) hx hb dX3_odds_1 (by decide) (fun c1 => ?_) (fun c1 => ?_)
  · have i2 : ∀ u9, inN n u9 = false := fun u9 => in_f0 c1
    refine lv_aload_n hx hb dX3_odds_19 rfl (lv_at hl 0 rfl) ?_
    refine lv_iconst (v := nI (0)) hx hb dX3_odds_20 (by decide) ?_
    refine mu_V (n := 1) (As := [.int (nI 0)]) (rest := []) ⟨hx, hb, hml, hown, hts⟩ (c_X3_finding l D ci G ka ad X T tq la tt z hI hG (0) hWX (by omega)) gX3_odds_X3_finding rfl ⟨rfl, rfl⟩ (by decide +kernel) rfl ⟨Nat.le_of_ble_eq_true rfl, Nat.le_of_ble_eq_true rfl⟩ hE (en_S hGA hs0 hS) hK hP (ci := 3) (q0 := 0) rfl rfl hl.1 rfl (Nat.le_of_ble_eq_true rfl) dX3_odds_21 ⟨Nat.zero_le _, Nat.zero_le _⟩ hS (fun _ h => h) (fun H1 locs hz hfr hB hS => ?_)
    obtain ⟨T, tq, la, tt, z, hP⟩ := hB
    generalize H1 = H at hP hS ⊢
    have hD : va_D (aX ad) (wX ci ad (toF X (inc X.2.2.2.1 0)) T tq la tt z) := wX_D hI
    refine lv_i2l hx hb dX3_odds_24 rfl ?_
    have hp : p_odds X n w = ((fnd 0).toInt64, toF X (inc X.2.2.2.1 0)) := by first | (simp [p_odds, c1, i2]; done) | ((rw [show k = nn by omega, p_odds, t_nn, t_wn, if_pos (by rw [Bool.and_eq_true]; exact ⟨by assumption, by assumption⟩)]); done)
    refine nv_cvl (show (fnd 0).toInt64 = (p_odds X n w).1 from by rw [hp]) ?_
    exact mu_lret hx hb hr hlocks hS ((by rw [hp]; exact ⟨_, _, _, _, _, hP⟩)) dX3_odds_25
  · refine lv_iload_n hx hb dX3_odds_4 rfl (lv_at hl 1 rfl) ?_
    refine lv_bipush (v := nI (14)) hx hb dX3_odds_5 (by decide) ?_
    refine lv_icmp_gt (tgt := 19) hx hb dX3_odds_7 (by decide) (fun c3 => ?_) (fun c3 => ?_)
    · have i4 : inN n 15 = false := in_f3 (by omega) (Int32.not_le.mpr c3)
      refine lv_aload_n hx hb dX3_odds_19 rfl (lv_at hl 0 rfl) ?_
      refine lv_iconst (v := nI (0)) hx hb dX3_odds_20 (by decide) ?_
      refine mu_V (n := 1) (As := [.int (nI 0)]) (rest := []) ⟨hx, hb, hml, hown, hts⟩ (c_X3_finding l D ci G ka ad X T tq la tt z hI hG (0) hWX (by omega)) gX3_odds_X3_finding rfl ⟨rfl, rfl⟩ (by decide +kernel) rfl ⟨Nat.le_of_ble_eq_true rfl, Nat.le_of_ble_eq_true rfl⟩ hE (en_S hGA hs0 hS) hK hP (ci := 3) (q0 := 0) rfl rfl hl.1 rfl (Nat.le_of_ble_eq_true rfl) dX3_odds_21 ⟨Nat.zero_le _, Nat.zero_le _⟩ hS (fun _ h => h) (fun H1 locs hz hfr hB hS => ?_)
      obtain ⟨T, tq, la, tt, z, hP⟩ := hB
      generalize H1 = H at hP hS ⊢
      have hD : va_D (aX ad) (wX ci ad (toF X (inc X.2.2.2.1 0)) T tq la tt z) := wX_D hI
      refine lv_i2l hx hb dX3_odds_24 rfl ?_
      have hp : p_odds X n w = ((fnd 0).toInt64, toF X (inc X.2.2.2.1 0)) := by first | (simp [p_odds, c1, c3, i4]; done) | ((rw [show k = nn by omega, p_odds, t_nn, t_wn, if_pos (by rw [Bool.and_eq_true]; exact ⟨by assumption, by assumption⟩)]); done)
      refine nv_cvl (show (fnd 0).toInt64 = (p_odds X n w).1 from by rw [hp]) ?_
      exact mu_lret hx hb hr hlocks hS ((by rw [hp]; exact ⟨_, _, _, _, _, hP⟩)) dX3_odds_25
    · have i5 : inN n 15 = true := in_t3 (by omega) c1 (Int32.not_lt.mp c3)
      obtain ⟨nn, h_nn, rfl⟩ := in_ex i5 (by omega)
      have t_nn : tn (nI nn) = nn := tn_nI (by omega)
      refine lv_iload_n hx hb dX3_odds_10 rfl (lv_at hl 2 rfl) ?_
      refine lv_if_lt (tgt := 19) hx hb dX3_odds_11 (by decide) (fun c6 => ?_) (fun c6 => ?_)
      · have i7 : ∀ u9, inN w u9 = false := fun u9 => in_f0 c6
        refine lv_aload_n hx hb dX3_odds_19 rfl (lv_at hl 0 rfl) ?_
        refine lv_iconst (v := nI (0)) hx hb dX3_odds_20 (by decide) ?_
        refine mu_V (n := 1) (As := [.int (nI 0)]) (rest := []) ⟨hx, hb, hml, hown, hts⟩ (c_X3_finding l D ci G ka ad X T tq la tt z hI hG (0) hWX (by omega)) gX3_odds_X3_finding rfl ⟨rfl, rfl⟩ (by decide +kernel) rfl ⟨Nat.le_of_ble_eq_true rfl, Nat.le_of_ble_eq_true rfl⟩ hE (en_S hGA hs0 hS) hK hP (ci := 3) (q0 := 0) rfl rfl hl.1 rfl (Nat.le_of_ble_eq_true rfl) dX3_odds_21 ⟨Nat.zero_le _, Nat.zero_le _⟩ hS (fun _ h => h) (fun H1 locs hz hfr hB hS => ?_)
        obtain ⟨T, tq, la, tt, z, hP⟩ := hB
        generalize H1 = H at hP hS ⊢
        have hD : va_D (aX ad) (wX ci ad (toF X (inc X.2.2.2.1 0)) T tq la tt z) := wX_D hI
        refine lv_i2l hx hb dX3_odds_24 rfl ?_
        have hp : p_odds X (nI nn) w = ((fnd 0).toInt64, toF X (inc X.2.2.2.1 0)) := by first | (simp [p_odds, c1, c3, c6, i5, t_nn, i7]; done) | ((rw [show k = nn by omega, p_odds, t_nn, t_wn, if_pos (by rw [Bool.and_eq_true]; exact ⟨by assumption, by assumption⟩)]); done)
        refine nv_cvl (show (fnd 0).toInt64 = (p_odds X (nI nn) w).1 from by rw [hp]) ?_
        exact mu_lret hx hb hr hlocks hS ((by rw [hp]; exact ⟨_, _, _, _, _, hP⟩)) dX3_odds_25
      · refine lv_iload_n hx hb dX3_odds_14 rfl (lv_at hl 2 rfl) ?_
        refine lv_iconst (v := nI (1)) hx hb dX3_odds_15 (by decide) ?_
        refine lv_icmp_le (tgt := 26) hx hb dX3_odds_16 (by decide) (fun c8 => ?_) (fun c8 => ?_)
        · have i9 : inN w 2 = true := in_t3 (by omega) c6 c8
          obtain ⟨wn, h_wn, rfl⟩ := in_ex i9 (by omega)
          have t_wn : tn (nI wn) = wn := tn_nI (by omega)
          refine lv_bipush (v := nI (16)) hx hb dX3_odds_26 (by decide) ?_
          refine lv_aload_n hx hb dX3_odds_28 rfl (lv_at hl 0 rfl) ?_
          refine va_get (D := D) (ci := 3) (v := .ref (ad 5)) (C := RX3) (T := TX3) (N := 9) hx hb hts hinX3 hown hK hP 0 rfl rfl 0 (by decide) (hts (.fieldLink RX3 10 "OneShort" "orchestra" "LOneShort$Orchestra;") (List.mem_of_getElem? (i := 1) rfl)) (fun _ h9 => h9) rfl dX3_odds_29 ?_
          refine va_get (D := D) (ci := 0) (v := .int (nI (X.1 7 0))) (C := RX0) (T := TX0) (N := 13) hx hb hts hinX0 hown hK hP 5 rfl rfl 7 (by decide) (hts (.fieldLink RX3 73 "OneShort$Orchestra" "size" "I") (List.mem_of_getElem? (i := 2) rfl)) (fun _ h9 => h9) rfl dX3_odds_32 ?_
          refine nv_isub hx hb (by omega) dX3_odds_35 ?_
          refine lv_istore_n (lv' := [(3, .int (nI ((16 - X.1 7 0)))), (0, .ref (ad 0)), (1, .int (nI nn)), (2, .int (nI wn))]) hx hb dX3_odds_36 rfl hl (by decide) rfl (fun ls hl => ?_)
          refine lv_bipush (v := nI (16)) hx hb dX3_odds_37 (by decide) ?_
          refine lv_istore (lv' := [(4, .int (nI 16)), (3, .int (nI ((16 - X.1 7 0)))), (0, .ref (ad 0)), (1, .int (nI nn)), (2, .int (nI wn))]) hx hb dX3_odds_39 hl (by decide) rfl (fun ls hl => ?_)
          refine lv_iconst (v := nI (0)) hx hb dX3_odds_41 (by decide) ?_
          refine lv_istore (lv' := [(5, .int (nI 0)), (4, .int (nI 16)), (3, .int (nI ((16 - X.1 7 0)))), (0, .ref (ad 0)), (1, .int (nI nn)), (2, .int (nI wn))]) hx hb dX3_odds_42 hl (by decide) rfl (fun ls hl => ?_)
          have L44 : ∀ (k44 : Nat) (i : Nat), 4 - i < k44 → (i ≤ 4) → ∀ (x3 : Int32), ∀ (x4 : Int32), ∀ (x5 : Int32), x3 = nI ((hvn (X.1 7 0) (i)).1) → x4 = nI ((hvn (X.1 7 0) (i)).2) → x5 = nI (i) → ∀ ls : Array Slot, lv_has ls 9 [(3, .int (x3)), (4, .int (x4)), (5, .int (x5)), (0, .ref (ad 0)), (1, .int (nI nn)), (2, .int (nI wn))] → W p l e (headSpec wsX3_odds ({ frames := 1, cells := 0, slots := 0, locals := 21 } : Room)).room s m ([.ref (ad 0), .int (nI nn), .int (nI wn)] : List Value).toArray below meth c H locs 0 0 (MQ below (mu_Q (aX ad) (some (.long ((p_odds X (nI nn) (nI wn)).1))) (fun H => ∃ T tq la tt z, va_P D vwCl (wX ci ad ((p_odds X (nI nn) (nI wn)).2) T tq la tt z) H)) ([.ref (ad 0), .int (nI nn), .int (nI wn)] : List Value).toArray s 0 0 (aX ad)) (F0 m 44 ls []) := by
            intro k44
            induction k44 with
            | zero => intro i h0; exact absurd h0 (Nat.not_lt_zero _)
            | succ k44 ih44 =>
              intro i hk44 h_i x3 x4 x5 e3 e4 e5 ls hl
              subst e3
              subst e4
              subst e5
              obtain ⟨f_h1, f_h2⟩ := hv_le (X.1 7 0) i
              refine lv_iload hx hb dX3_odds_44 (lv_at hl 2 rfl) ?_
              refine lv_iconst (v := nI (4)) hx hb dX3_odds_46 (by decide) ?_
              refine nv_icmp_ge (tgt := 79) hx hb (by omega) (by omega) dX3_odds_47 (by decide) (fun c10 => ?_) (fun c10 => ?_)
              · have e_i : i = 4 := by omega
                subst e_i
                refine lv_iload_n hx hb dX3_odds_79 rfl (lv_at hl 5 rfl) ?_
                refine nv_ifne (tgt := 87) hx hb (by omega) dX3_odds_80 (by decide) (fun c11 => ?_) (fun c11 => ?_)
                · refine lv_iload hx hb dX3_odds_87 (lv_at hl 1 rfl) ?_
                  refine lv_istore (lv' := [(5, .int (nI ((hvn (X.1 7 0) (4)).2))), (3, .int (nI ((hvn (X.1 7 0) (4)).1))), (4, .int (nI ((hvn (X.1 7 0) (4)).2))), (0, .ref (ad 0)), (1, .int (nI nn)), (2, .int (nI wn))]) hx hb dX3_odds_89 hl (by decide) rfl (fun ls hl => ?_)
                  refine lv_lconst (v := 1) hx hb dX3_odds_91 (by decide) ?_
                  refine lv_lstore (lv' := [(6, .long (1)), (5, .int (nI ((hvn (X.1 7 0) (4)).2))), (3, .int (nI ((hvn (X.1 7 0) (4)).1))), (4, .int (nI ((hvn (X.1 7 0) (4)).2))), (0, .ref (ad 0)), (1, .int (nI nn)), (2, .int (nI wn))]) hx hb dX3_odds_92 hl (by decide) rfl (fun ls hl => ?_)
                  refine lv_iconst (v := nI (0)) hx hb dX3_odds_94 (by decide) ?_
                  refine lv_istore (lv' := [(8, .int (nI 0)), (6, .long (1)), (5, .int (nI ((hvn (X.1 7 0) (4)).2))), (3, .int (nI ((hvn (X.1 7 0) (4)).1))), (4, .int (nI ((hvn (X.1 7 0) (4)).2))), (0, .ref (ad 0)), (1, .int (nI nn)), (2, .int (nI wn))]) hx hb dX3_odds_95 hl (by decide) rfl (fun ls hl => ?_)
                  have L97 : ∀ (k97 : Nat) (k : Nat), nn - k < k97 → (k ≤ nn) → ∀ (x5 : Int32), ∀ (x6 : Int64), ∀ (x8 : Int32), x5 = nI ((if wn = 0 then (hvn (X.1 7 0) 4).1 else (hvn (X.1 7 0) 4).2)) → x6 = pwL (if wn = 0 then (hvn (X.1 7 0) 4).1 else (hvn (X.1 7 0) 4).2) (k) → x8 = nI (k) → ∀ ls : Array Slot, lv_has ls 9 [(5, .int (x5)), (6, .long (x6)), (8, .int (x8)), (3, .int (nI ((hvn (X.1 7 0) (4)).1))), (4, .int (nI ((hvn (X.1 7 0) (4)).2))), (0, .ref (ad 0)), (1, .int (nI nn)), (2, .int (nI wn))] → W p l e (headSpec wsX3_odds ({ frames := 1, cells := 0, slots := 0, locals := 21 } : Room)).room s m ([.ref (ad 0), .int (nI nn), .int (nI wn)] : List Value).toArray below meth c H locs 0 0 (MQ below (mu_Q (aX ad) (some (.long ((p_odds X (nI nn) (nI wn)).1))) (fun H => ∃ T tq la tt z, va_P D vwCl (wX ci ad ((p_odds X (nI nn) (nI wn)).2) T tq la tt z) H)) ([.ref (ad 0), .int (nI nn), .int (nI wn)] : List Value).toArray s 0 0 (aX ad)) (F0 m 97 ls []) := by
                    intro k97
                    induction k97 with
                    | zero => intro k h0; exact absurd h0 (Nat.not_lt_zero _)
                    | succ k97 ih97 =>
                      intro k hk97 h_k x5 x6 x8 e5 e6 e8 ls hl
                      subst e5
                      subst e6
                      subst e8
                      refine lv_iload hx hb dX3_odds_97 (lv_at hl 2 rfl) ?_
                      refine lv_iload_n hx hb dX3_odds_99 rfl (lv_at hl 6 rfl) ?_
                      refine nv_icmp_ge (tgt := 117) hx hb (by omega) (by omega) dX3_odds_100 (by decide) (fun c12 => ?_) (fun c12 => ?_)
                      · refine lv_lload hx hb dX3_odds_117 (lv_at hl 1 rfl) ?_
                        have hp : p_odds X (nI nn) (nI wn) = (pwL (if wn = 0 then (hvn (X.1 7 0) 4).1 else (hvn (X.1 7 0) 4).2) (k), X) := by first | (simp [p_odds, c1, c3, c6, c8, c10, c11, c12, i5, t_nn, i9, t_wn]; done) | ((rw [show k = nn by omega, p_odds, t_nn, t_wn, if_pos (by rw [Bool.and_eq_true]; exact ⟨by assumption, by assumption⟩)]); done)
                        refine nv_cvl (show pwL (if wn = 0 then (hvn (X.1 7 0) 4).1 else (hvn (X.1 7 0) 4).2) (k) = (p_odds X (nI nn) (nI wn)).1 from by rw [hp]) ?_
                        exact mu_lret hx hb hr hlocks hS ((by rw [hp]; exact ⟨_, _, _, _, _, hP⟩)) dX3_odds_119
                      · refine lv_lload hx hb dX3_odds_103 (lv_at hl 1 rfl) ?_
                        refine lv_iload hx hb dX3_odds_105 (lv_at hl 0 rfl) ?_
                        refine lv_i2l hx hb dX3_odds_107 rfl ?_
                        refine lv_lmul hx hb dX3_odds_108 ?_
                        refine lv_lstore (lv' := [(6, .long ((pwL (if wn = 0 then (hvn (X.1 7 0) 4).1 else (hvn (X.1 7 0) 4).2) (k) * (nI ((if wn = 0 then (hvn (X.1 7 0) 4).1 else (hvn (X.1 7 0) 4).2))).toInt64))), (5, .int (nI ((if wn = 0 then (hvn (X.1 7 0) 4).1 else (hvn (X.1 7 0) 4).2)))), (8, .int (nI k)), (3, .int (nI ((hvn (X.1 7 0) (4)).1))), (4, .int (nI ((hvn (X.1 7 0) (4)).2))), (0, .ref (ad 0)), (1, .int (nI nn)), (2, .int (nI wn))]) hx hb dX3_odds_109 hl (by decide) rfl (fun ls hl => ?_)
                        refine nv_iinc1 (lv' := [(8, .int (nI (k + 1))), (6, .long ((pwL (if wn = 0 then (hvn (X.1 7 0) 4).1 else (hvn (X.1 7 0) 4).2) (k) * (nI ((if wn = 0 then (hvn (X.1 7 0) 4).1 else (hvn (X.1 7 0) 4).2))).toInt64))), (5, .int (nI ((if wn = 0 then (hvn (X.1 7 0) 4).1 else (hvn (X.1 7 0) 4).2)))), (3, .int (nI ((hvn (X.1 7 0) (4)).1))), (4, .int (nI ((hvn (X.1 7 0) (4)).2))), (0, .ref (ad 0)), (1, .int (nI nn)), (2, .int (nI wn))]) hx hb dX3_odds_111 hl (k := 2) rfl (by decide) rfl (fun ls hl => ?_)
                        refine lv_goto (tgt := 97) hx hb dX3_odds_114 (by decide) ?_
                        exact ih97 (k + 1) (by omega) (by omega) (nI ((if wn = 0 then (hvn (X.1 7 0) 4).1 else (hvn (X.1 7 0) 4).2))) ((pwL (if wn = 0 then (hvn (X.1 7 0) 4).1 else (hvn (X.1 7 0) 4).2) (k) * (nI ((if wn = 0 then (hvn (X.1 7 0) 4).1 else (hvn (X.1 7 0) 4).2))).toInt64)) (nI (k + 1)) rfl rfl rfl ls (lv_sub hl [2, 1, 0, 3, 4, 5, 6, 7] rfl)
                  exact L97 _ (0) (Nat.lt_succ_self _) (by omega) (nI ((hvn (X.1 7 0) (4)).2)) (1) (nI (0)) (by first | rw [if_pos c11] | rw [if_neg c11]) rfl rfl ls (lv_sub hl [2, 1, 0, 3, 4, 5, 6, 7] rfl)
                · refine lv_iload_n hx hb dX3_odds_83 rfl (lv_at hl 0 rfl) ?_
                  refine lv_goto (tgt := 89) hx hb dX3_odds_84 (by decide) ?_
                  refine lv_istore (lv' := [(5, .int (nI ((hvn (X.1 7 0) (4)).1))), (3, .int (nI ((hvn (X.1 7 0) (4)).1))), (4, .int (nI ((hvn (X.1 7 0) (4)).2))), (0, .ref (ad 0)), (1, .int (nI nn)), (2, .int (nI wn))]) hx hb dX3_odds_89 hl (by decide) rfl (fun ls hl => ?_)
                  refine lv_lconst (v := 1) hx hb dX3_odds_91 (by decide) ?_
                  refine lv_lstore (lv' := [(6, .long (1)), (5, .int (nI ((hvn (X.1 7 0) (4)).1))), (3, .int (nI ((hvn (X.1 7 0) (4)).1))), (4, .int (nI ((hvn (X.1 7 0) (4)).2))), (0, .ref (ad 0)), (1, .int (nI nn)), (2, .int (nI wn))]) hx hb dX3_odds_92 hl (by decide) rfl (fun ls hl => ?_)
                  refine lv_iconst (v := nI (0)) hx hb dX3_odds_94 (by decide) ?_
                  refine lv_istore (lv' := [(8, .int (nI 0)), (6, .long (1)), (5, .int (nI ((hvn (X.1 7 0) (4)).1))), (3, .int (nI ((hvn (X.1 7 0) (4)).1))), (4, .int (nI ((hvn (X.1 7 0) (4)).2))), (0, .ref (ad 0)), (1, .int (nI nn)), (2, .int (nI wn))]) hx hb dX3_odds_95 hl (by decide) rfl (fun ls hl => ?_)
                  have L97 : ∀ (k97 : Nat) (k : Nat), nn - k < k97 → (k ≤ nn) → ∀ (x5 : Int32), ∀ (x6 : Int64), ∀ (x8 : Int32), x5 = nI ((if wn = 0 then (hvn (X.1 7 0) 4).1 else (hvn (X.1 7 0) 4).2)) → x6 = pwL (if wn = 0 then (hvn (X.1 7 0) 4).1 else (hvn (X.1 7 0) 4).2) (k) → x8 = nI (k) → ∀ ls : Array Slot, lv_has ls 9 [(5, .int (x5)), (6, .long (x6)), (8, .int (x8)), (3, .int (nI ((hvn (X.1 7 0) (4)).1))), (4, .int (nI ((hvn (X.1 7 0) (4)).2))), (0, .ref (ad 0)), (1, .int (nI nn)), (2, .int (nI wn))] → W p l e (headSpec wsX3_odds ({ frames := 1, cells := 0, slots := 0, locals := 21 } : Room)).room s m ([.ref (ad 0), .int (nI nn), .int (nI wn)] : List Value).toArray below meth c H locs 0 0 (MQ below (mu_Q (aX ad) (some (.long ((p_odds X (nI nn) (nI wn)).1))) (fun H => ∃ T tq la tt z, va_P D vwCl (wX ci ad ((p_odds X (nI nn) (nI wn)).2) T tq la tt z) H)) ([.ref (ad 0), .int (nI nn), .int (nI wn)] : List Value).toArray s 0 0 (aX ad)) (F0 m 97 ls []) := by
                    intro k97
                    induction k97 with
                    | zero => intro k h0; exact absurd h0 (Nat.not_lt_zero _)
                    | succ k97 ih97 =>
                      intro k hk97 h_k x5 x6 x8 e5 e6 e8 ls hl
                      subst e5
                      subst e6
                      subst e8
                      refine lv_iload hx hb dX3_odds_97 (lv_at hl 2 rfl) ?_
                      refine lv_iload_n hx hb dX3_odds_99 rfl (lv_at hl 6 rfl) ?_
                      refine nv_icmp_ge (tgt := 117) hx hb (by omega) (by omega) dX3_odds_100 (by decide) (fun c13 => ?_) (fun c13 => ?_)
                      · refine lv_lload hx hb dX3_odds_117 (lv_at hl 1 rfl) ?_
                        have hp : p_odds X (nI nn) (nI wn) = (pwL (if wn = 0 then (hvn (X.1 7 0) 4).1 else (hvn (X.1 7 0) 4).2) (k), X) := by first | (simp [p_odds, c1, c3, c6, c8, c10, c11, c13, i5, t_nn, i9, t_wn]; done) | ((rw [show k = nn by omega, p_odds, t_nn, t_wn, if_pos (by rw [Bool.and_eq_true]; exact ⟨by assumption, by assumption⟩)]); done)
                        refine nv_cvl (show pwL (if wn = 0 then (hvn (X.1 7 0) 4).1 else (hvn (X.1 7 0) 4).2) (k) = (p_odds X (nI nn) (nI wn)).1 from by rw [hp]) ?_
                        exact mu_lret hx hb hr hlocks hS ((by rw [hp]; exact ⟨_, _, _, _, _, hP⟩)) dX3_odds_119
                      · refine lv_lload hx hb dX3_odds_103 (lv_at hl 1 rfl) ?_
                        refine lv_iload hx hb dX3_odds_105 (lv_at hl 0 rfl) ?_
                        refine lv_i2l hx hb dX3_odds_107 rfl ?_
                        refine lv_lmul hx hb dX3_odds_108 ?_
                        refine lv_lstore (lv' := [(6, .long ((pwL (if wn = 0 then (hvn (X.1 7 0) 4).1 else (hvn (X.1 7 0) 4).2) (k) * (nI ((if wn = 0 then (hvn (X.1 7 0) 4).1 else (hvn (X.1 7 0) 4).2))).toInt64))), (5, .int (nI ((if wn = 0 then (hvn (X.1 7 0) 4).1 else (hvn (X.1 7 0) 4).2)))), (8, .int (nI k)), (3, .int (nI ((hvn (X.1 7 0) (4)).1))), (4, .int (nI ((hvn (X.1 7 0) (4)).2))), (0, .ref (ad 0)), (1, .int (nI nn)), (2, .int (nI wn))]) hx hb dX3_odds_109 hl (by decide) rfl (fun ls hl => ?_)
                        refine nv_iinc1 (lv' := [(8, .int (nI (k + 1))), (6, .long ((pwL (if wn = 0 then (hvn (X.1 7 0) 4).1 else (hvn (X.1 7 0) 4).2) (k) * (nI ((if wn = 0 then (hvn (X.1 7 0) 4).1 else (hvn (X.1 7 0) 4).2))).toInt64))), (5, .int (nI ((if wn = 0 then (hvn (X.1 7 0) 4).1 else (hvn (X.1 7 0) 4).2)))), (3, .int (nI ((hvn (X.1 7 0) (4)).1))), (4, .int (nI ((hvn (X.1 7 0) (4)).2))), (0, .ref (ad 0)), (1, .int (nI nn)), (2, .int (nI wn))]) hx hb dX3_odds_111 hl (k := 2) rfl (by decide) rfl (fun ls hl => ?_)
                        refine lv_goto (tgt := 97) hx hb dX3_odds_114 (by decide) ?_
                        exact ih97 (k + 1) (by omega) (by omega) (nI ((if wn = 0 then (hvn (X.1 7 0) 4).1 else (hvn (X.1 7 0) 4).2))) ((pwL (if wn = 0 then (hvn (X.1 7 0) 4).1 else (hvn (X.1 7 0) 4).2) (k) * (nI ((if wn = 0 then (hvn (X.1 7 0) 4).1 else (hvn (X.1 7 0) 4).2))).toInt64)) (nI (k + 1)) rfl rfl rfl ls (lv_sub hl [2, 1, 0, 3, 4, 5, 6, 7] rfl)
                  exact L97 _ (0) (Nat.lt_succ_self _) (by omega) (nI ((hvn (X.1 7 0) (4)).1)) (1) (nI (0)) (by first | rw [if_pos c11] | rw [if_neg c11]) rfl rfl ls (lv_sub hl [2, 1, 0, 3, 4, 5, 6, 7] rfl)
              · refine lv_iload_n hx hb dX3_odds_50 rfl (lv_at hl 0 rfl) ?_
                refine lv_iconst (v := nI (1)) hx hb dX3_odds_51 (by decide) ?_
                refine nv_iand hx hb dX3_odds_52 ?_
                have f14 : ((hvn (X.1 7 0) (i)).1 &&& 1) ≤ 1 := Nat.and_le_right
                have f15 : ((hvn (X.1 7 0) (i)).1 &&& 1) ≤ (hvn (X.1 7 0) (i)).1 := Nat.and_le_left
                refine nv_ifne (tgt := 73) hx hb (by omega) dX3_odds_53 (by decide) (fun c16 => ?_) (fun c16 => ?_)
                · refine nv_iinc1 (lv' := [(5, .int (nI (i + 1))), (3, .int (nI ((hvn (X.1 7 0) (i)).1))), (4, .int (nI ((hvn (X.1 7 0) (i)).2))), (0, .ref (ad 0)), (1, .int (nI nn)), (2, .int (nI wn))]) hx hb dX3_odds_73 hl (k := 2) rfl (by decide) rfl (fun ls hl => ?_)
                  refine lv_goto (tgt := 44) hx hb dX3_odds_76 (by decide) ?_
                  exact ih44 (i + 1) (by omega) (by omega) (nI ((hvn (X.1 7 0) (i)).1)) (nI ((hvn (X.1 7 0) (i)).2)) (nI (i + 1)) (nv_e (by first | exact (congrArg Prod.fst (hv_t (and1m c10) (and1m c16))).symm | exact (congrArg Prod.fst (hv_f1 (and1n c16))).symm | exact (congrArg Prod.fst (hv_f2 (and1n c16))).symm)) (nv_e (by first | exact (congrArg Prod.snd (hv_t (and1m c10) (and1m c16))).symm | exact (congrArg Prod.snd (hv_f1 (and1n c16))).symm | exact (congrArg Prod.snd (hv_f2 (and1n c16))).symm)) rfl ls (lv_sub hl [1, 2, 0, 3, 4, 5] rfl)
                · refine lv_iload hx hb dX3_odds_56 (lv_at hl 1 rfl) ?_
                  refine lv_iconst (v := nI (1)) hx hb dX3_odds_58 (by decide) ?_
                  refine nv_iand hx hb dX3_odds_59 ?_
                  have f17 : ((hvn (X.1 7 0) (i)).2 &&& 1) ≤ 1 := Nat.and_le_right
                  have f18 : ((hvn (X.1 7 0) (i)).2 &&& 1) ≤ (hvn (X.1 7 0) (i)).2 := Nat.and_le_left
                  refine nv_ifne (tgt := 73) hx hb (by omega) dX3_odds_60 (by decide) (fun c19 => ?_) (fun c19 => ?_)
                  · refine nv_iinc1 (lv' := [(5, .int (nI (i + 1))), (3, .int (nI ((hvn (X.1 7 0) (i)).1))), (4, .int (nI ((hvn (X.1 7 0) (i)).2))), (0, .ref (ad 0)), (1, .int (nI nn)), (2, .int (nI wn))]) hx hb dX3_odds_73 hl (k := 2) rfl (by decide) rfl (fun ls hl => ?_)
                    refine lv_goto (tgt := 44) hx hb dX3_odds_76 (by decide) ?_
                    exact ih44 (i + 1) (by omega) (by omega) (nI ((hvn (X.1 7 0) (i)).1)) (nI ((hvn (X.1 7 0) (i)).2)) (nI (i + 1)) (nv_e (by first | exact (congrArg Prod.fst (hv_t (and1m c16) (and1m c19))).symm | exact (congrArg Prod.fst (hv_f1 (and1n c19))).symm | exact (congrArg Prod.fst (hv_f2 (and1n c19))).symm)) (nv_e (by first | exact (congrArg Prod.snd (hv_t (and1m c16) (and1m c19))).symm | exact (congrArg Prod.snd (hv_f1 (and1n c19))).symm | exact (congrArg Prod.snd (hv_f2 (and1n c19))).symm)) rfl ls (lv_sub hl [1, 2, 0, 3, 4, 5] rfl)
                  · refine lv_iload_n hx hb dX3_odds_63 rfl (lv_at hl 0 rfl) ?_
                    refine lv_iconst (v := nI (1)) hx hb dX3_odds_64 (by decide) ?_
                    refine nv_ishr hx hb (by omega) (by omega) dX3_odds_65 ?_
                    refine lv_istore_n (lv' := [(3, .int (nI (((hvn (X.1 7 0) (i)).1 / 2 ^ (1))))), (4, .int (nI ((hvn (X.1 7 0) (i)).2))), (5, .int (nI i)), (0, .ref (ad 0)), (1, .int (nI nn)), (2, .int (nI wn))]) hx hb dX3_odds_66 rfl hl (by decide) rfl (fun ls hl => ?_)
                    refine lv_iload hx hb dX3_odds_67 (lv_at hl 1 rfl) ?_
                    refine lv_iconst (v := nI (1)) hx hb dX3_odds_69 (by decide) ?_
                    refine nv_ishr hx hb (by omega) (by omega) dX3_odds_70 ?_
                    refine lv_istore (lv' := [(4, .int (nI (((hvn (X.1 7 0) (i)).2 / 2 ^ (1))))), (3, .int (nI (((hvn (X.1 7 0) (i)).1 / 2 ^ (1))))), (5, .int (nI i)), (0, .ref (ad 0)), (1, .int (nI nn)), (2, .int (nI wn))]) hx hb dX3_odds_71 hl (by decide) rfl (fun ls hl => ?_)
                    refine nv_iinc1 (lv' := [(5, .int (nI (i + 1))), (4, .int (nI (((hvn (X.1 7 0) (i)).2 / 2 ^ (1))))), (3, .int (nI (((hvn (X.1 7 0) (i)).1 / 2 ^ (1))))), (0, .ref (ad 0)), (1, .int (nI nn)), (2, .int (nI wn))]) hx hb dX3_odds_73 hl (k := 2) rfl (by decide) rfl (fun ls hl => ?_)
                    refine lv_goto (tgt := 44) hx hb dX3_odds_76 (by decide) ?_
                    exact ih44 (i + 1) (by omega) (by omega) (nI (((hvn (X.1 7 0) (i)).1 / 2 ^ (1)))) (nI (((hvn (X.1 7 0) (i)).2 / 2 ^ (1)))) (nI (i + 1)) (nv_e (by first | exact (congrArg Prod.fst (hv_t (and1m c16) (and1m c19))).symm | exact (congrArg Prod.fst (hv_f1 (and1n c19))).symm | exact (congrArg Prod.fst (hv_f2 (and1n c19))).symm)) (nv_e (by first | exact (congrArg Prod.snd (hv_t (and1m c16) (and1m c19))).symm | exact (congrArg Prod.snd (hv_f1 (and1n c19))).symm | exact (congrArg Prod.snd (hv_f2 (and1n c19))).symm)) rfl ls (lv_sub hl [2, 1, 0, 3, 4, 5] rfl)
          exact L44 _ (0) (Nat.lt_succ_self _) (by omega) (nI ((16 - X.1 7 0))) (nI (16)) (nI (0)) rfl rfl rfl ls (lv_sub hl [2, 1, 0, 3, 4, 5] rfl)
        · have i20 : inN w 2 = false := in_f3 (by omega) c8
          refine lv_aload_n hx hb dX3_odds_19 rfl (lv_at hl 0 rfl) ?_
          refine lv_iconst (v := nI (0)) hx hb dX3_odds_20 (by decide) ?_
          refine mu_V (n := 1) (As := [.int (nI 0)]) (rest := []) ⟨hx, hb, hml, hown, hts⟩ (c_X3_finding l D ci G ka ad X T tq la tt z hI hG (0) hWX (by omega)) gX3_odds_X3_finding rfl ⟨rfl, rfl⟩ (by decide +kernel) rfl ⟨Nat.le_of_ble_eq_true rfl, Nat.le_of_ble_eq_true rfl⟩ hE (en_S hGA hs0 hS) hK hP (ci := 3) (q0 := 0) rfl rfl hl.1 rfl (Nat.le_of_ble_eq_true rfl) dX3_odds_21 ⟨Nat.zero_le _, Nat.zero_le _⟩ hS (fun _ h => h) (fun H1 locs hz hfr hB hS => ?_)
          obtain ⟨T, tq, la, tt, z, hP⟩ := hB
          generalize H1 = H at hP hS ⊢
          have hD : va_D (aX ad) (wX ci ad (toF X (inc X.2.2.2.1 0)) T tq la tt z) := wX_D hI
          refine lv_i2l hx hb dX3_odds_24 rfl ?_
          have hp : p_odds X (nI nn) w = ((fnd 0).toInt64, toF X (inc X.2.2.2.1 0)) := by first | (simp [p_odds, c1, c3, c6, c8, i5, t_nn, i20]; done) | ((rw [show k = nn by omega, p_odds, t_nn, t_wn, if_pos (by rw [Bool.and_eq_true]; exact ⟨by assumption, by assumption⟩)]); done)
          refine nv_cvl (show (fnd 0).toInt64 = (p_odds X (nI nn) w).1 from by rw [hp]) ?_
          exact mu_lret hx hb hr hlocks hS ((by rw [hp]; exact ⟨_, _, _, _, _, hP⟩)) dX3_odds_25
