/-! walks laid by program -/
set_option maxHeartbeats 4000000 in
set_option maxRecDepth 100000 in
/-- X4_barOf -/
theorem c_X4_barOf (l : Launch) (D : va_G) (ci : Nat → ClassId) (am : Nat → Nat) (X : AS) (kr : Nat → Int32) (q0 q1 q2 q3 q4 q5 : Int32) (iw : Bool) (kn : Nat → Option Nat) (y0 y1 y2 y3 y4 y5 y6 : Nat → Int32) (hI : injA am 16) (b w : Int32) (hWX : WFX X) (hkr : kOK X kr) : Met l yX4_barOf wsX4_barOf ({ frames := 6, cells := 0, slots := 0, locals := 139 } : Room) (va_Pc [.ref (am 0), .int (b), .int (w)] (ro_B D (tyL ci) (wN ci am X kr q0 q1 q2 q3 q4 q5 iw kn y0 y1 y2 y3 y4 y5 y6) (enT))) (mu_Q (aM am) (some (.int ((p_barOf X b w).1))) (fun H => ∃ (kr : Nat → Int32) (q0 : Int32) (q1 : Int32) (q2 : Int32) (q3 : Int32) (q4 : Int32) (q5 : Int32) (iw : Bool) (y0 : Nat → Int32) (y1 : Nat → Int32) (y2 : Nat → Int32) (y3 : Nat → Int32) (y4 : Nat → Int32) (y5 : Nat → Int32) (y6 : Nat → Int32), kOK (p_barOf X b w).2 kr ∧ va_P D vwCl (wN ci am ((p_barOf X b w).2) kr q0 q1 q2 q3 q4 q5 iw kn y0 y1 y2 y3 y4 y5 y6) H)) 0 0 (aM am) := by
  refine mu_Met (cc := cX4_barOf) (maxL := 5) (ret := (some .int)) [(0, .ref (am 0)), (1, .int (b)), (2, .int (w))] (wN_D hI) (by decide) rfl (Nat.le_of_ble_eq_true rfl) rfl ?_
  intro p e s m below meth c H locs hx hb hml hr hlocks hts hown hP hK hs0 hD hS ls hl
  have hown : s.vm.findClass RX4 = some m.cls := hown
  have hinX4 : ∀ w ∈ wsX40, w ∈ wsX4_barOf := by decide +kernel
  have hE := hE_T
  have hWF := hWX.w
  have f_n := hWF.n
  have f_e := hWX.e
  have f_tl := hWX.t
  refine lv_iload_n hx hb dX4_barOf_0 rfl (lv_at hl 1 rfl) ?_
  refine ro_S (n := 1) (As := [.int (b)]) (rest := []) ⟨hx, hb, hml, hown, hts⟩ (c_X4_isBar l D ci (wN ci am X kr q0 q1 q2 q3 q4 q5 iw kn y0 y1 y2 y3 y4 y5 y6) (b) ) gX4_barOf_X4_isBar rfl ⟨rfl, rfl⟩ (by decide +kernel) rfl ⟨Nat.le_of_ble_eq_true rfl, Nat.le_of_ble_eq_true rfl⟩ hE trivial hK hP hl.1 rfl (Nat.le_of_ble_eq_true rfl) dX4_barOf_1 ⟨Nat.zero_le _, Nat.zero_le _⟩ ?_
  refine nv_ifeq_b (tgt := 16) hx hb dX4_barOf_4 (by decide) (fun c1 => ?_) (fun c1 => ?_)
  · refine lv_aload_n hx hb dX4_barOf_16 rfl (lv_at hl 0 rfl) ?_
    refine lv_ldc (v := -1000001) hx hb hown (hts (.constant RX4 72 (-1000001)) (List.mem_of_getElem? (i := 1) rfl)) dX4_barOf_17 ?_
    refine mu_V (n := 1) (As := [.int (-1000001)]) (rest := []) ⟨hx, hb, hml, hown, hts⟩ (c_X4_finding l D ci am X kr q0 q1 q2 q3 q4 q5 iw kn y0 y1 y2 y3 y4 y5 y6 hI (-1000001) (0) (by omega) (by decide)) gX4_barOf_X4_finding rfl ⟨rfl, rfl⟩ (by decide +kernel) rfl ⟨Nat.le_of_ble_eq_true rfl, Nat.le_of_ble_eq_true rfl⟩ hE trivial hK hP (ci := 4) (q0 := 0) rfl rfl hl.1 rfl (Nat.le_of_ble_eq_true rfl) dX4_barOf_19 ⟨Nat.zero_le _, Nat.zero_le _⟩ hS (fun _ h => h) (fun H1 locs hz hfr hB hS => ?_)
    have hP := hB
    have hP : va_P D vwCl (wN ci am (toF X (inc X.2.2.2.1 0)) kr q0 q1 q2 q3 q4 q5 iw kn y0 y1 y2 y3 y4 y5 y6) H1 := hP
    generalize H1 = H at hP hS ⊢
    have hD : va_D (aM am) (wN ci am (toF X (inc X.2.2.2.1 0)) kr q0 q1 q2 q3 q4 q5 iw kn y0 y1 y2 y3 y4 y5 y6) := wN_D hI
    have hp : p_barOf X b w = (fnd 0, toF X (inc X.2.2.2.1 0)) := by first | (simp [p_barOf, bk, fl_eq, c1]; done) | ((obtain rfl : wn = 0 := by omega); simp [p_barOf, bk, fl_eq, inP, c1]; done) | ((obtain rfl : wn = 1 := by omega); simp [p_barOf, bk, fl_eq, inP, c1]; done) | (((obtain rfl : wn = 2 := by omega); rw [show i = 16 by omega]; simp [p_barOf, reachd, bk, fl_eq, c1]); done)
    refine nv_cv (show fnd 0 = (p_barOf X b w).1 from by rw [hp]) ?_
    exact mu_iret hx hb hr hlocks hS ((by rw [hp]; exact ⟨_, _, _, _, _, _, _, _, _, _, _, _, _, _, _, hkr, hP⟩)) dX4_barOf_22
  · obtain ⟨bn, h_bn, rfl⟩ := in_ex c1 (by omega)
    have t_bn : tn (nI bn) = bn := tn_nI (by omega)
    refine lv_iload_n hx hb dX4_barOf_7 rfl (lv_at hl 2 rfl) ?_
    refine lv_iconst (v := nI (0)) hx hb dX4_barOf_8 (by decide) ?_
    refine lv_iconst (v := nI (2)) hx hb dX4_barOf_9 (by decide) ?_
    refine ro_S (n := 3) (As := [.int (w), .int (nI 0), .int (nI 2)]) (rest := []) ⟨hx, hb, hml, hown, hts⟩ (c_X4_within l D ci (wN ci am X kr q0 q1 q2 q3 q4 q5 iw kn y0 y1 y2 y3 y4 y5 y6) (w) (nI (0)) (nI (2)) ) gX4_barOf_X4_within rfl ⟨rfl, rfl⟩ (by decide +kernel) rfl ⟨Nat.le_of_ble_eq_true rfl, Nat.le_of_ble_eq_true rfl⟩ hE trivial hK hP hl.1 rfl (Nat.le_of_ble_eq_true rfl) dX4_barOf_10 ⟨Nat.zero_le _, Nat.zero_le _⟩ ?_
    refine nv_cv (congrArg bI (wth_in w 2 (by decide))) ?_
    refine nv_ifne_b (tgt := 23) hx hb dX4_barOf_13 (by decide) (fun c2 => ?_) (fun c2 => ?_)
    · obtain ⟨wn, h_wn, rfl⟩ := in_ex c2 (by omega)
      have t_wn : tn (nI wn) = wn := tn_nI (by omega)
      refine lv_iload_n hx hb dX4_barOf_23 rfl (lv_at hl 2 rfl) ?_
      refine lv_iconst (v := nI (2)) hx hb dX4_barOf_24 (by decide) ?_
      refine nv_icmp_ge (tgt := 49) hx hb (by omega) (by omega) dX4_barOf_25 (by decide) (fun c3 => ?_) (fun c3 => ?_)
      · refine lv_iconst (v := nI (0)) hx hb dX4_barOf_49 (by decide) ?_
        refine lv_istore_n (lv' := [(3, .int (nI 0)), (0, .ref (am 0)), (1, .int (nI bn)), (2, .int (nI wn))]) hx hb dX4_barOf_50 rfl hl (by decide) rfl (fun ls hl => ?_)
        refine lv_iconst (v := nI (0)) hx hb dX4_barOf_51 (by decide) ?_
        refine lv_istore (lv' := [(4, .int (nI 0)), (3, .int (nI 0)), (0, .ref (am 0)), (1, .int (nI bn)), (2, .int (nI wn))]) hx hb dX4_barOf_52 hl (by decide) rfl (fun ls hl => ?_)
        have L54 : ∀ (k54 : Nat) (i : Nat), 16 - i < k54 → (i ≤ 16) → ∀ (x3 : Int32), ∀ (x4 : Int32), x3 = nI ((cntTo (fun se => decide (0 < great X.1 se (playIn X.1 bn))) (i))) → x4 = nI (i) → ∀ ls : Array Slot, lv_has ls 5 [(3, .int (x3)), (4, .int (x4)), (0, .ref (am 0)), (1, .int (nI bn)), (2, .int (nI wn))] → W p l e (headSpec wsX4_barOf ({ frames := 6, cells := 0, slots := 0, locals := 139 } : Room)).room s m ([.ref (am 0), .int (nI bn), .int (nI wn)] : List Value).toArray below meth c H locs 0 0 (MQ below (mu_Q (aM am) (some (.int ((p_barOf X (nI bn) (nI wn)).1))) (fun H => ∃ (kr : Nat → Int32) (q0 : Int32) (q1 : Int32) (q2 : Int32) (q3 : Int32) (q4 : Int32) (q5 : Int32) (iw : Bool) (y0 : Nat → Int32) (y1 : Nat → Int32) (y2 : Nat → Int32) (y3 : Nat → Int32) (y4 : Nat → Int32) (y5 : Nat → Int32) (y6 : Nat → Int32), kOK (p_barOf X (nI bn) (nI wn)).2 kr ∧ va_P D vwCl (wN ci am ((p_barOf X (nI bn) (nI wn)).2) kr q0 q1 q2 q3 q4 q5 iw kn y0 y1 y2 y3 y4 y5 y6) H)) ([.ref (am 0), .int (nI bn), .int (nI wn)] : List Value).toArray s 0 0 (aM am)) (F0 m 54 ls []) := by
          intro k54
          induction k54 with
          | zero => intro i h0; exact absurd h0 (Nat.not_lt_zero _)
          | succ k54 ih54 =>
            intro i hk54 h_i x3 x4 e3 e4 ls hl
            subst e3
            subst e4
            have f_c := cntTo_le (fun se => decide (0 < great X.1 se (playIn X.1 bn))) i
            refine lv_iload hx hb dX4_barOf_54 (lv_at hl 1 rfl) ?_
            refine lv_bipush (v := nI (16)) hx hb dX4_barOf_56 (by decide) ?_
            refine nv_icmp_ge (tgt := 89) hx hb (by omega) (by omega) dX4_barOf_58 (by decide) (fun c4 => ?_) (fun c4 => ?_)
            · refine lv_iload_n hx hb dX4_barOf_89 rfl (lv_at hl 0 rfl) ?_
              have hp : p_barOf X (nI bn) (nI wn) = (nI ((cntTo (fun se => decide (0 < great X.1 se (playIn X.1 bn))) (i))), X) := by first | (simp [p_barOf, bk, fl_eq, c1, c2, c3, c4, t_bn, t_wn]; done) | ((obtain rfl : wn = 0 := by omega); simp [p_barOf, bk, fl_eq, inP, c1, c2, c3, c4, t_bn, t_wn]; done) | ((obtain rfl : wn = 1 := by omega); simp [p_barOf, bk, fl_eq, inP, c1, c2, c3, c4, t_bn, t_wn]; done) | (((obtain rfl : wn = 2 := by omega); rw [show i = 16 by omega]; simp [p_barOf, reachd, bk, fl_eq, c1, c2, c3, c4, t_bn, t_wn]); done)
              refine nv_cv (show nI ((cntTo (fun se => decide (0 < great X.1 se (playIn X.1 bn))) (i))) = (p_barOf X (nI bn) (nI wn)).1 from by rw [hp]) ?_
              exact mu_iret hx hb hr hlocks hS ((by rw [hp]; exact ⟨_, _, _, _, _, _, _, _, _, _, _, _, _, _, _, hkr, hP⟩)) dX4_barOf_90
            · refine lv_iload_n hx hb dX4_barOf_61 rfl (lv_at hl 0 rfl) ?_
              refine lv_aload_n hx hb dX4_barOf_62 rfl (lv_at hl 2 rfl) ?_
              refine lv_aload_n hx hb dX4_barOf_63 rfl (lv_at hl 2 rfl) ?_
              refine ro_V (n := 0) (As := []) (rest := [.ref (am 0), .int (nI ((cntTo (fun se => decide (0 < great X.1 se (playIn X.1 bn))) (i))))]) ⟨hx, hb, hml, hown, hts⟩ (c_X4_everybody l D ci am X kr q0 q1 q2 q3 q4 q5 iw kn y0 y1 y2 y3 y4 y5 y6  hWF) gX4_barOf_X4_everybody rfl ⟨rfl, rfl⟩ (by decide +kernel) rfl ⟨Nat.le_of_ble_eq_true rfl, Nat.le_of_ble_eq_true rfl⟩ hE trivial hK hP (ci := 4) (q0 := 0) rfl rfl hl.1 rfl (Nat.le_of_ble_eq_true rfl) dX4_barOf_64 ⟨Nat.zero_le _, Nat.zero_le _⟩ ?_
              have f5 := evb_lt hWF.n
              refine lv_iload hx hb dX4_barOf_67 (lv_at hl 1 rfl) ?_
              refine lv_iload_n hx hb dX4_barOf_69 rfl (lv_at hl 3 rfl) ?_
              refine ro_V (n := 3) (As := [.int (nI ((1 * 2 ^ X.1 7 0 - 1))), .int (nI i), .int (nI bn)]) (rest := [.int (nI ((cntTo (fun se => decide (0 < great X.1 se (playIn X.1 bn))) (i))))]) ⟨hx, hb, hml, hown, hts⟩ (c_X4_heardOf l D ci am X kr q0 q1 q2 q3 q4 q5 iw kn y0 y1 y2 y3 y4 y5 y6 ((1 * 2 ^ X.1 7 0 - 1)) (i) (bn) hWF (by omega) (by omega) (by omega)) gX4_barOf_X4_heardOf rfl ⟨rfl, rfl⟩ (by decide +kernel) rfl ⟨Nat.le_of_ble_eq_true rfl, Nat.le_of_ble_eq_true rfl⟩ hE trivial hK hP (ci := 4) (q0 := 0) rfl rfl hl.1 rfl (Nat.le_of_ble_eq_true rfl) dX4_barOf_70 ⟨Nat.zero_le _, Nat.zero_le _⟩ ?_
              have f6 := great_lt' hWF (i) ((1 * 2 ^ X.1 7 0 - 1) &&& playIn X.1 (bn))
              have f7 := great_lt' hWF i (playIn X.1 bn)
              refine nv_cv (show nI (great X.1 i ((1 * 2 ^ X.1 7 0 - 1) &&& playIn X.1 bn)) = nI (great X.1 i (playIn X.1 bn)) from congrArg nI (by rw [evb_and])) ?_
              refine nv_ifle (tgt := 80) hx hb (by omega) dX4_barOf_73 (by decide) (fun c8 => ?_) (fun c8 => ?_)
              · refine lv_iconst (v := nI (0)) hx hb dX4_barOf_80 (by decide) ?_
                refine nv_iadd hx hb dX4_barOf_81 ?_
                refine lv_istore_n (lv' := [(3, .int (nI (((cntTo (fun se => decide (0 < great X.1 se (playIn X.1 bn))) (i)) + 0)))), (4, .int (nI i)), (0, .ref (am 0)), (1, .int (nI bn)), (2, .int (nI wn))]) hx hb dX4_barOf_82 rfl hl (by decide) rfl (fun ls hl => ?_)
                refine nv_iinc1 (lv' := [(4, .int (nI (i + 1))), (3, .int (nI (((cntTo (fun se => decide (0 < great X.1 se (playIn X.1 bn))) (i)) + 0)))), (0, .ref (am 0)), (1, .int (nI bn)), (2, .int (nI wn))]) hx hb dX4_barOf_83 hl (k := 1) rfl (by decide) rfl (fun ls hl => ?_)
                refine lv_goto (tgt := 54) hx hb dX4_barOf_86 (by decide) ?_
                exact ih54 (i + 1) (by omega) (by omega) (nI (((cntTo (fun se => decide (0 < great X.1 se (playIn X.1 bn))) (i)) + 0))) (nI (i + 1)) (nv_e (by first | exact cntTo_t (by simpa using c8) | exact cnt_f0 (by simpa using c8))) rfl ls (lv_sub hl [1, 0, 2, 3, 4] rfl)
              · refine lv_iconst (v := nI (1)) hx hb dX4_barOf_76 (by decide) ?_
                refine lv_goto (tgt := 81) hx hb dX4_barOf_77 (by decide) ?_
                refine nv_iadd hx hb dX4_barOf_81 ?_
                refine lv_istore_n (lv' := [(3, .int (nI (((cntTo (fun se => decide (0 < great X.1 se (playIn X.1 bn))) (i)) + 1)))), (4, .int (nI i)), (0, .ref (am 0)), (1, .int (nI bn)), (2, .int (nI wn))]) hx hb dX4_barOf_82 rfl hl (by decide) rfl (fun ls hl => ?_)
                refine nv_iinc1 (lv' := [(4, .int (nI (i + 1))), (3, .int (nI (((cntTo (fun se => decide (0 < great X.1 se (playIn X.1 bn))) (i)) + 1)))), (0, .ref (am 0)), (1, .int (nI bn)), (2, .int (nI wn))]) hx hb dX4_barOf_83 hl (k := 1) rfl (by decide) rfl (fun ls hl => ?_)
                refine lv_goto (tgt := 54) hx hb dX4_barOf_86 (by decide) ?_
                exact ih54 (i + 1) (by omega) (by omega) (nI (((cntTo (fun se => decide (0 < great X.1 se (playIn X.1 bn))) (i)) + 1))) (nI (i + 1)) (nv_e (by first | exact cntTo_t (by simpa using c8) | exact cnt_f0 (by simpa using c8))) rfl ls (lv_sub hl [1, 0, 2, 3, 4] rfl)
        exact L54 _ (0) (Nat.lt_succ_self _) (by omega) (nI (0)) (nI (0)) rfl rfl ls (lv_sub hl [1, 0, 2, 3, 4] rfl)
      · refine lv_iload_n hx hb dX4_barOf_28 rfl (lv_at hl 2 rfl) ?_
        refine nv_ifne (tgt := 43) hx hb (by omega) dX4_barOf_29 (by decide) (fun c9 => ?_) (fun c9 => ?_)
        · refine lv_aload_n hx hb dX4_barOf_43 rfl (lv_at hl 0 rfl) ?_
          refine lv_iload_n hx hb dX4_barOf_44 rfl (lv_at hl 1 rfl) ?_
          refine ro_V (n := 1) (As := [.int (nI bn)]) (rest := []) ⟨hx, hb, hml, hown, hts⟩ (c_X4_playsIn l D ci am X kr q0 q1 q2 q3 q4 q5 iw kn y0 y1 y2 y3 y4 y5 y6 (bn) hWF (by omega)) gX4_barOf_X4_playsIn rfl ⟨rfl, rfl⟩ (by decide +kernel) rfl ⟨Nat.le_of_ble_eq_true rfl, Nat.le_of_ble_eq_true rfl⟩ hE trivial hK hP (ci := 4) (q0 := 0) rfl rfl hl.1 rfl (Nat.le_of_ble_eq_true rfl) dX4_barOf_45 ⟨Nat.zero_le _, Nat.zero_le _⟩ ?_
          have f10 := playIn_lt hWF (bn)
          have hp : p_barOf X (nI bn) (nI wn) = (nI (playIn X.1 bn), X) := by first | (simp [p_barOf, bk, fl_eq, c1, c2, c3, c9, t_bn, t_wn]; done) | ((obtain rfl : wn = 0 := by omega); simp [p_barOf, bk, fl_eq, inP, c1, c2, c3, c9, t_bn, t_wn]; done) | ((obtain rfl : wn = 1 := by omega); simp [p_barOf, bk, fl_eq, inP, c1, c2, c3, c9, t_bn, t_wn]; done) | (((obtain rfl : wn = 2 := by omega); rw [show i = 16 by omega]; simp [p_barOf, reachd, bk, fl_eq, c1, c2, c3, c9, t_bn, t_wn]); done)
          refine nv_cv (show nI (playIn X.1 bn) = (p_barOf X (nI bn) (nI wn)).1 from by rw [hp]) ?_
          exact mu_iret hx hb hr hlocks hS ((by rw [hp]; exact ⟨_, _, _, _, _, _, _, _, _, _, _, _, _, _, _, hkr, hP⟩)) dX4_barOf_48
        · refine lv_aload_n hx hb dX4_barOf_32 rfl (lv_at hl 0 rfl) ?_
          refine va_get (D := D) (ci := 4) (v := .ref (am 1)) (C := RX4) (T := TX4) (N := 24) hx hb hts hinX4 hown hK hP 0 rfl rfl 0 (by decide) (hts (.fieldLink RX4 9 "OneShortModel" "now" "[I") (List.mem_of_getElem? (i := 2) rfl)) (fun _ h9 => h9) rfl dX4_barOf_33 ?_
          refine lv_iconst (v := nI (3)) hx hb dX4_barOf_36 (by decide) ?_
          refine lv_iload_n hx hb dX4_barOf_37 rfl (lv_at hl 1 rfl) ?_
          refine nv_iadd hx hb dX4_barOf_38 ?_
          have f11 := hWF.f0 bn
          refine nv_iald (v := nI (X.1 0 bn)) hx hb hK hP 1 0 rfl rfl (by omega) (by decide) (pk_bar X.1 (by omega)) dX4_barOf_39 ?_
          refine lv_goto (tgt := 48) hx hb dX4_barOf_40 (by decide) ?_
          have hp : p_barOf X (nI bn) (nI wn) = (nI (X.1 0 bn), X) := by first | (simp [p_barOf, bk, fl_eq, c1, c2, c3, c9, t_bn, t_wn]; done) | ((obtain rfl : wn = 0 := by omega); simp [p_barOf, bk, fl_eq, inP, c1, c2, c3, c9, t_bn, t_wn]; done) | ((obtain rfl : wn = 1 := by omega); simp [p_barOf, bk, fl_eq, inP, c1, c2, c3, c9, t_bn, t_wn]; done) | (((obtain rfl : wn = 2 := by omega); rw [show i = 16 by omega]; simp [p_barOf, reachd, bk, fl_eq, c1, c2, c3, c9, t_bn, t_wn]); done)
          refine nv_cv (show nI (X.1 0 bn) = (p_barOf X (nI bn) (nI wn)).1 from by rw [hp]) ?_
          exact mu_iret hx hb hr hlocks hS ((by rw [hp]; exact ⟨_, _, _, _, _, _, _, _, _, _, _, _, _, _, _, hkr, hP⟩)) dX4_barOf_48
    · refine lv_aload_n hx hb dX4_barOf_16 rfl (lv_at hl 0 rfl) ?_
      refine lv_ldc (v := -1000001) hx hb hown (hts (.constant RX4 72 (-1000001)) (List.mem_of_getElem? (i := 1) rfl)) dX4_barOf_17 ?_
      refine mu_V (n := 1) (As := [.int (-1000001)]) (rest := []) ⟨hx, hb, hml, hown, hts⟩ (c_X4_finding l D ci am X kr q0 q1 q2 q3 q4 q5 iw kn y0 y1 y2 y3 y4 y5 y6 hI (-1000001) (0) (by omega) (by decide)) gX4_barOf_X4_finding rfl ⟨rfl, rfl⟩ (by decide +kernel) rfl ⟨Nat.le_of_ble_eq_true rfl, Nat.le_of_ble_eq_true rfl⟩ hE trivial hK hP (ci := 4) (q0 := 0) rfl rfl hl.1 rfl (Nat.le_of_ble_eq_true rfl) dX4_barOf_19 ⟨Nat.zero_le _, Nat.zero_le _⟩ hS (fun _ h => h) (fun H1 locs hz hfr hB hS => ?_)
      have hP := hB
      have hP : va_P D vwCl (wN ci am (toF X (inc X.2.2.2.1 0)) kr q0 q1 q2 q3 q4 q5 iw kn y0 y1 y2 y3 y4 y5 y6) H1 := hP
      generalize H1 = H at hP hS ⊢
      have hD : va_D (aM am) (wN ci am (toF X (inc X.2.2.2.1 0)) kr q0 q1 q2 q3 q4 q5 iw kn y0 y1 y2 y3 y4 y5 y6) := wN_D hI
      have hp : p_barOf X (nI bn) w = (fnd 0, toF X (inc X.2.2.2.1 0)) := by first | (simp [p_barOf, bk, fl_eq, c1, c2, t_bn]; done) | ((obtain rfl : wn = 0 := by omega); simp [p_barOf, bk, fl_eq, inP, c1, c2, t_bn]; done) | ((obtain rfl : wn = 1 := by omega); simp [p_barOf, bk, fl_eq, inP, c1, c2, t_bn]; done) | (((obtain rfl : wn = 2 := by omega); rw [show i = 16 by omega]; simp [p_barOf, reachd, bk, fl_eq, c1, c2, t_bn]); done)
      refine nv_cv (show fnd 0 = (p_barOf X (nI bn) w).1 from by rw [hp]) ?_
      exact mu_iret hx hb hr hlocks hS ((by rw [hp]; exact ⟨_, _, _, _, _, _, _, _, _, _, _, _, _, _, _, hkr, hP⟩)) dX4_barOf_22

set_option maxHeartbeats 4000000 in
set_option maxRecDepth 100000 in
/-- X4_who -/
theorem c_X4_who (l : Launch) (D : va_G) (ci : Nat → ClassId) (am : Nat → Nat) (X : AS) (kr : Nat → Int32) (q0 q1 q2 q3 q4 q5 : Int32) (iw : Bool) (kn : Nat → Option Nat) (y0 y1 y2 y3 y4 y5 y6 : Nat → Int32) (hI : injA am 16) (b : Int32) (hWX : WFX X) (hkr : kOK X kr) : Met l yX4_who wsX4_who ({ frames := 5, cells := 0, slots := 0, locals := 114 } : Room) (va_Pc [.ref (am 0), .int (b)] (ro_B D (tyL ci) (wN ci am X kr q0 q1 q2 q3 q4 q5 iw kn y0 y1 y2 y3 y4 y5 y6) (enT))) (mu_Q (aM am) (some (.int ((p_who X b).1))) (fun H => ∃ (kr : Nat → Int32) (q0 : Int32) (q1 : Int32) (q2 : Int32) (q3 : Int32) (q4 : Int32) (q5 : Int32) (iw : Bool) (y0 : Nat → Int32) (y1 : Nat → Int32) (y2 : Nat → Int32) (y3 : Nat → Int32) (y4 : Nat → Int32) (y5 : Nat → Int32) (y6 : Nat → Int32), kOK (p_who X b).2 kr ∧ va_P D vwCl (wN ci am ((p_who X b).2) kr q0 q1 q2 q3 q4 q5 iw kn y0 y1 y2 y3 y4 y5 y6) H)) 0 0 (aM am) := by
  refine mu_Met (cc := cX4_who) (maxL := 4) (ret := (some .int)) [(0, .ref (am 0)), (1, .int (b))] (wN_D hI) (by decide) rfl (Nat.le_of_ble_eq_true rfl) rfl ?_
  intro p e s m below meth c H locs hx hb hml hr hlocks hts hown hP hK hs0 hD hS ls hl
  have hown : s.vm.findClass RX4 = some m.cls := hown
  have hinX4 : ∀ w ∈ wsX40, w ∈ wsX4_who := by decide +kernel
  have hE := hE_T
  have hWF := hWX.w
  have f_n := hWF.n
  have f_e := hWX.e
  have f_tl := hWX.t
  refine lv_iload_n hx hb dX4_who_0 rfl (lv_at hl 1 rfl) ?_
  refine lv_iconst (v := nI (0)) hx hb dX4_who_1 (by decide) ?_
  refine lv_sipush (v := nI (4095)) hx hb dX4_who_2 (by decide) ?_
  refine ro_S (n := 3) (As := [.int (b), .int (nI 0), .int (nI 4095)]) (rest := []) ⟨hx, hb, hml, hown, hts⟩ (c_X4_within l D ci (wN ci am X kr q0 q1 q2 q3 q4 q5 iw kn y0 y1 y2 y3 y4 y5 y6) (b) (nI (0)) (nI (4095)) ) gX4_who_X4_within rfl ⟨rfl, rfl⟩ (by decide +kernel) rfl ⟨Nat.le_of_ble_eq_true rfl, Nat.le_of_ble_eq_true rfl⟩ hE trivial hK hP hl.1 rfl (Nat.le_of_ble_eq_true rfl) dX4_who_5 ⟨Nat.zero_le _, Nat.zero_le _⟩ ?_
  refine nv_cv (congrArg bI (wth_in b 4095 (by decide))) ?_
  refine nv_ifne_b (tgt := 18) hx hb dX4_who_8 (by decide) (fun c1 => ?_) (fun c1 => ?_)
  · obtain ⟨bn, h_bn, rfl⟩ := in_ex c1 (by omega)
    have t_bn : tn (nI bn) = bn := tn_nI (by omega)
    refine lv_iconst (v := nI (0)) hx hb dX4_who_18 (by decide) ?_
    refine lv_istore_n (lv' := [(2, .int (nI 0)), (0, .ref (am 0)), (1, .int (nI bn))]) hx hb dX4_who_19 rfl hl (by decide) rfl (fun ls hl => ?_)
    refine lv_iconst (v := nI (0)) hx hb dX4_who_20 (by decide) ?_
    refine lv_istore_n (lv' := [(3, .int (nI 0)), (2, .int (nI 0)), (0, .ref (am 0)), (1, .int (nI bn))]) hx hb dX4_who_21 rfl hl (by decide) rfl (fun ls hl => ?_)
    have L22 : ∀ (k22 : Nat) (i : Nat), X.1 7 0 - i < k22 → (i ≤ X.1 7 0) → ∀ (x2 : Int32), ∀ (x3 : Int32), x2 = nI (setTo (fun q => bPlay X.1 q == bn) (i)) → x3 = nI (i) → ∀ ls : Array Slot, lv_has ls 4 [(2, .int (x2)), (3, .int (x3)), (0, .ref (am 0)), (1, .int (nI bn))] → W p l e (headSpec wsX4_who ({ frames := 5, cells := 0, slots := 0, locals := 114 } : Room)).room s m ([.ref (am 0), .int (nI bn)] : List Value).toArray below meth c H locs 0 0 (MQ below (mu_Q (aM am) (some (.int ((p_who X (nI bn)).1))) (fun H => ∃ (kr : Nat → Int32) (q0 : Int32) (q1 : Int32) (q2 : Int32) (q3 : Int32) (q4 : Int32) (q5 : Int32) (iw : Bool) (y0 : Nat → Int32) (y1 : Nat → Int32) (y2 : Nat → Int32) (y3 : Nat → Int32) (y4 : Nat → Int32) (y5 : Nat → Int32) (y6 : Nat → Int32), kOK (p_who X (nI bn)).2 kr ∧ va_P D vwCl (wN ci am ((p_who X (nI bn)).2) kr q0 q1 q2 q3 q4 q5 iw kn y0 y1 y2 y3 y4 y5 y6) H)) ([.ref (am 0), .int (nI bn)] : List Value).toArray s 0 0 (aM am)) (F0 m 22 ls []) := by
      intro k22
      induction k22 with
      | zero => intro i h0; exact absurd h0 (Nat.not_lt_zero _)
      | succ k22 ih22 =>
        intro i hk22 h_i x2 x3 e2 e3 ls hl
        subst e2
        subst e3
        refine lv_iload_n hx hb dX4_who_22 rfl (lv_at hl 1 rfl) ?_
        refine lv_aload_n hx hb dX4_who_23 rfl (lv_at hl 2 rfl) ?_
        refine va_get (D := D) (ci := 4) (v := .ref (am 1)) (C := RX4) (T := TX4) (N := 24) hx hb hts hinX4 hown hK hP 0 rfl rfl 0 (by decide) (hts (.fieldLink RX4 9 "OneShortModel" "now" "[I") (List.mem_of_getElem? (i := 2) rfl)) (fun _ h9 => h9) rfl dX4_who_24 ?_
        refine lv_iconst (v := nI (1)) hx hb dX4_who_27 (by decide) ?_
        refine nv_iald (v := nI (X.1 7 0)) hx hb hK hP 1 0 rfl rfl (by omega) (by decide) (pk_n X.1) dX4_who_28 ?_
        refine nv_icmp_ge (tgt := 57) hx hb (by omega) (by omega) dX4_who_29 (by decide) (fun c2 => ?_) (fun c2 => ?_)
        · refine lv_iload_n hx hb dX4_who_57 rfl (lv_at hl 0 rfl) ?_
          have hp : p_who X (nI bn) = (nI (setTo (fun q => bPlay X.1 q == bn) (i)), X) := by first | (simp [p_who, bk, fl_eq, c1, c2, t_bn]; done) | (simp [p_who, bk, fl_eq, show X.1 7 0 = i by omega, c1, c2, t_bn]; done)
          refine nv_cv (show nI (setTo (fun q => bPlay X.1 q == bn) (i)) = (p_who X (nI bn)).1 from by rw [hp]) ?_
          exact mu_iret hx hb hr hlocks hS ((by rw [hp]; exact ⟨_, _, _, _, _, _, _, _, _, _, _, _, _, _, _, hkr, hP⟩)) dX4_who_58
        · refine lv_iload_n hx hb dX4_who_32 rfl (lv_at hl 0 rfl) ?_
          refine lv_aload_n hx hb dX4_who_33 rfl (lv_at hl 2 rfl) ?_
          refine lv_iload_n hx hb dX4_who_34 rfl (lv_at hl 1 rfl) ?_
          refine ro_V (n := 1) (As := [.int (nI i)]) (rest := [.int (nI (setTo (fun q => bPlay X.1 q == bn) (i)))]) ⟨hx, hb, hml, hown, hts⟩ (c_X4_barsOf l D ci am X kr q0 q1 q2 q3 q4 q5 iw kn y0 y1 y2 y3 y4 y5 y6 (i) hWF (by omega)) gX4_who_X4_barsOf rfl ⟨rfl, rfl⟩ (by decide +kernel) rfl ⟨Nat.le_of_ble_eq_true rfl, Nat.le_of_ble_eq_true rfl⟩ hE trivial hK hP (ci := 4) (q0 := 0) rfl rfl hl.1 rfl (Nat.le_of_ble_eq_true rfl) dX4_who_35 ⟨Nat.zero_le _, Nat.zero_le _⟩ ?_
          have f3 := bPlay_lt X.1 (i)
          refine lv_iload_n hx hb dX4_who_38 rfl (lv_at hl 3 rfl) ?_
          refine nv_icmp_ne (tgt := 48) hx hb (by omega) (by omega) dX4_who_39 (by decide) (fun c4 => ?_) (fun c4 => ?_)
          · refine lv_iconst (v := nI (0)) hx hb dX4_who_48 (by decide) ?_
            refine nv_ior hx hb dX4_who_49 ?_
            refine lv_istore_n (lv' := [(2, .int (nI ((setTo (fun q => bPlay X.1 q == bn) (i) ||| 0)))), (3, .int (nI i)), (0, .ref (am 0)), (1, .int (nI bn))]) hx hb dX4_who_50 rfl hl (by decide) rfl (fun ls hl => ?_)
            refine nv_iinc1 (lv' := [(3, .int (nI (i + 1))), (2, .int (nI ((setTo (fun q => bPlay X.1 q == bn) (i) ||| 0)))), (0, .ref (am 0)), (1, .int (nI bn))]) hx hb dX4_who_51 hl (k := 1) rfl (by decide) rfl (fun ls hl => ?_)
            refine lv_goto (tgt := 22) hx hb dX4_who_54 (by decide) ?_
            exact ih22 (i + 1) (by omega) (by omega) (nI ((setTo (fun q => bPlay X.1 q == bn) (i) ||| 0))) (nI (i + 1)) (nv_e (by first | exact setTo_t (by simp [c4]) | exact setTo_f0 (by simp [c4]))) rfl ls (lv_sub hl [1, 0, 2, 3] rfl)
          · refine lv_iconst (v := nI (1)) hx hb dX4_who_42 (by decide) ?_
            refine lv_iload_n hx hb dX4_who_43 rfl (lv_at hl 1 rfl) ?_
            refine nv_ishl hx hb (by omega) dX4_who_44 ?_
            refine lv_goto (tgt := 49) hx hb dX4_who_45 (by decide) ?_
            refine nv_ior hx hb dX4_who_49 ?_
            refine lv_istore_n (lv' := [(2, .int (nI ((setTo (fun q => bPlay X.1 q == bn) (i) ||| (1 * 2 ^ (i)))))), (3, .int (nI i)), (0, .ref (am 0)), (1, .int (nI bn))]) hx hb dX4_who_50 rfl hl (by decide) rfl (fun ls hl => ?_)
            refine nv_iinc1 (lv' := [(3, .int (nI (i + 1))), (2, .int (nI ((setTo (fun q => bPlay X.1 q == bn) (i) ||| (1 * 2 ^ (i)))))), (0, .ref (am 0)), (1, .int (nI bn))]) hx hb dX4_who_51 hl (k := 1) rfl (by decide) rfl (fun ls hl => ?_)
            refine lv_goto (tgt := 22) hx hb dX4_who_54 (by decide) ?_
            exact ih22 (i + 1) (by omega) (by omega) (nI ((setTo (fun q => bPlay X.1 q == bn) (i) ||| (1 * 2 ^ (i))))) (nI (i + 1)) (nv_e (by first | exact setTo_t (by simp [c4]) | exact setTo_f0 (by simp [c4]))) rfl ls (lv_sub hl [1, 0, 2, 3] rfl)
    exact L22 _ (0) (Nat.lt_succ_self _) (by omega) (nI (0)) (nI (0)) rfl rfl ls (lv_sub hl [1, 0, 2, 3] rfl)
  · refine lv_aload_n hx hb dX4_who_11 rfl (lv_at hl 0 rfl) ?_
    refine lv_ldc (v := -1000001) hx hb hown (hts (.constant RX4 72 (-1000001)) (List.mem_of_getElem? (i := 1) rfl)) dX4_who_12 ?_
    refine mu_V (n := 1) (As := [.int (-1000001)]) (rest := []) ⟨hx, hb, hml, hown, hts⟩ (c_X4_finding l D ci am X kr q0 q1 q2 q3 q4 q5 iw kn y0 y1 y2 y3 y4 y5 y6 hI (-1000001) (0) (by omega) (by decide)) gX4_who_X4_finding rfl ⟨rfl, rfl⟩ (by decide +kernel) rfl ⟨Nat.le_of_ble_eq_true rfl, Nat.le_of_ble_eq_true rfl⟩ hE trivial hK hP (ci := 4) (q0 := 0) rfl rfl hl.1 rfl (Nat.le_of_ble_eq_true rfl) dX4_who_14 ⟨Nat.zero_le _, Nat.zero_le _⟩ hS (fun _ h => h) (fun H1 locs hz hfr hB hS => ?_)
    have hP := hB
    have hP : va_P D vwCl (wN ci am (toF X (inc X.2.2.2.1 0)) kr q0 q1 q2 q3 q4 q5 iw kn y0 y1 y2 y3 y4 y5 y6) H1 := hP
    generalize H1 = H at hP hS ⊢
    have hD : va_D (aM am) (wN ci am (toF X (inc X.2.2.2.1 0)) kr q0 q1 q2 q3 q4 q5 iw kn y0 y1 y2 y3 y4 y5 y6) := wN_D hI
    have hp : p_who X b = (fnd 0, toF X (inc X.2.2.2.1 0)) := by first | (simp [p_who, bk, fl_eq, c1]; done) | (simp [p_who, bk, fl_eq, show X.1 7 0 = i by omega, c1]; done)
    refine nv_cv (show fnd 0 = (p_who X b).1 from by rw [hp]) ?_
    exact mu_iret hx hb hr hlocks hS ((by rw [hp]; exact ⟨_, _, _, _, _, _, _, _, _, _, _, _, _, _, _, hkr, hP⟩)) dX4_who_17

set_option maxHeartbeats 4000000 in
set_option maxRecDepth 100000 in
/-- X4_halves -/
theorem c_X4_halves (l : Launch) (D : va_G) (ci : Nat → ClassId) (am : Nat → Nat) (X : AS) (kr : Nat → Int32) (q0 q1 q2 q3 q4 q5 : Int32) (iw : Bool) (kn : Nat → Option Nat) (y0 y1 y2 y3 y4 y5 y6 : Nat → Int32) (hI : injA am 16)  (hWX : WFX X) (hkr : kOK X kr) : Met l yX4_halves wsX4_halves ({ frames := 5, cells := 0, slots := 0, locals := 114 } : Room) (va_Pc [.ref (am 0)] (ro_B D (tyL ci) (wN ci am X kr q0 q1 q2 q3 q4 q5 iw kn y0 y1 y2 y3 y4 y5 y6) (enT))) (mu_Q (aM am) (some (.int ((p_halves X).1))) (fun H => ∃ (kr : Nat → Int32) (q0 : Int32) (q1 : Int32) (q2 : Int32) (q3 : Int32) (q4 : Int32) (q5 : Int32) (iw : Bool) (y0 : Nat → Int32) (y1 : Nat → Int32) (y2 : Nat → Int32) (y3 : Nat → Int32) (y4 : Nat → Int32) (y5 : Nat → Int32) (y6 : Nat → Int32), kOK (p_halves X).2 kr ∧ va_P D vwCl (wN ci am ((p_halves X).2) kr q0 q1 q2 q3 q4 q5 iw kn y0 y1 y2 y3 y4 y5 y6) H)) 0 0 (aM am) := by
  refine mu_Met (cc := cX4_halves) (maxL := 6) (ret := (some .int)) [(0, .ref (am 0))] (wN_D hI) (by decide) rfl (Nat.le_of_ble_eq_true rfl) rfl ?_
  intro p e s m below meth c H locs hx hb hml hr hlocks hts hown hP hK hs0 hD hS ls hl
  have hown : s.vm.findClass RX4 = some m.cls := hown
  have hinX4 : ∀ w ∈ wsX40, w ∈ wsX4_halves := by decide +kernel
  have hE := hE_T
  have hWF := hWX.w
  have f_n := hWF.n
  have f_e := hWX.e
  have f_tl := hWX.t
  refine lv_iconst (v := nI (0)) hx hb dX4_halves_0 (by decide) ?_
  refine lv_istore_n (lv' := [(1, .int (nI 0)), (0, .ref (am 0))]) hx hb dX4_halves_1 rfl hl (by decide) rfl (fun ls hl => ?_)
  refine lv_iconst (v := -1) hx hb dX4_halves_2 (by decide) ?_
  refine lv_istore_n (lv' := [(2, .int (-1)), (1, .int (nI 0)), (0, .ref (am 0))]) hx hb dX4_halves_3 rfl hl (by decide) rfl (fun ls hl => ?_)
  refine lv_iconst (v := nI (0)) hx hb dX4_halves_4 (by decide) ?_
  refine lv_istore_n (lv' := [(3, .int (nI 0)), (2, .int (-1)), (1, .int (nI 0)), (0, .ref (am 0))]) hx hb dX4_halves_5 rfl hl (by decide) rfl (fun ls hl => ?_)
  have L6 : ∀ (k6 : Nat) (i : Nat), 12 - i < k6 → (i ≤ 12) → ∀ (x1 : Int32), ∀ (x2 : Int32), ∀ (x3 : Int32), x1 = nI ((argTo (hlv X.1) (i)).1) → x2 = nI ((argTo (hlv X.1) (i)).2) - nI (1) → x3 = nI (i) → ∀ ls : Array Slot, lv_has ls 6 [(1, .int (x1)), (2, .int (x2)), (3, .int (x3)), (0, .ref (am 0))] → W p l e (headSpec wsX4_halves ({ frames := 5, cells := 0, slots := 0, locals := 114 } : Room)).room s m ([.ref (am 0)] : List Value).toArray below meth c H locs 0 0 (MQ below (mu_Q (aM am) (some (.int ((p_halves X).1))) (fun H => ∃ (kr : Nat → Int32) (q0 : Int32) (q1 : Int32) (q2 : Int32) (q3 : Int32) (q4 : Int32) (q5 : Int32) (iw : Bool) (y0 : Nat → Int32) (y1 : Nat → Int32) (y2 : Nat → Int32) (y3 : Nat → Int32) (y4 : Nat → Int32) (y5 : Nat → Int32) (y6 : Nat → Int32), kOK (p_halves X).2 kr ∧ va_P D vwCl (wN ci am ((p_halves X).2) kr q0 q1 q2 q3 q4 q5 iw kn y0 y1 y2 y3 y4 y5 y6) H)) ([.ref (am 0)] : List Value).toArray s 0 0 (aM am)) (F0 m 6 ls []) := by
    intro k6
    induction k6 with
    | zero => intro i h0; exact absurd h0 (Nat.not_lt_zero _)
    | succ k6 ih6 =>
      intro i hk6 h_i x1 x2 x3 e1 e2 e3 ls hl
      subst e1
      subst e2
      subst e3
      have f_a : (argTo (hlv X.1) i).2 ≤ 9 := arg_le i (fun v _ => hlv_lt hWF v)
      have f_p := pop_n (playIn_lt2 X.1 i)
      refine lv_iload_n hx hb dX4_halves_6 rfl (lv_at hl 2 rfl) ?_
      refine lv_bipush (v := nI (12)) hx hb dX4_halves_7 (by decide) ?_
      refine nv_icmp_ge (tgt := 63) hx hb (by omega) (by omega) dX4_halves_9 (by decide) (fun c1 => ?_) (fun c1 => ?_)
      · refine lv_iload_n hx hb dX4_halves_63 rfl (lv_at hl 0 rfl) ?_
        have hp : p_halves X = (nI ((argTo (hlv X.1) (i)).1), X) := by first | (rw [show i = 12 by omega]; rfl; done)
        refine nv_cv (show nI ((argTo (hlv X.1) (i)).1) = (p_halves X).1 from by rw [hp]) ?_
        exact mu_iret hx hb hr hlocks hS ((by rw [hp]; exact ⟨_, _, _, _, _, _, _, _, _, _, _, _, _, _, _, hkr, hP⟩)) dX4_halves_64
      · refine lv_aload_n hx hb dX4_halves_12 rfl (lv_at hl 3 rfl) ?_
        refine lv_iload_n hx hb dX4_halves_13 rfl (lv_at hl 2 rfl) ?_
        refine ro_V (n := 1) (As := [.int (nI i)]) (rest := []) ⟨hx, hb, hml, hown, hts⟩ (c_X4_playsIn l D ci am X kr q0 q1 q2 q3 q4 q5 iw kn y0 y1 y2 y3 y4 y5 y6 (i) hWF (by omega)) gX4_halves_X4_playsIn rfl ⟨rfl, rfl⟩ (by decide +kernel) rfl ⟨Nat.le_of_ble_eq_true rfl, Nat.le_of_ble_eq_true rfl⟩ hE trivial hK hP (ci := 4) (q0 := 0) rfl rfl hl.1 rfl (Nat.le_of_ble_eq_true rfl) dX4_halves_14 ⟨Nat.zero_le _, Nat.zero_le _⟩ ?_
        have f2 := playIn_lt hWF (i)
        refine ro_S (n := 1) (As := [.int (nI (playIn X.1 i))]) (rest := []) ⟨hx, hb, hml, hown, hts⟩ (c_X4_bits l D ci (wN ci am X kr q0 q1 q2 q3 q4 q5 iw kn y0 y1 y2 y3 y4 y5 y6) (playIn X.1 i) (by omega)) gX4_halves_X4_bits rfl ⟨rfl, rfl⟩ (by decide +kernel) rfl ⟨Nat.le_of_ble_eq_true rfl, Nat.le_of_ble_eq_true rfl⟩ hE trivial hK hP hl.1 rfl (Nat.le_of_ble_eq_true rfl) dX4_halves_17 ⟨Nat.zero_le _, Nat.zero_le _⟩ ?_
        have f3 := pop_le ((playIn X.1 i))
        refine lv_istore (lv' := [(4, .int (nI (pop (playIn X.1 i)))), (1, .int (nI ((argTo (hlv X.1) (i)).1))), (2, .int (nI ((argTo (hlv X.1) (i)).2) - nI (1))), (3, .int (nI i)), (0, .ref (am 0))]) hx hb dX4_halves_20 hl (by decide) rfl (fun ls hl => ?_)
        refine lv_iload hx hb dX4_halves_22 (lv_at hl 0 rfl) ?_
        refine lv_aload_n hx hb dX4_halves_24 rfl (lv_at hl 4 rfl) ?_
        refine va_get (D := D) (ci := 4) (v := .ref (am 1)) (C := RX4) (T := TX4) (N := 24) hx hb hts hinX4 hown hK hP 0 rfl rfl 0 (by decide) (hts (.fieldLink RX4 9 "OneShortModel" "now" "[I") (List.mem_of_getElem? (i := 1) rfl)) (fun _ h9 => h9) rfl dX4_halves_25 ?_
        refine lv_iconst (v := nI (1)) hx hb dX4_halves_28 (by decide) ?_
        refine nv_iald (v := nI (X.1 7 0)) hx hb hK hP 1 0 rfl rfl (by omega) (by decide) (pk_n X.1) dX4_halves_29 ?_
        refine lv_iload hx hb dX4_halves_30 (lv_at hl 0 rfl) ?_
        refine nv_isub hx hb (by omega) dX4_halves_32 ?_
        refine va_mmin hx hb (hml.trans hl.1.symm) hown (hts (.methodLink RX4 173 Lib.Math.min.name) (List.mem_of_getElem? (i := 2) rfl)) (hts (.static Lib.Math.min.name) (List.mem_of_getElem? (i := 3) rfl)) (hts (.initialized "java/lang/Math") (List.mem_of_getElem? (i := 4) rfl)) (hts (.code Lib.Math.min.name Lib.Math.min.code 2 (some .int)) (List.mem_of_getElem? (i := 5) rfl)) (Nat.le_of_ble_eq_true rfl) (Nat.le_of_ble_eq_true rfl) (Nat.zero_le _) (Nat.zero_le _) dX4_halves_33 (nv_cv (nv_min (x := pop (playIn X.1 i)) (y := (X.1 7 0 - pop (playIn X.1 i))) (by omega) (by omega)) ?_)
        refine lv_istore (lv' := [(5, .int (nI (min (pop (playIn X.1 i)) ((X.1 7 0 - pop (playIn X.1 i)))))), (4, .int (nI (pop (playIn X.1 i)))), (1, .int (nI ((argTo (hlv X.1) (i)).1))), (2, .int (nI ((argTo (hlv X.1) (i)).2) - nI (1))), (3, .int (nI i)), (0, .ref (am 0))]) hx hb dX4_halves_36 hl (by decide) rfl (fun ls hl => ?_)
        refine lv_iload hx hb dX4_halves_38 (lv_at hl 0 rfl) ?_
        refine lv_iload_n hx hb dX4_halves_40 rfl (lv_at hl 3 rfl) ?_
        refine nv_icmp_le_D (tgt := 48) hx hb (by omega) (by omega) dX4_halves_41 (by decide) (fun c4 => ?_) (fun c4 => ?_)
        · refine lv_iload_n hx hb dX4_halves_48 rfl (lv_at hl 2 rfl) ?_
          refine lv_istore_n (lv' := [(1, .int (nI ((argTo (hlv X.1) (i)).1))), (5, .int (nI (min (pop (playIn X.1 i)) ((X.1 7 0 - pop (playIn X.1 i)))))), (4, .int (nI (pop (playIn X.1 i)))), (2, .int (nI ((argTo (hlv X.1) (i)).2) - nI (1))), (3, .int (nI i)), (0, .ref (am 0))]) hx hb dX4_halves_49 rfl hl (by decide) rfl (fun ls hl => ?_)
          refine lv_iload_n hx hb dX4_halves_50 rfl (lv_at hl 3 rfl) ?_
          refine lv_iload hx hb dX4_halves_51 (lv_at hl 1 rfl) ?_
          refine va_mmax hx hb (hml.trans hl.1.symm) hown (hts (.methodLink RX4 118 Lib.Math.max.name) (List.mem_of_getElem? (i := 6) rfl)) (hts (.static Lib.Math.max.name) (List.mem_of_getElem? (i := 7) rfl)) (hts (.initialized "java/lang/Math") (List.mem_of_getElem? (i := 4) rfl)) (hts (.code Lib.Math.max.name Lib.Math.max.code 2 (some .int)) (List.mem_of_getElem? (i := 8) rfl)) (Nat.le_of_ble_eq_true rfl) (Nat.le_of_ble_eq_true rfl) (Nat.zero_le _) (Nat.zero_le _) dX4_halves_53 (nv_cv (nv_maxD (m := (argTo (hlv X.1) (i)).2) (x := min (pop (playIn X.1 i)) ((X.1 7 0 - pop (playIn X.1 i)))) (by omega) (by omega)) ?_)
          refine lv_istore_n (lv' := [(2, .int (nI (max ((argTo (hlv X.1) (i)).2) (min (pop (playIn X.1 i)) ((X.1 7 0 - pop (playIn X.1 i))) + 1)) - nI (1))), (1, .int (nI ((argTo (hlv X.1) (i)).1))), (5, .int (nI (min (pop (playIn X.1 i)) ((X.1 7 0 - pop (playIn X.1 i)))))), (4, .int (nI (pop (playIn X.1 i)))), (3, .int (nI i)), (0, .ref (am 0))]) hx hb dX4_halves_56 rfl hl (by decide) rfl (fun ls hl => ?_)
          refine nv_iinc1 (lv' := [(3, .int (nI (i + 1))), (2, .int (nI (max ((argTo (hlv X.1) (i)).2) (min (pop (playIn X.1 i)) ((X.1 7 0 - pop (playIn X.1 i))) + 1)) - nI (1))), (1, .int (nI ((argTo (hlv X.1) (i)).1))), (5, .int (nI (min (pop (playIn X.1 i)) ((X.1 7 0 - pop (playIn X.1 i)))))), (4, .int (nI (pop (playIn X.1 i)))), (0, .ref (am 0))]) hx hb dX4_halves_57 hl (k := 4) rfl (by decide) rfl (fun ls hl => ?_)
          refine lv_goto (tgt := 6) hx hb dX4_halves_60 (by decide) ?_
          exact ih6 (i + 1) (by omega) (by omega) (nI ((argTo (hlv X.1) (i)).1)) (nI (max ((argTo (hlv X.1) (i)).2) (min (pop (playIn X.1 i)) ((X.1 7 0 - pop (playIn X.1 i))) + 1)) - nI (1)) (nI (i + 1)) (nv_e (by first | rw [arg_t c4] | rw [arg_f c4])) (by exact congrArg (fun z => nI z - nI 1) (arg_max _ _)) rfl ls (lv_sub hl [2, 1, 0, 5] rfl)
        · refine lv_iload_n hx hb dX4_halves_44 rfl (lv_at hl 4 rfl) ?_
          refine lv_goto (tgt := 49) hx hb dX4_halves_45 (by decide) ?_
          refine lv_istore_n (lv' := [(1, .int (nI i)), (5, .int (nI (min (pop (playIn X.1 i)) ((X.1 7 0 - pop (playIn X.1 i)))))), (4, .int (nI (pop (playIn X.1 i)))), (2, .int (nI ((argTo (hlv X.1) (i)).2) - nI (1))), (3, .int (nI i)), (0, .ref (am 0))]) hx hb dX4_halves_49 rfl hl (by decide) rfl (fun ls hl => ?_)
          refine lv_iload_n hx hb dX4_halves_50 rfl (lv_at hl 3 rfl) ?_
          refine lv_iload hx hb dX4_halves_51 (lv_at hl 1 rfl) ?_
          refine va_mmax hx hb (hml.trans hl.1.symm) hown (hts (.methodLink RX4 118 Lib.Math.max.name) (List.mem_of_getElem? (i := 6) rfl)) (hts (.static Lib.Math.max.name) (List.mem_of_getElem? (i := 7) rfl)) (hts (.initialized "java/lang/Math") (List.mem_of_getElem? (i := 4) rfl)) (hts (.code Lib.Math.max.name Lib.Math.max.code 2 (some .int)) (List.mem_of_getElem? (i := 8) rfl)) (Nat.le_of_ble_eq_true rfl) (Nat.le_of_ble_eq_true rfl) (Nat.zero_le _) (Nat.zero_le _) dX4_halves_53 (nv_cv (nv_maxD (m := (argTo (hlv X.1) (i)).2) (x := min (pop (playIn X.1 i)) ((X.1 7 0 - pop (playIn X.1 i)))) (by omega) (by omega)) ?_)
          refine lv_istore_n (lv' := [(2, .int (nI (max ((argTo (hlv X.1) (i)).2) (min (pop (playIn X.1 i)) ((X.1 7 0 - pop (playIn X.1 i))) + 1)) - nI (1))), (1, .int (nI i)), (5, .int (nI (min (pop (playIn X.1 i)) ((X.1 7 0 - pop (playIn X.1 i)))))), (4, .int (nI (pop (playIn X.1 i)))), (3, .int (nI i)), (0, .ref (am 0))]) hx hb dX4_halves_56 rfl hl (by decide) rfl (fun ls hl => ?_)
          refine nv_iinc1 (lv' := [(3, .int (nI (i + 1))), (2, .int (nI (max ((argTo (hlv X.1) (i)).2) (min (pop (playIn X.1 i)) ((X.1 7 0 - pop (playIn X.1 i))) + 1)) - nI (1))), (1, .int (nI i)), (5, .int (nI (min (pop (playIn X.1 i)) ((X.1 7 0 - pop (playIn X.1 i)))))), (4, .int (nI (pop (playIn X.1 i)))), (0, .ref (am 0))]) hx hb dX4_halves_57 hl (k := 4) rfl (by decide) rfl (fun ls hl => ?_)
          refine lv_goto (tgt := 6) hx hb dX4_halves_60 (by decide) ?_
          exact ih6 (i + 1) (by omega) (by omega) (nI (i)) (nI (max ((argTo (hlv X.1) (i)).2) (min (pop (playIn X.1 i)) ((X.1 7 0 - pop (playIn X.1 i))) + 1)) - nI (1)) (nI (i + 1)) (nv_e (by first | rw [arg_t c4] | rw [arg_f c4])) (by exact congrArg (fun z => nI z - nI 1) (arg_max _ _)) rfl ls (lv_sub hl [2, 1, 0, 5] rfl)
  exact L6 _ (0) (Nat.lt_succ_self _) (by omega) (nI (0)) (-1) (nI (0)) rfl (by rfl) rfl ls (lv_sub hl [2, 1, 0, 3] rfl)

set_option maxHeartbeats 4000000 in
set_option maxRecDepth 100000 in
/-- X4_nearest -/
theorem c_X4_nearest (l : Launch) (D : va_G) (ci : Nat → ClassId) (am : Nat → Nat) (X : AS) (kr : Nat → Int32) (q0 q1 q2 q3 q4 q5 : Int32) (iw : Bool) (kn : Nat → Option Nat) (y0 y1 y2 y3 y4 y5 y6 : Nat → Int32) (hI : injA am 16) (x y : Int32) (hWX : WFX X) (hkr : kOK X kr) : Met l yX4_nearest wsX4_nearest ({ frames := 7, cells := 0, slots := 0, locals := 162 } : Room) (va_Pc [.ref (am 0), .int (x), .int (y)] (ro_B D (tyL ci) (wN ci am X kr q0 q1 q2 q3 q4 q5 iw kn y0 y1 y2 y3 y4 y5 y6) (enT))) (mu_Q (aM am) (some (.int ((p_nearest X x y).1))) (fun H => ∃ (kr : Nat → Int32) (q0 : Int32) (q1 : Int32) (q2 : Int32) (q3 : Int32) (q4 : Int32) (q5 : Int32) (iw : Bool) (y0 : Nat → Int32) (y1 : Nat → Int32) (y2 : Nat → Int32) (y3 : Nat → Int32) (y4 : Nat → Int32) (y5 : Nat → Int32) (y6 : Nat → Int32), kOK (p_nearest X x y).2 kr ∧ va_P D vwCl (wN ci am ((p_nearest X x y).2) kr q0 q1 q2 q3 q4 q5 iw kn y0 y1 y2 y3 y4 y5 y6) H)) 0 0 (aM am) := by
  refine mu_Met (cc := cX4_nearest) (maxL := 8) (ret := (some .int)) [(0, .ref (am 0)), (1, .int (x)), (2, .int (y))] (wN_D hI) (by decide) rfl (Nat.le_of_ble_eq_true rfl) rfl ?_
  intro p e s m below meth c H locs hx hb hml hr hlocks hts hown hP hK hs0 hD hS ls hl
  have hown : s.vm.findClass RX4 = some m.cls := hown
  have hinX4 : ∀ w ∈ wsX40, w ∈ wsX4_nearest := by decide +kernel
  have hE := hE_T
  have hWF := hWX.w
  have f_n := hWF.n
  have f_e := hWX.e
  have f_tl := hWX.t
  refine lv_aload_n hx hb dX4_nearest_0 rfl (lv_at hl 0 rfl) ?_
  refine lv_iload_n hx hb dX4_nearest_1 rfl (lv_at hl 1 rfl) ?_
  refine lv_iload_n hx hb dX4_nearest_2 rfl (lv_at hl 2 rfl) ?_
  refine ro_V (n := 2) (As := [.int (x), .int (y)]) (rest := []) ⟨hx, hb, hml, hown, hts⟩ (c_X4_areTwo l D ci am X kr q0 q1 q2 q3 q4 q5 iw kn y0 y1 y2 y3 y4 y5 y6 (x) (y) hWF) gX4_nearest_X4_areTwo rfl ⟨rfl, rfl⟩ (by decide +kernel) rfl ⟨Nat.le_of_ble_eq_true rfl, Nat.le_of_ble_eq_true rfl⟩ hE trivial hK hP (ci := 4) (q0 := 0) rfl rfl hl.1 rfl (Nat.le_of_ble_eq_true rfl) dX4_nearest_3 ⟨Nat.zero_le _, Nat.zero_le _⟩ ?_
  refine nv_ifne_b (tgt := 16) hx hb dX4_nearest_6 (by decide) (fun c1 => ?_) (fun c1 => ?_)
  · obtain ⟨xn, yn, h_xn, h_yn, h_ne, rfl, rfl⟩ := pair_ex c1 f_n
    have t_xn : tn (nI xn) = xn := tn_nI (by omega)
    have t_yn : tn (nI yn) = yn := tn_nI (by omega)
    refine lv_aload_n hx hb dX4_nearest_16 rfl (lv_at hl 0 rfl) ?_
    refine lv_iload_n hx hb dX4_nearest_17 rfl (lv_at hl 1 rfl) ?_
    refine lv_iconst (v := nI (1)) hx hb dX4_nearest_18 (by decide) ?_
    refine ro_V (n := 2) (As := [.int (nI xn), .int (nI 1)]) (rest := []) ⟨hx, hb, hml, hown, hts⟩ (c_X4_playerIs l D ci am X kr q0 q1 q2 q3 q4 q5 iw kn y0 y1 y2 y3 y4 y5 y6 (xn) (1) hWF (by omega) (by omega)) gX4_nearest_X4_playerIs rfl ⟨rfl, rfl⟩ (by decide +kernel) rfl ⟨Nat.le_of_ble_eq_true rfl, Nat.le_of_ble_eq_true rfl⟩ hE trivial hK hP (ci := 4) (q0 := 0) rfl rfl hl.1 rfl (Nat.le_of_ble_eq_true rfl) dX4_nearest_19 ⟨Nat.zero_le _, Nat.zero_le _⟩ ?_
    refine nv_cv (show nI (X.1 (1 + 1) xn) = nI (X.1 2 xn) from rfl) ?_
    have f2 := hWF.f2 xn
    refine lv_istore_n (lv' := [(3, .int (nI (X.1 2 xn))), (0, .ref (am 0)), (1, .int (nI xn)), (2, .int (nI yn))]) hx hb dX4_nearest_22 rfl hl (by decide) rfl (fun ls hl => ?_)
    refine lv_iconst (v := nI (0)) hx hb dX4_nearest_23 (by decide) ?_
    refine lv_istore (lv' := [(4, .int (nI 0)), (3, .int (nI (X.1 2 xn))), (0, .ref (am 0)), (1, .int (nI xn)), (2, .int (nI yn))]) hx hb dX4_nearest_24 hl (by decide) rfl (fun ls hl => ?_)
    refine lv_iconst (v := -1) hx hb dX4_nearest_26 (by decide) ?_
    refine lv_istore (lv' := [(5, .int (-1)), (4, .int (nI 0)), (3, .int (nI (X.1 2 xn))), (0, .ref (am 0)), (1, .int (nI xn)), (2, .int (nI yn))]) hx hb dX4_nearest_27 hl (by decide) rfl (fun ls hl => ?_)
    refine lv_iconst (v := nI (0)) hx hb dX4_nearest_29 (by decide) ?_
    refine lv_istore (lv' := [(6, .int (nI 0)), (5, .int (-1)), (4, .int (nI 0)), (3, .int (nI (X.1 2 xn))), (0, .ref (am 0)), (1, .int (nI xn)), (2, .int (nI yn))]) hx hb dX4_nearest_30 hl (by decide) rfl (fun ls hl => ?_)
    have L32 : ∀ (k32 : Nat) (i : Nat), 16 - i < k32 → (i ≤ 16) → ∀ (x4 : Int32), ∀ (x5 : Int32), ∀ (x6 : Int32), x4 = nI ((argTo (nrst X.1 xn yn) (i)).1) → x5 = nI ((argTo (nrst X.1 xn yn) (i)).2) - nI (1) → x6 = nI (i) → ∀ (H : Heap) (locs : List Loc), va_P D vwCl (wN ci am (toS X (bT X.1 2 xn i)) kr q0 q1 q2 q3 q4 q5 iw kn y0 y1 y2 y3 y4 y5 y6) H → va_S (aM am) s.heap H locs → ∀ ls : Array Slot, lv_has ls 8 [(4, .int (x4)), (5, .int (x5)), (6, .int (x6)), (3, .int (nI (X.1 2 xn))), (0, .ref (am 0)), (1, .int (nI xn)), (2, .int (nI yn))] → W p l e (headSpec wsX4_nearest ({ frames := 7, cells := 0, slots := 0, locals := 162 } : Room)).room s m ([.ref (am 0), .int (nI xn), .int (nI yn)] : List Value).toArray below meth c H locs 0 0 (MQ below (mu_Q (aM am) (some (.int ((p_nearest X (nI xn) (nI yn)).1))) (fun H => ∃ (kr : Nat → Int32) (q0 : Int32) (q1 : Int32) (q2 : Int32) (q3 : Int32) (q4 : Int32) (q5 : Int32) (iw : Bool) (y0 : Nat → Int32) (y1 : Nat → Int32) (y2 : Nat → Int32) (y3 : Nat → Int32) (y4 : Nat → Int32) (y5 : Nat → Int32) (y6 : Nat → Int32), kOK (p_nearest X (nI xn) (nI yn)).2 kr ∧ va_P D vwCl (wN ci am ((p_nearest X (nI xn) (nI yn)).2) kr q0 q1 q2 q3 q4 q5 iw kn y0 y1 y2 y3 y4 y5 y6) H)) ([.ref (am 0), .int (nI xn), .int (nI yn)] : List Value).toArray s 0 0 (aM am)) (F0 m 32 ls []) := by
      intro k32
      induction k32 with
      | zero => intro i h0; exact absurd h0 (Nat.not_lt_zero _)
      | succ k32 ih32 =>
        intro i hk32 h_i x4 x5 x6 e4 e5 e6  H locs hP hS ls hl
        subst e4
        subst e5
        subst e6
        have hD : va_D (aM am) (wN ci am (toS X (bT X.1 2 xn i)) kr q0 q1 q2 q3 q4 q5 iw kn y0 y1 y2 y3 y4 y5 y6) := wN_D hI
        have f_a : (argTo (nrst X.1 xn yn) i).2 ≤ 13 := arg_le i (fun v _ => Nat.lt_succ_of_le (pop_le _))
        refine lv_iload hx hb dX4_nearest_32 (lv_at hl 2 rfl) ?_
        refine lv_bipush (v := nI (16)) hx hb dX4_nearest_34 (by decide) ?_
        refine nv_icmp_ge (tgt := 93) hx hb (by omega) (by omega) dX4_nearest_36 (by decide) (fun c3 => ?_) (fun c3 => ?_)
        · refine lv_aload_n hx hb dX4_nearest_93 rfl (lv_at hl 4 rfl) ?_
          refine va_get (D := D) (ci := 4) (v := .ref (am 1)) (C := RX4) (T := TX4) (N := 24) hx hb hts hinX4 hown hK hP 0 rfl rfl 0 (by decide) (hts (.fieldLink RX4 9 "OneShortModel" "now" "[I") (List.mem_of_getElem? (i := 2) rfl)) (fun _ h9 => h9) rfl dX4_nearest_94 ?_
          refine lv_iload_n hx hb dX4_nearest_97 rfl (lv_at hl 5 rfl) ?_
          refine lv_iconst (v := nI (1)) hx hb dX4_nearest_98 (by decide) ?_
          refine ro_S (n := 2) (As := [.int (nI xn), .int (nI 1)]) (rest := [.ref (am 1)]) ⟨hx, hb, hml, hown, hts⟩ (c_X4_at l D ci (wN ci am (toS X (bT X.1 2 xn i)) kr q0 q1 q2 q3 q4 q5 iw kn y0 y1 y2 y3 y4 y5 y6) (xn) (1) ) gX4_nearest_X4_at rfl ⟨rfl, rfl⟩ (by decide +kernel) rfl ⟨Nat.le_of_ble_eq_true rfl, Nat.le_of_ble_eq_true rfl⟩ hE trivial hK hP hl.1 rfl (Nat.le_of_ble_eq_true rfl) dX4_nearest_99 ⟨Nat.zero_le _, Nat.zero_le _⟩ ?_
          refine lv_iload_n hx hb dX4_nearest_102 rfl (lv_at hl 3 rfl) ?_
          refine nv_iast hx hb hK hP hD hS 1 0 rfl rfl (by omega) (by decide) dX4_nearest_103 (fun H locs hP hD hS => ?_)
          have hP : va_P D vwCl (wN ci am (toS X (st (bT X.1 2 xn i) 2 xn (X.1 2 xn))) kr q0 q1 q2 q3 q4 q5 iw kn y0 y1 y2 y3 y4 y5 y6) H := va_P.re (wN_now ci am (toS X (bT X.1 2 xn i)) kr q0 q1 q2 q3 q4 q5 iw kn y0 y1 y2 y3 y4 y5 y6 (25 + 5 * xn + 1) (nI (X.1 2 xn)) (pku_f (bT X.1 2 xn i) xn (by omega))) hP
          have hD : va_D (aM am) (wN ci am (toS X (st (bT X.1 2 xn i) 2 xn (X.1 2 xn))) kr q0 q1 q2 q3 q4 q5 iw kn y0 y1 y2 y3 y4 y5 y6) := wN_D hI
          refine lv_iload hx hb dX4_nearest_104 (lv_at hl 0 rfl) ?_
          have hp : p_nearest X (nI xn) (nI yn) = (nI ((argTo (nrst X.1 xn yn) (i)).1), toS X (st (bT X.1 2 xn i) 2 xn (X.1 2 xn))) := by first | (simp [p_nearest, bk, fl_eq, c1, c3, t_xn, t_yn]; done) | (rw [bT_st, st_self, show i = 16 by omega]; simp [p_nearest, bk, fl_eq, toS_self, c1, c3, t_xn, t_yn]; done)
          refine nv_cv (show nI ((argTo (nrst X.1 xn yn) (i)).1) = (p_nearest X (nI xn) (nI yn)).1 from by rw [hp]) ?_
          exact mu_iret hx hb hr hlocks hS ((by rw [hp]; exact ⟨_, _, _, _, _, _, _, _, _, _, _, _, _, _, _, hkr, hP⟩)) dX4_nearest_106
        · refine lv_aload_n hx hb dX4_nearest_39 rfl (lv_at hl 4 rfl) ?_
          refine va_get (D := D) (ci := 4) (v := .ref (am 1)) (C := RX4) (T := TX4) (N := 24) hx hb hts hinX4 hown hK hP 0 rfl rfl 0 (by decide) (hts (.fieldLink RX4 9 "OneShortModel" "now" "[I") (List.mem_of_getElem? (i := 2) rfl)) (fun _ h9 => h9) rfl dX4_nearest_40 ?_
          refine lv_iload_n hx hb dX4_nearest_43 rfl (lv_at hl 5 rfl) ?_
          refine lv_iconst (v := nI (1)) hx hb dX4_nearest_44 (by decide) ?_
          refine ro_S (n := 2) (As := [.int (nI xn), .int (nI 1)]) (rest := [.ref (am 1)]) ⟨hx, hb, hml, hown, hts⟩ (c_X4_at l D ci (wN ci am (toS X (bT X.1 2 xn i)) kr q0 q1 q2 q3 q4 q5 iw kn y0 y1 y2 y3 y4 y5 y6) (xn) (1) ) gX4_nearest_X4_at rfl ⟨rfl, rfl⟩ (by decide +kernel) rfl ⟨Nat.le_of_ble_eq_true rfl, Nat.le_of_ble_eq_true rfl⟩ hE trivial hK hP hl.1 rfl (Nat.le_of_ble_eq_true rfl) dX4_nearest_45 ⟨Nat.zero_le _, Nat.zero_le _⟩ ?_
          refine lv_iload hx hb dX4_nearest_48 (lv_at hl 2 rfl) ?_
          refine nv_iast hx hb hK hP hD hS 1 0 rfl rfl (by omega) (by decide) dX4_nearest_50 (fun H locs hP hD hS => ?_)
          have hP : va_P D vwCl (wN ci am (toS X (st (bT X.1 2 xn i) 2 xn i)) kr q0 q1 q2 q3 q4 q5 iw kn y0 y1 y2 y3 y4 y5 y6) H := va_P.re (wN_now ci am (toS X (bT X.1 2 xn i)) kr q0 q1 q2 q3 q4 q5 iw kn y0 y1 y2 y3 y4 y5 y6 (25 + 5 * xn + 1) (nI (i)) (pku_f (bT X.1 2 xn i) xn (by omega))) hP
          have hD : va_D (aM am) (wN ci am (toS X (st (bT X.1 2 xn i) 2 xn i)) kr q0 q1 q2 q3 q4 q5 iw kn y0 y1 y2 y3 y4 y5 y6) := wN_D hI
          refine lv_aload_n hx hb dX4_nearest_51 rfl (lv_at hl 4 rfl) ?_
          refine lv_iload_n hx hb dX4_nearest_52 rfl (lv_at hl 5 rfl) ?_
          refine lv_iload_n hx hb dX4_nearest_53 rfl (lv_at hl 6 rfl) ?_
          refine ro_V (n := 2) (As := [.int (nI xn), .int (nI yn)]) (rest := []) ⟨hx, hb, hml, hown, hts⟩ (c_X4_hearsIn l D ci am (toS X (st (bT X.1 2 xn i) 2 xn i)) kr q0 q1 q2 q3 q4 q5 iw kn y0 y1 y2 y3 y4 y5 y6 (xn) (yn) (by rw [bT_st]; exact WF_st2 hWF _ (by omega)) (by omega) (by omega) (by omega)) gX4_nearest_X4_hearsIn rfl ⟨rfl, rfl⟩ (by decide +kernel) rfl ⟨Nat.le_of_ble_eq_true rfl, Nat.le_of_ble_eq_true rfl⟩ hE trivial hK hP (ci := 4) (q0 := 0) rfl rfl hl.1 rfl (Nat.le_of_ble_eq_true rfl) dX4_nearest_54 ⟨Nat.zero_le _, Nat.zero_le _⟩ ?_
          refine nv_cv (show nI (bHear (toS X (st (bT X.1 2 xn i) 2 xn i)).1 xn yn) = nI (bHear (st (bT X.1 2 xn i) 2 xn i) xn yn) from rfl) ?_
          have f4 := bHear_lt (toS X (st (bT X.1 2 xn i) 2 xn i)).1 (xn) (yn)
          have f5 := bHear_lt (st X.1 2 xn i) xn yn
          refine nv_cv (show nI (bHear (st (bT X.1 2 xn i) 2 xn i) xn yn) = nI (bHear (st X.1 2 xn i) xn yn) from congrArg nI (by rw [bT_st])) ?_
          refine ro_S (n := 1) (As := [.int (nI (bHear (st X.1 2 xn i) xn yn))]) (rest := []) ⟨hx, hb, hml, hown, hts⟩ (c_X4_bits l D ci (wN ci am (toS X (st (bT X.1 2 xn i) 2 xn i)) kr q0 q1 q2 q3 q4 q5 iw kn y0 y1 y2 y3 y4 y5 y6) (bHear (st X.1 2 xn i) xn yn) (by omega)) gX4_nearest_X4_bits rfl ⟨rfl, rfl⟩ (by decide +kernel) rfl ⟨Nat.le_of_ble_eq_true rfl, Nat.le_of_ble_eq_true rfl⟩ hE trivial hK hP hl.1 rfl (Nat.le_of_ble_eq_true rfl) dX4_nearest_57 ⟨Nat.zero_le _, Nat.zero_le _⟩ ?_
          have f6 := pop_le ((bHear (st X.1 2 xn i) xn yn))
          refine lv_istore (lv' := [(7, .int (nI (pop (bHear (st X.1 2 xn i) xn yn)))), (4, .int (nI ((argTo (nrst X.1 xn yn) (i)).1))), (5, .int (nI ((argTo (nrst X.1 xn yn) (i)).2) - nI (1))), (6, .int (nI i)), (3, .int (nI (X.1 2 xn))), (0, .ref (am 0)), (1, .int (nI xn)), (2, .int (nI yn))]) hx hb dX4_nearest_60 hl (by decide) rfl (fun ls hl => ?_)
          refine lv_iload hx hb dX4_nearest_62 (lv_at hl 0 rfl) ?_
          refine lv_iload hx hb dX4_nearest_64 (lv_at hl 2 rfl) ?_
          refine nv_icmp_le_D (tgt := 74) hx hb (by omega) (by omega) dX4_nearest_66 (by decide) (fun c7 => ?_) (fun c7 => ?_)
          · refine lv_iload hx hb dX4_nearest_74 (lv_at hl 1 rfl) ?_
            refine lv_istore (lv' := [(4, .int (nI ((argTo (nrst X.1 xn yn) (i)).1))), (7, .int (nI (pop (bHear (st X.1 2 xn i) xn yn)))), (5, .int (nI ((argTo (nrst X.1 xn yn) (i)).2) - nI (1))), (6, .int (nI i)), (3, .int (nI (X.1 2 xn))), (0, .ref (am 0)), (1, .int (nI xn)), (2, .int (nI yn))]) hx hb dX4_nearest_76 hl (by decide) rfl (fun ls hl => ?_)
            refine lv_iload hx hb dX4_nearest_78 (lv_at hl 2 rfl) ?_
            refine lv_iload hx hb dX4_nearest_80 (lv_at hl 1 rfl) ?_
            refine va_mmax hx hb (hml.trans hl.1.symm) hown (hts (.methodLink RX4 118 Lib.Math.max.name) (List.mem_of_getElem? (i := 3) rfl)) (hts (.static Lib.Math.max.name) (List.mem_of_getElem? (i := 4) rfl)) (hts (.initialized "java/lang/Math") (List.mem_of_getElem? (i := 5) rfl)) (hts (.code Lib.Math.max.name Lib.Math.max.code 2 (some .int)) (List.mem_of_getElem? (i := 6) rfl)) (Nat.le_of_ble_eq_true rfl) (Nat.le_of_ble_eq_true rfl) (Nat.zero_le _) (Nat.zero_le _) dX4_nearest_82 (nv_cv (nv_maxD (m := (argTo (nrst X.1 xn yn) (i)).2) (x := pop (bHear (st X.1 2 xn i) xn yn)) (by omega) (by omega)) ?_)
            refine lv_istore (lv' := [(5, .int (nI (max ((argTo (nrst X.1 xn yn) (i)).2) (pop (bHear (st X.1 2 xn i) xn yn) + 1)) - nI (1))), (4, .int (nI ((argTo (nrst X.1 xn yn) (i)).1))), (7, .int (nI (pop (bHear (st X.1 2 xn i) xn yn)))), (6, .int (nI i)), (3, .int (nI (X.1 2 xn))), (0, .ref (am 0)), (1, .int (nI xn)), (2, .int (nI yn))]) hx hb dX4_nearest_85 hl (by decide) rfl (fun ls hl => ?_)
            refine nv_iinc1 (lv' := [(6, .int (nI (i + 1))), (5, .int (nI (max ((argTo (nrst X.1 xn yn) (i)).2) (pop (bHear (st X.1 2 xn i) xn yn) + 1)) - nI (1))), (4, .int (nI ((argTo (nrst X.1 xn yn) (i)).1))), (7, .int (nI (pop (bHear (st X.1 2 xn i) xn yn)))), (3, .int (nI (X.1 2 xn))), (0, .ref (am 0)), (1, .int (nI xn)), (2, .int (nI yn))]) hx hb dX4_nearest_87 hl (k := 3) rfl (by decide) rfl (fun ls hl => ?_)
            refine lv_goto (tgt := 32) hx hb dX4_nearest_90 (by decide) ?_
            exact ih32 (i + 1) (by omega) (by omega) (nI ((argTo (nrst X.1 xn yn) (i)).1)) (nI (max ((argTo (nrst X.1 xn yn) (i)).2) (pop (bHear (st X.1 2 xn i) xn yn) + 1)) - nI (1)) (nI (i + 1)) (nv_e (by first | rw [arg_t c7] | rw [arg_f c7])) (by exact congrArg (fun z => nI z - nI 1) (arg_max _ _)) rfl _ _ (va_P.re (by rw [bT_st]; rfl) hP) hS ls (lv_sub hl [2, 1, 0, 4, 5, 6, 7] rfl)
          · refine lv_iload hx hb dX4_nearest_69 (lv_at hl 3 rfl) ?_
            refine lv_goto (tgt := 76) hx hb dX4_nearest_71 (by decide) ?_
            refine lv_istore (lv' := [(4, .int (nI i)), (7, .int (nI (pop (bHear (st X.1 2 xn i) xn yn)))), (5, .int (nI ((argTo (nrst X.1 xn yn) (i)).2) - nI (1))), (6, .int (nI i)), (3, .int (nI (X.1 2 xn))), (0, .ref (am 0)), (1, .int (nI xn)), (2, .int (nI yn))]) hx hb dX4_nearest_76 hl (by decide) rfl (fun ls hl => ?_)
            refine lv_iload hx hb dX4_nearest_78 (lv_at hl 2 rfl) ?_
            refine lv_iload hx hb dX4_nearest_80 (lv_at hl 1 rfl) ?_
            refine va_mmax hx hb (hml.trans hl.1.symm) hown (hts (.methodLink RX4 118 Lib.Math.max.name) (List.mem_of_getElem? (i := 3) rfl)) (hts (.static Lib.Math.max.name) (List.mem_of_getElem? (i := 4) rfl)) (hts (.initialized "java/lang/Math") (List.mem_of_getElem? (i := 5) rfl)) (hts (.code Lib.Math.max.name Lib.Math.max.code 2 (some .int)) (List.mem_of_getElem? (i := 6) rfl)) (Nat.le_of_ble_eq_true rfl) (Nat.le_of_ble_eq_true rfl) (Nat.zero_le _) (Nat.zero_le _) dX4_nearest_82 (nv_cv (nv_maxD (m := (argTo (nrst X.1 xn yn) (i)).2) (x := pop (bHear (st X.1 2 xn i) xn yn)) (by omega) (by omega)) ?_)
            refine lv_istore (lv' := [(5, .int (nI (max ((argTo (nrst X.1 xn yn) (i)).2) (pop (bHear (st X.1 2 xn i) xn yn) + 1)) - nI (1))), (4, .int (nI i)), (7, .int (nI (pop (bHear (st X.1 2 xn i) xn yn)))), (6, .int (nI i)), (3, .int (nI (X.1 2 xn))), (0, .ref (am 0)), (1, .int (nI xn)), (2, .int (nI yn))]) hx hb dX4_nearest_85 hl (by decide) rfl (fun ls hl => ?_)
            refine nv_iinc1 (lv' := [(6, .int (nI (i + 1))), (5, .int (nI (max ((argTo (nrst X.1 xn yn) (i)).2) (pop (bHear (st X.1 2 xn i) xn yn) + 1)) - nI (1))), (4, .int (nI i)), (7, .int (nI (pop (bHear (st X.1 2 xn i) xn yn)))), (3, .int (nI (X.1 2 xn))), (0, .ref (am 0)), (1, .int (nI xn)), (2, .int (nI yn))]) hx hb dX4_nearest_87 hl (k := 3) rfl (by decide) rfl (fun ls hl => ?_)
            refine lv_goto (tgt := 32) hx hb dX4_nearest_90 (by decide) ?_
            exact ih32 (i + 1) (by omega) (by omega) (nI (i)) (nI (max ((argTo (nrst X.1 xn yn) (i)).2) (pop (bHear (st X.1 2 xn i) xn yn) + 1)) - nI (1)) (nI (i + 1)) (nv_e (by first | rw [arg_t c7] | rw [arg_f c7])) (by exact congrArg (fun z => nI z - nI 1) (arg_max _ _)) rfl _ _ (va_P.re (by rw [bT_st]; rfl) hP) hS ls (lv_sub hl [2, 1, 0, 4, 5, 6, 7] rfl)
    exact L32 _ (0) (Nat.lt_succ_self _) (by omega) (nI (0)) (-1) (nI (0)) rfl (by rfl) rfl _ _ (va_P.re (by rfl) hP) hS ls (lv_sub hl [2, 1, 0, 3, 4, 5, 6] rfl)
  · refine lv_aload_n hx hb dX4_nearest_9 rfl (lv_at hl 0 rfl) ?_
    refine lv_ldc (v := -1000001) hx hb hown (hts (.constant RX4 72 (-1000001)) (List.mem_of_getElem? (i := 1) rfl)) dX4_nearest_10 ?_
    refine mu_V (n := 1) (As := [.int (-1000001)]) (rest := []) ⟨hx, hb, hml, hown, hts⟩ (c_X4_finding l D ci am X kr q0 q1 q2 q3 q4 q5 iw kn y0 y1 y2 y3 y4 y5 y6 hI (-1000001) (0) (by omega) (by decide)) gX4_nearest_X4_finding rfl ⟨rfl, rfl⟩ (by decide +kernel) rfl ⟨Nat.le_of_ble_eq_true rfl, Nat.le_of_ble_eq_true rfl⟩ hE trivial hK hP (ci := 4) (q0 := 0) rfl rfl hl.1 rfl (Nat.le_of_ble_eq_true rfl) dX4_nearest_12 ⟨Nat.zero_le _, Nat.zero_le _⟩ hS (fun _ h => h) (fun H1 locs hz hfr hB hS => ?_)
    have hP := hB
    have hP : va_P D vwCl (wN ci am (toF X (inc X.2.2.2.1 0)) kr q0 q1 q2 q3 q4 q5 iw kn y0 y1 y2 y3 y4 y5 y6) H1 := hP
    generalize H1 = H at hP hS ⊢
    have hD : va_D (aM am) (wN ci am (toF X (inc X.2.2.2.1 0)) kr q0 q1 q2 q3 q4 q5 iw kn y0 y1 y2 y3 y4 y5 y6) := wN_D hI
    have hp : p_nearest X x y = (fnd 0, toF X (inc X.2.2.2.1 0)) := by first | (simp [p_nearest, bk, fl_eq, c1]; done) | (rw [bT_st, st_self, show i = 16 by omega]; simp [p_nearest, bk, fl_eq, toS_self, c1]; done)
    refine nv_cv (show fnd 0 = (p_nearest X x y).1 from by rw [hp]) ?_
    exact mu_iret hx hb hr hlocks hS ((by rw [hp]; exact ⟨_, _, _, _, _, _, _, _, _, _, _, _, _, _, _, hkr, hP⟩)) dX4_nearest_15

set_option maxHeartbeats 4000000 in
set_option maxRecDepth 100000 in
/-- X4_count -/
theorem c_X4_count (l : Launch) (D : va_G) (ci : Nat → ClassId) (am : Nat → Nat) (X : AS) (kr : Nat → Int32) (q0 q1 q2 q3 q4 q5 : Int32) (iw : Bool) (kn : Nat → Option Nat) (y0 y1 y2 y3 y4 y5 y6 : Nat → Int32) (hI : injA am 16) (w : Int32) (hWX : WFX X) (hkr : kOK X kr) : Met l yX4_count wsX4_count ({ frames := 3, cells := 0, slots := 0, locals := 66 } : Room) (va_Pc [.ref (am 0), .int (w)] (ro_B D (tyL ci) (wN ci am X kr q0 q1 q2 q3 q4 q5 iw kn y0 y1 y2 y3 y4 y5 y6) (enT))) (mu_Q (aM am) (some (.int ((p_count X w).1))) (fun H => ∃ (kr : Nat → Int32) (q0 : Int32) (q1 : Int32) (q2 : Int32) (q3 : Int32) (q4 : Int32) (q5 : Int32) (iw : Bool) (y0 : Nat → Int32) (y1 : Nat → Int32) (y2 : Nat → Int32) (y3 : Nat → Int32) (y4 : Nat → Int32) (y5 : Nat → Int32) (y6 : Nat → Int32), kOK (p_count X w).2 kr ∧ va_P D vwCl (wN ci am ((p_count X w).2) kr q0 q1 q2 q3 q4 q5 iw kn y0 y1 y2 y3 y4 y5 y6) H)) 0 0 (aM am) := by
  refine mu_Met (cc := cX4_count) (maxL := 4) (ret := (some .int)) [(0, .ref (am 0)), (1, .int (w))] (wN_D hI) (by decide) rfl (Nat.le_of_ble_eq_true rfl) rfl ?_
  intro p e s m below meth c H locs hx hb hml hr hlocks hts hown hP hK hs0 hD hS ls hl
  have hown : s.vm.findClass RX4 = some m.cls := hown
  have hinX4 : ∀ w ∈ wsX40, w ∈ wsX4_count := by decide +kernel
  have hE := hE_T
  have hWF := hWX.w
  have f_n := hWF.n
  have f_e := hWX.e
  have f_tl := hWX.t
  refine lv_iconst (v := nI (0)) hx hb dX4_count_0 (by decide) ?_
  refine lv_istore_n (lv' := [(2, .int (nI 0)), (0, .ref (am 0)), (1, .int (w))]) hx hb dX4_count_1 rfl hl (by decide) rfl (fun ls hl => ?_)
  refine lv_iload_n hx hb dX4_count_2 rfl (lv_at hl 2 rfl) ?_
  rcases Bool.eq_false_or_eq_true (inN w 8) with i1 | i1
  · obtain ⟨wn, h_wn, rfl⟩ := in_ex i1 (by decide)
    rcases (show wn = 0 ∨ wn = 1 ∨ wn = 2 ∨ wn = 3 ∨ wn = 4 ∨ wn = 5 ∨ wn = 6 ∨ wn = 7 by omega) with rfl | rfl | rfl | rfl | rfl | rfl | rfl | rfl
    · have t_w : tn (nI 0) = 0 := tn_nI (by decide)
      refine lv_tableIn (x := nI 0) (off := 45) (tgt := 48) hx hb dX4_count_3 (by decide) (by decide) (by decide) (by decide) ?_
      refine lv_aload_n hx hb dX4_count_48 rfl (lv_at hl 1 rfl) ?_
      refine va_get (D := D) (ci := 4) (v := .ref (am 1)) (C := RX4) (T := TX4) (N := 24) hx hb hts hinX4 hown hK hP 0 rfl rfl 0 (by decide) (hts (.fieldLink RX4 9 "OneShortModel" "now" "[I") (List.mem_of_getElem? (i := 1) rfl)) (fun _ h9 => h9) rfl dX4_count_49 ?_
      refine lv_iconst (v := nI (0)) hx hb dX4_count_52 (by decide) ?_
      refine nv_iald (v := nI (X.1 8 0)) hx hb hK hP 1 0 rfl rfl (by omega) (by decide) (pk_ev X.1) dX4_count_53 ?_
      have hp : p_count X (nI 0) = (nI (X.1 8 0), X) := by first | (simp [p_count, sNerve, sLoud, bk, fl_eq, inP, i1, t_w]; done) | ((rw [show i = 10 by omega]; simp [p_count, spotsT, bk, fl_eq, i1, t_w]); done)
      refine nv_cv (show nI (X.1 8 0) = (p_count X (nI 0)).1 from by rw [hp]) ?_
      exact mu_iret hx hb hr hlocks hS ((by rw [hp]; exact ⟨_, _, _, _, _, _, _, _, _, _, _, _, _, _, _, hkr, hP⟩)) dX4_count_54
    · have t_w : tn (nI 1) = 1 := tn_nI (by decide)
      refine lv_tableIn (x := nI 1) (off := 52) (tgt := 55) hx hb dX4_count_3 (by decide) (by decide) (by decide) (by decide) ?_
      refine lv_aload_n hx hb dX4_count_55 rfl (lv_at hl 1 rfl) ?_
      refine va_get (D := D) (ci := 4) (v := .ref (am 1)) (C := RX4) (T := TX4) (N := 24) hx hb hts hinX4 hown hK hP 0 rfl rfl 0 (by decide) (hts (.fieldLink RX4 9 "OneShortModel" "now" "[I") (List.mem_of_getElem? (i := 1) rfl)) (fun _ h9 => h9) rfl dX4_count_56 ?_
      refine lv_iconst (v := nI (1)) hx hb dX4_count_59 (by decide) ?_
      refine nv_iald (v := nI (X.1 7 0)) hx hb hK hP 1 0 rfl rfl (by omega) (by decide) (pk_n X.1) dX4_count_60 ?_
      have hp : p_count X (nI 1) = (nI (X.1 7 0), X) := by first | (simp [p_count, sNerve, sLoud, bk, fl_eq, inP, i1, t_w]; done) | ((rw [show i = 10 by omega]; simp [p_count, spotsT, bk, fl_eq, i1, t_w]); done)
      refine nv_cv (show nI (X.1 7 0) = (p_count X (nI 1)).1 from by rw [hp]) ?_
      exact mu_iret hx hb hr hlocks hS ((by rw [hp]; exact ⟨_, _, _, _, _, _, _, _, _, _, _, _, _, _, _, hkr, hP⟩)) dX4_count_61
    · have t_w : tn (nI 2) = 2 := tn_nI (by decide)
      refine lv_tableIn (x := nI 2) (off := 59) (tgt := 62) hx hb dX4_count_3 (by decide) (by decide) (by decide) (by decide) ?_
      refine lv_aload_n hx hb dX4_count_62 rfl (lv_at hl 1 rfl) ?_
      refine ro_V (n := 0) (As := []) (rest := []) ⟨hx, hb, hml, hown, hts⟩ (c_X4_downNow l D ci am X kr q0 q1 q2 q3 q4 q5 iw kn y0 y1 y2 y3 y4 y5 y6  hWF) gX4_count_X4_downNow rfl ⟨rfl, rfl⟩ (by decide +kernel) rfl ⟨Nat.le_of_ble_eq_true rfl, Nat.le_of_ble_eq_true rfl⟩ hE trivial hK hP (ci := 4) (q0 := 0) rfl rfl hl.1 rfl (Nat.le_of_ble_eq_true rfl) dX4_count_63 ⟨Nat.zero_le _, Nat.zero_le _⟩ ?_
      have f2 := unner_lt hWF
      refine ro_S (n := 1) (As := [.int (nI (unner X.1))]) (rest := []) ⟨hx, hb, hml, hown, hts⟩ (c_X4_bits l D ci (wN ci am X kr q0 q1 q2 q3 q4 q5 iw kn y0 y1 y2 y3 y4 y5 y6) (unner X.1) (by omega)) gX4_count_X4_bits rfl ⟨rfl, rfl⟩ (by decide +kernel) rfl ⟨Nat.le_of_ble_eq_true rfl, Nat.le_of_ble_eq_true rfl⟩ hE trivial hK hP hl.1 rfl (Nat.le_of_ble_eq_true rfl) dX4_count_66 ⟨Nat.zero_le _, Nat.zero_le _⟩ ?_
      have f3 := pop_le ((unner X.1))
      have hp : p_count X (nI 2) = (nI (pop (unner X.1)), X) := by first | (simp [p_count, sNerve, sLoud, bk, fl_eq, inP, i1, t_w]; done) | ((rw [show i = 10 by omega]; simp [p_count, spotsT, bk, fl_eq, i1, t_w]); done)
      refine nv_cv (show nI (pop (unner X.1)) = (p_count X (nI 2)).1 from by rw [hp]) ?_
      exact mu_iret hx hb hr hlocks hS ((by rw [hp]; exact ⟨_, _, _, _, _, _, _, _, _, _, _, _, _, _, _, hkr, hP⟩)) dX4_count_69
    · have t_w : tn (nI 3) = 3 := tn_nI (by decide)
      refine lv_tableIn (x := nI 3) (off := 67) (tgt := 70) hx hb dX4_count_3 (by decide) (by decide) (by decide) (by decide) ?_
      refine lv_aload_n hx hb dX4_count_70 rfl (lv_at hl 1 rfl) ?_
      refine lv_iconst (v := nI (3)) hx hb dX4_count_71 (by decide) ?_
      refine ro_V (n := 1) (As := [.int (nI 3)]) (rest := []) ⟨hx, hb, hml, hown, hts⟩ (c_X4_sumOf l D ci am X kr q0 q1 q2 q3 q4 q5 iw kn y0 y1 y2 y3 y4 y5 y6 (3) hWF (by omega)) gX4_count_X4_sumOf rfl ⟨rfl, rfl⟩ (by decide +kernel) rfl ⟨Nat.le_of_ble_eq_true rfl, Nat.le_of_ble_eq_true rfl⟩ hE trivial hK hP (ci := 4) (q0 := 0) rfl rfl hl.1 rfl (Nat.le_of_ble_eq_true rfl) dX4_count_72 ⟨Nat.zero_le _, Nat.zero_le _⟩ ?_
      refine nv_cv (show nI (sumTo (fun q => X.1 (3 + 1) q) (X.1 7 0)) = nI (sumTo (fun q => X.1 4 q) (X.1 7 0)) from rfl) ?_
      have hp : p_count X (nI 3) = (nI (sumTo (fun q => X.1 4 q) (X.1 7 0)), X) := by first | (simp [p_count, sNerve, sLoud, bk, fl_eq, inP, i1, t_w]; done) | ((rw [show i = 10 by omega]; simp [p_count, spotsT, bk, fl_eq, i1, t_w]); done)
      refine nv_cv (show nI (sumTo (fun q => X.1 4 q) (X.1 7 0)) = (p_count X (nI 3)).1 from by rw [hp]) ?_
      exact mu_iret hx hb hr hlocks hS ((by rw [hp]; exact ⟨_, _, _, _, _, _, _, _, _, _, _, _, _, _, _, hkr, hP⟩)) dX4_count_75
    · have t_w : tn (nI 4) = 4 := tn_nI (by decide)
      refine lv_tableIn (x := nI 4) (off := 73) (tgt := 76) hx hb dX4_count_3 (by decide) (by decide) (by decide) (by decide) ?_
      refine lv_aload_n hx hb dX4_count_76 rfl (lv_at hl 1 rfl) ?_
      refine lv_iconst (v := nI (4)) hx hb dX4_count_77 (by decide) ?_
      refine ro_V (n := 1) (As := [.int (nI 4)]) (rest := []) ⟨hx, hb, hml, hown, hts⟩ (c_X4_sumOf l D ci am X kr q0 q1 q2 q3 q4 q5 iw kn y0 y1 y2 y3 y4 y5 y6 (4) hWF (by omega)) gX4_count_X4_sumOf rfl ⟨rfl, rfl⟩ (by decide +kernel) rfl ⟨Nat.le_of_ble_eq_true rfl, Nat.le_of_ble_eq_true rfl⟩ hE trivial hK hP (ci := 4) (q0 := 0) rfl rfl hl.1 rfl (Nat.le_of_ble_eq_true rfl) dX4_count_78 ⟨Nat.zero_le _, Nat.zero_le _⟩ ?_
      refine nv_cv (show nI (sumTo (fun q => X.1 (4 + 1) q) (X.1 7 0)) = nI (sumTo (fun q => X.1 5 q) (X.1 7 0)) from rfl) ?_
      have hp : p_count X (nI 4) = (nI (sumTo (fun q => X.1 5 q) (X.1 7 0)), X) := by first | (simp [p_count, sNerve, sLoud, bk, fl_eq, inP, i1, t_w]; done) | ((rw [show i = 10 by omega]; simp [p_count, spotsT, bk, fl_eq, i1, t_w]); done)
      refine nv_cv (show nI (sumTo (fun q => X.1 5 q) (X.1 7 0)) = (p_count X (nI 4)).1 from by rw [hp]) ?_
      exact mu_iret hx hb hr hlocks hS ((by rw [hp]; exact ⟨_, _, _, _, _, _, _, _, _, _, _, _, _, _, _, hkr, hP⟩)) dX4_count_81
    · have t_w : tn (nI 5) = 5 := tn_nI (by decide)
      refine lv_tableIn (x := nI 5) (off := 79) (tgt := 82) hx hb dX4_count_3 (by decide) (by decide) (by decide) (by decide) ?_
      refine lv_aload_n hx hb dX4_count_82 rfl (lv_at hl 1 rfl) ?_
      refine va_get (D := D) (ci := 4) (v := .int (nI (X.2.2.2.2.1))) (C := RX4) (T := TX4) (N := 24) hx hb hts hinX4 hown hK hP 0 rfl rfl 10 (by decide) (hts (.fieldLink RX4 246 "OneShortModel" "taped" "I") (List.mem_of_getElem? (i := 2) rfl)) (fun _ h9 => h9) rfl dX4_count_83 ?_
      have hp : p_count X (nI 5) = (nI (X.2.2.2.2.1), X) := by first | (simp [p_count, sNerve, sLoud, bk, fl_eq, inP, i1, t_w]; done) | ((rw [show i = 10 by omega]; simp [p_count, spotsT, bk, fl_eq, i1, t_w]); done)
      refine nv_cv (show nI (X.2.2.2.2.1) = (p_count X (nI 5)).1 from by rw [hp]) ?_
      exact mu_iret hx hb hr hlocks hS ((by rw [hp]; exact ⟨_, _, _, _, _, _, _, _, _, _, _, _, _, _, _, hkr, hP⟩)) dX4_count_86
    · have t_w : tn (nI 6) = 6 := tn_nI (by decide)
      refine lv_tableIn (x := nI 6) (off := 84) (tgt := 87) hx hb dX4_count_3 (by decide) (by decide) (by decide) (by decide) ?_
      refine lv_aload_n hx hb dX4_count_87 rfl (lv_at hl 1 rfl) ?_
      refine va_get (D := D) (ci := 4) (v := .ref (am 1)) (C := RX4) (T := TX4) (N := 24) hx hb hts hinX4 hown hK hP 0 rfl rfl 0 (by decide) (hts (.fieldLink RX4 9 "OneShortModel" "now" "[I") (List.mem_of_getElem? (i := 1) rfl)) (fun _ h9 => h9) rfl dX4_count_88 ?_
      refine lv_iconst (v := nI (2)) hx hb dX4_count_91 (by decide) ?_
      refine nv_iald (v := nI (X.1 9 0)) hx hb hK hP 1 0 rfl rfl (by omega) (by decide) (pk_z X.1) dX4_count_92 ?_
      have hp : p_count X (nI 6) = (nI (X.1 9 0), X) := by first | (simp [p_count, sNerve, sLoud, bk, fl_eq, inP, i1, t_w]; done) | ((rw [show i = 10 by omega]; simp [p_count, spotsT, bk, fl_eq, i1, t_w]); done)
      refine nv_cv (show nI (X.1 9 0) = (p_count X (nI 6)).1 from by rw [hp]) ?_
      exact mu_iret hx hb hr hlocks hS ((by rw [hp]; exact ⟨_, _, _, _, _, _, _, _, _, _, _, _, _, _, _, hkr, hP⟩)) dX4_count_93
    · have t_w : tn (nI 7) = 7 := tn_nI (by decide)
      refine lv_tableIn (x := nI 7) (off := 91) (tgt := 94) hx hb dX4_count_3 (by decide) (by decide) (by decide) (by decide) ?_
      refine lv_iconst (v := nI (0)) hx hb dX4_count_94 (by decide) ?_
      refine lv_istore_n (lv' := [(3, .int (nI 0)), (2, .int (nI 0)), (0, .ref (am 0)), (1, .int (nI 7))]) hx hb dX4_count_95 rfl hl (by decide) rfl (fun ls hl => ?_)
      have L96 : ∀ (k96 : Nat) (i : Nat), 10 - i < k96 → (i ≤ 10) → ∀ (x2 : Int32), ∀ (x3 : Int32), x2 = nI (cntTo (fun k => decide (0 < X.1 6 k)) (i)) → x3 = nI (i) → ∀ ls : Array Slot, lv_has ls 4 [(2, .int (x2)), (3, .int (x3)), (0, .ref (am 0)), (1, .int (nI 7))] → W p l e (headSpec wsX4_count ({ frames := 3, cells := 0, slots := 0, locals := 66 } : Room)).room s m ([.ref (am 0), .int (nI 7)] : List Value).toArray below meth c H locs 0 0 (MQ below (mu_Q (aM am) (some (.int ((p_count X (nI 7)).1))) (fun H => ∃ (kr : Nat → Int32) (q0 : Int32) (q1 : Int32) (q2 : Int32) (q3 : Int32) (q4 : Int32) (q5 : Int32) (iw : Bool) (y0 : Nat → Int32) (y1 : Nat → Int32) (y2 : Nat → Int32) (y3 : Nat → Int32) (y4 : Nat → Int32) (y5 : Nat → Int32) (y6 : Nat → Int32), kOK (p_count X (nI 7)).2 kr ∧ va_P D vwCl (wN ci am ((p_count X (nI 7)).2) kr q0 q1 q2 q3 q4 q5 iw kn y0 y1 y2 y3 y4 y5 y6) H)) ([.ref (am 0), .int (nI 7)] : List Value).toArray s 0 0 (aM am)) (F0 m 96 ls []) := by
        intro k96
        induction k96 with
        | zero => intro i h0; exact absurd h0 (Nat.not_lt_zero _)
        | succ k96 ih96 =>
          intro i hk96 h_i x2 x3 e2 e3 ls hl
          subst e2
          subst e3
          have f_c := cntTo_le (fun k => decide (0 < X.1 6 k)) i
          refine lv_iload_n hx hb dX4_count_96 rfl (lv_at hl 1 rfl) ?_
          refine lv_bipush (v := nI (10)) hx hb dX4_count_97 (by decide) ?_
          refine nv_icmp_ge (tgt := 128) hx hb (by omega) (by omega) dX4_count_99 (by decide) (fun c4 => ?_) (fun c4 => ?_)
          · refine lv_iload_n hx hb dX4_count_128 rfl (lv_at hl 0 rfl) ?_
            have hp : p_count X (nI 7) = (nI (cntTo (fun k => decide (0 < X.1 6 k)) (i)), X) := by first | (simp [p_count, sNerve, sLoud, bk, fl_eq, inP, c4, i1, t_w]; done) | ((rw [show i = 10 by omega]; simp [p_count, spotsT, bk, fl_eq, c4, i1, t_w]); done)
            refine nv_cv (show nI (cntTo (fun k => decide (0 < X.1 6 k)) (i)) = (p_count X (nI 7)).1 from by rw [hp]) ?_
            exact mu_iret hx hb hr hlocks hS ((by rw [hp]; exact ⟨_, _, _, _, _, _, _, _, _, _, _, _, _, _, _, hkr, hP⟩)) dX4_count_129
          · refine lv_iload_n hx hb dX4_count_102 rfl (lv_at hl 0 rfl) ?_
            refine lv_aload_n hx hb dX4_count_103 rfl (lv_at hl 2 rfl) ?_
            refine va_get (D := D) (ci := 4) (v := .ref (am 1)) (C := RX4) (T := TX4) (N := 24) hx hb hts hinX4 hown hK hP 0 rfl rfl 0 (by decide) (hts (.fieldLink RX4 9 "OneShortModel" "now" "[I") (List.mem_of_getElem? (i := 1) rfl)) (fun _ h9 => h9) rfl dX4_count_104 ?_
            refine lv_bipush (v := nI (15)) hx hb dX4_count_107 (by decide) ?_
            refine lv_iload_n hx hb dX4_count_109 rfl (lv_at hl 1 rfl) ?_
            refine nv_iadd hx hb dX4_count_110 ?_
            have f5 := hWF.f6 i
            refine nv_iald (v := nI (X.1 6 i) - nI (1)) hx hb hK hP 1 0 rfl rfl (by omega) (by decide) (pk_sp X.1 (by omega)) dX4_count_111 ?_
            refine nv_ifge_D (tgt := 119) hx hb (by omega) dX4_count_112 (by decide) (fun c6 => ?_) (fun c6 => ?_)
            · refine lv_iconst (v := nI (1)) hx hb dX4_count_119 (by decide) ?_
              refine nv_iadd hx hb dX4_count_120 ?_
              refine lv_istore_n (lv' := [(2, .int (nI ((cntTo (fun k => decide (0 < X.1 6 k)) (i) + 1)))), (3, .int (nI i)), (0, .ref (am 0)), (1, .int (nI 7))]) hx hb dX4_count_121 rfl hl (by decide) rfl (fun ls hl => ?_)
              refine nv_iinc1 (lv' := [(3, .int (nI (i + 1))), (2, .int (nI ((cntTo (fun k => decide (0 < X.1 6 k)) (i) + 1)))), (0, .ref (am 0)), (1, .int (nI 7))]) hx hb dX4_count_122 hl (k := 1) rfl (by decide) rfl (fun ls hl => ?_)
              refine lv_goto (tgt := 96) hx hb dX4_count_125 (by decide) ?_
              exact ih96 (i + 1) (by omega) (by omega) (nI ((cntTo (fun k => decide (0 < X.1 6 k)) (i) + 1))) (nI (i + 1)) (nv_e (by first | exact cntTo_t (by simpa using c6) | exact cnt_f0 (by simpa using c6))) rfl ls (lv_sub hl [1, 0, 2, 3] rfl)
            · refine lv_iconst (v := nI (0)) hx hb dX4_count_115 (by decide) ?_
              refine lv_goto (tgt := 120) hx hb dX4_count_116 (by decide) ?_
              refine nv_iadd hx hb dX4_count_120 ?_
              refine lv_istore_n (lv' := [(2, .int (nI ((cntTo (fun k => decide (0 < X.1 6 k)) (i) + 0)))), (3, .int (nI i)), (0, .ref (am 0)), (1, .int (nI 7))]) hx hb dX4_count_121 rfl hl (by decide) rfl (fun ls hl => ?_)
              refine nv_iinc1 (lv' := [(3, .int (nI (i + 1))), (2, .int (nI ((cntTo (fun k => decide (0 < X.1 6 k)) (i) + 0)))), (0, .ref (am 0)), (1, .int (nI 7))]) hx hb dX4_count_122 hl (k := 1) rfl (by decide) rfl (fun ls hl => ?_)
              refine lv_goto (tgt := 96) hx hb dX4_count_125 (by decide) ?_
              exact ih96 (i + 1) (by omega) (by omega) (nI ((cntTo (fun k => decide (0 < X.1 6 k)) (i) + 0))) (nI (i + 1)) (nv_e (by first | exact cntTo_t (by simpa using c6) | exact cnt_f0 (by simpa using c6))) rfl ls (lv_sub hl [1, 0, 2, 3] rfl)
      exact L96 _ (0) (Nat.lt_succ_self _) (by omega) (nI (0)) (nI (0)) rfl rfl ls (lv_sub hl [1, 0, 2, 3] rfl)
  · refine lv_tableOut (tgt := 130) hx hb dX4_count_3 (tsw_out i1) (by decide) ?_
    refine lv_aload_n hx hb dX4_count_130 rfl (lv_at hl 1 rfl) ?_
    refine lv_ldc (v := -1000001) hx hb hown (hts (.constant RX4 72 (-1000001)) (List.mem_of_getElem? (i := 3) rfl)) dX4_count_131 ?_
    refine mu_V (n := 1) (As := [.int (-1000001)]) (rest := []) ⟨hx, hb, hml, hown, hts⟩ (c_X4_finding l D ci am X kr q0 q1 q2 q3 q4 q5 iw kn y0 y1 y2 y3 y4 y5 y6 hI (-1000001) (0) (by omega) (by decide)) gX4_count_X4_finding rfl ⟨rfl, rfl⟩ (by decide +kernel) rfl ⟨Nat.le_of_ble_eq_true rfl, Nat.le_of_ble_eq_true rfl⟩ hE trivial hK hP (ci := 4) (q0 := 0) rfl rfl hl.1 rfl (Nat.le_of_ble_eq_true rfl) dX4_count_133 ⟨Nat.zero_le _, Nat.zero_le _⟩ hS (fun _ h => h) (fun H1 locs hz hfr hB hS => ?_)
    have hP := hB
    have hP : va_P D vwCl (wN ci am (toF X (inc X.2.2.2.1 0)) kr q0 q1 q2 q3 q4 q5 iw kn y0 y1 y2 y3 y4 y5 y6) H1 := hP
    generalize H1 = H at hP hS ⊢
    have hD : va_D (aM am) (wN ci am (toF X (inc X.2.2.2.1 0)) kr q0 q1 q2 q3 q4 q5 iw kn y0 y1 y2 y3 y4 y5 y6) := wN_D hI
    have hp : p_count X w = (fnd 0, toF X (inc X.2.2.2.1 0)) := by first | (simp [p_count, sNerve, sLoud, bk, fl_eq, inP, i1]; done) | ((rw [show i = 10 by omega]; simp [p_count, spotsT, bk, fl_eq, i1]); done)
    refine nv_cv (show fnd 0 = (p_count X w).1 from by rw [hp]) ?_
    exact mu_iret hx hb hr hlocks hS ((by rw [hp]; exact ⟨_, _, _, _, _, _, _, _, _, _, _, _, _, _, _, hkr, hP⟩)) dX4_count_136

set_option maxHeartbeats 4000000 in
set_option maxRecDepth 100000 in
/-- X4_hearAll -/
theorem c_X4_hearAll (l : Launch) (D : va_G) (ci : Nat → ClassId) (am : Nat → Nat) (X : AS) (kr : Nat → Int32) (q0 q1 q2 q3 q4 q5 : Int32) (iw : Bool) (kn : Nat → Option Nat) (y0 y1 y2 y3 y4 y5 y6 : Nat → Int32) (hI : injA am 16)  (hWF : WF X.1) : Met l yX4_hearAll wsX4_hearAll ({ frames := 6, cells := 0, slots := 0, locals := 139 } : Room) (va_Pc [.ref (am 0)] (ro_B D (tyL ci) (wN ci am X kr q0 q1 q2 q3 q4 q5 iw kn y0 y1 y2 y3 y4 y5 y6) (enT))) (mu_Q (aM am) (none) (fun H => ∃ (y2 : Nat → Int32), (∀ b s, s < 16 → b < 12 → y2 (16 * b + s) = nI (great X.1 s (playIn X.1 b))) ∧ va_P D vwCl (wN ci am X kr q0 q1 q2 q3 q4 q5 iw kn y0 y1 y2 y3 y4 y5 y6) H)) 0 0 (aM am) := by
  refine mu_Met (cc := cX4_hearAll) (maxL := 3) (ret := none) [(0, .ref (am 0))] (wN_D hI) (by decide) rfl (Nat.le_of_ble_eq_true rfl) rfl ?_
  intro p e s m below meth c H locs hx hb hml hr hlocks hts hown hP hK hs0 hD hS ls hl
  have hown : s.vm.findClass RX4 = some m.cls := hown
  have hinX4 : ∀ w ∈ wsX40, w ∈ wsX4_hearAll := by decide +kernel
  have hE := hE_T
  have f_n := hWF.n
  refine lv_iconst (v := nI (0)) hx hb dX4_hearAll_0 (by decide) ?_
  refine lv_istore_n (lv' := [(1, .int (nI 0)), (0, .ref (am 0))]) hx hb dX4_hearAll_1 rfl hl (by decide) rfl (fun ls hl => ?_)
  have L2 : ∀ (k2 : Nat) (i : Nat) (y2 : Nat → Int32), 12 - i < k2 → (i ≤ 12) → (∀ b s, s < 16 → 16 * b + s < 16 * i → y2 (16 * b + s) = nI (great X.1 s (playIn X.1 b))) → ∀ (x1 : Int32), x1 = nI (i) → ∀ (H : Heap) (locs : List Loc), va_P D vwCl (wN ci am X kr q0 q1 q2 q3 q4 q5 iw kn y0 y1 y2 y3 y4 y5 y6) H → va_S (aM am) s.heap H locs → ∀ ls : Array Slot, lv_has ls 3 [(1, .int (x1)), (0, .ref (am 0))] → W p l e (headSpec wsX4_hearAll ({ frames := 6, cells := 0, slots := 0, locals := 139 } : Room)).room s m ([.ref (am 0)] : List Value).toArray below meth c H locs 0 0 (MQ below (mu_Q (aM am) (none) (fun H => ∃ (y2 : Nat → Int32), (∀ b s, s < 16 → b < 12 → y2 (16 * b + s) = nI (great X.1 s (playIn X.1 b))) ∧ va_P D vwCl (wN ci am X kr q0 q1 q2 q3 q4 q5 iw kn y0 y1 y2 y3 y4 y5 y6) H)) ([.ref (am 0)] : List Value).toArray s 0 0 (aM am)) (F0 m 2 ls []) := by
    intro k2
    induction k2 with
    | zero => intro i y2 h0; exact absurd h0 (Nat.not_lt_zero _)
    | succ k2 ih2 =>
      intro i y2 hk2 h_i h_y x1 e1  H locs hP hS ls hl
      subst e1
      have hD : va_D (aM am) (wN ci am X kr q0 q1 q2 q3 q4 q5 iw kn y0 y1 y2 y3 y4 y5 y6) := wN_D hI
      refine lv_iload_n hx hb dX4_hearAll_2 rfl (lv_at hl 0 rfl) ?_
      refine lv_bipush (v := nI (12)) hx hb dX4_hearAll_3 (by decide) ?_
      refine nv_icmp_ge (tgt := 49) hx hb (by omega) (by omega) dX4_hearAll_5 (by decide) (fun c1 => ?_) (fun c1 => ?_)
      · exact mu_vret hx hb hr hlocks hS (⟨_, (fun b s hs hb => h_y b s hs (by omega)), hP⟩) dX4_hearAll_49
      · refine lv_iconst (v := nI (0)) hx hb dX4_hearAll_8 (by decide) ?_
        refine lv_istore_n (lv' := [(2, .int (nI 0)), (1, .int (nI i)), (0, .ref (am 0))]) hx hb dX4_hearAll_9 rfl hl (by decide) rfl (fun ls hl => ?_)
        have L10 : ∀ (k10 : Nat) (j : Nat) (y2 : Nat → Int32), 16 - j < k10 → (j ≤ 16) → (∀ b s, s < 16 → 16 * b + s < 16 * i + j → y2 (16 * b + s) = nI (great X.1 s (playIn X.1 b))) → ∀ (x2 : Int32), x2 = nI (j) → ∀ (H : Heap) (locs : List Loc), va_P D vwCl (wN ci am X kr q0 q1 q2 q3 q4 q5 iw kn y0 y1 y2 y3 y4 y5 y6) H → va_S (aM am) s.heap H locs → ∀ ls : Array Slot, lv_has ls 3 [(2, .int (x2)), (1, .int (nI i)), (0, .ref (am 0))] → W p l e (headSpec wsX4_hearAll ({ frames := 6, cells := 0, slots := 0, locals := 139 } : Room)).room s m ([.ref (am 0)] : List Value).toArray below meth c H locs 0 0 (MQ below (mu_Q (aM am) (none) (fun H => ∃ (y2 : Nat → Int32), (∀ b s, s < 16 → b < 12 → y2 (16 * b + s) = nI (great X.1 s (playIn X.1 b))) ∧ va_P D vwCl (wN ci am X kr q0 q1 q2 q3 q4 q5 iw kn y0 y1 y2 y3 y4 y5 y6) H)) ([.ref (am 0)] : List Value).toArray s 0 0 (aM am)) (F0 m 10 ls []) := by
          intro k10
          induction k10 with
          | zero => intro j y2 h0; exact absurd h0 (Nat.not_lt_zero _)
          | succ k10 ih10 =>
            intro j y2 hk10 h_j h_y3 x2 e2  H locs hP hS ls hl
            subst e2
            have hD : va_D (aM am) (wN ci am X kr q0 q1 q2 q3 q4 q5 iw kn y0 y1 y2 y3 y4 y5 y6) := wN_D hI
            refine lv_iload_n hx hb dX4_hearAll_10 rfl (lv_at hl 0 rfl) ?_
            refine lv_bipush (v := nI (16)) hx hb dX4_hearAll_11 (by decide) ?_
            refine nv_icmp_ge (tgt := 43) hx hb (by omega) (by omega) dX4_hearAll_13 (by decide) (fun c2 => ?_) (fun c2 => ?_)
            · refine nv_iinc1 (lv' := [(1, .int (nI (i + 1))), (2, .int (nI j)), (0, .ref (am 0))]) hx hb dX4_hearAll_43 hl (k := 1) rfl (by decide) rfl (fun ls hl => ?_)
              refine lv_goto (tgt := 2) hx hb dX4_hearAll_46 (by decide) ?_
              exact ih2 (i + 1) (y2) (by omega) (by omega) (fun b s hs hb => h_y3 b s hs (by omega)) (nI (i + 1)) rfl _ _ hP hS ls (lv_sub hl [0, 2] rfl)
            · refine lv_aload_n hx hb dX4_hearAll_16 rfl (lv_at hl 2 rfl) ?_
              refine va_get (D := D) (ci := 4) (v := .ref (am 6)) (C := RX4) (T := TX4) (N := 24) hx hb hts hinX4 hown hK hP 0 rfl rfl 6 (by decide) (hts (.fieldLink RX4 25 "OneShortModel" "heardAll" "[I") (List.mem_of_getElem? (i := 1) rfl)) (fun _ h9 => h9) rfl dX4_hearAll_17 ?_
              refine lv_bipush (v := nI (16)) hx hb dX4_hearAll_20 (by decide) ?_
              refine lv_iload_n hx hb dX4_hearAll_22 rfl (lv_at hl 1 rfl) ?_
              refine nv_imul hx hb dX4_hearAll_23 ?_
              refine lv_iload_n hx hb dX4_hearAll_24 rfl (lv_at hl 0 rfl) ?_
              refine nv_iadd hx hb dX4_hearAll_25 ?_
              refine lv_aload_n hx hb dX4_hearAll_26 rfl (lv_at hl 2 rfl) ?_
              refine lv_aload_n hx hb dX4_hearAll_27 rfl (lv_at hl 2 rfl) ?_
              refine ro_V (n := 0) (As := []) (rest := [.ref (am 0), .int (nI (((16 * i) + j))), .ref (am 6)]) ⟨hx, hb, hml, hown, hts⟩ (c_X4_everybody l D ci am X kr q0 q1 q2 q3 q4 q5 iw kn y0 y1 y2 y3 y4 y5 y6  hWF) gX4_hearAll_X4_everybody rfl ⟨rfl, rfl⟩ (by decide +kernel) rfl ⟨Nat.le_of_ble_eq_true rfl, Nat.le_of_ble_eq_true rfl⟩ hE trivial hK hP (ci := 4) (q0 := 0) rfl rfl hl.1 rfl (Nat.le_of_ble_eq_true rfl) dX4_hearAll_28 ⟨Nat.zero_le _, Nat.zero_le _⟩ ?_
              have f3 := evb_lt hWF.n
              refine lv_iload_n hx hb dX4_hearAll_31 rfl (lv_at hl 0 rfl) ?_
              refine lv_iload_n hx hb dX4_hearAll_32 rfl (lv_at hl 1 rfl) ?_
              refine ro_V (n := 3) (As := [.int (nI ((1 * 2 ^ X.1 7 0 - 1))), .int (nI j), .int (nI i)]) (rest := [.int (nI (((16 * i) + j))), .ref (am 6)]) ⟨hx, hb, hml, hown, hts⟩ (c_X4_heardOf l D ci am X kr q0 q1 q2 q3 q4 q5 iw kn y0 y1 y2 y3 y4 y5 y6 ((1 * 2 ^ X.1 7 0 - 1)) (j) (i) hWF (by omega) (by omega) (by omega)) gX4_hearAll_X4_heardOf rfl ⟨rfl, rfl⟩ (by decide +kernel) rfl ⟨Nat.le_of_ble_eq_true rfl, Nat.le_of_ble_eq_true rfl⟩ hE trivial hK hP (ci := 4) (q0 := 0) rfl rfl hl.1 rfl (Nat.le_of_ble_eq_true rfl) dX4_hearAll_33 ⟨Nat.zero_le _, Nat.zero_le _⟩ ?_
              have f4 := great_lt' hWF (j) ((1 * 2 ^ X.1 7 0 - 1) &&& playIn X.1 (i))
              refine nv_iast hx hb hK hP hD hS 6 0 rfl rfl (by omega) (by decide) dX4_hearAll_36 (fun H locs hP hD hS => ?_)
              have hP : va_P D vwCl (wN ci am X kr q0 q1 q2 q3 q4 q5 iw kn y0 y1 (upd y2 (((16 * i) + j)) (nI (great X.1 j ((1 * 2 ^ X.1 7 0 - 1) &&& playIn X.1 i)))) y3 y4 y5 y6) H := va_P.re (wN_y2 ci am X kr q0 q1 q2 q3 q4 q5 iw kn y0 y1 y2 y3 y4 y5 y6 (((16 * i) + j)) (nI (great X.1 j ((1 * 2 ^ X.1 7 0 - 1) &&& playIn X.1 i)))) hP
              have hD : va_D (aM am) (wN ci am X kr q0 q1 q2 q3 q4 q5 iw kn y0 y1 (upd y2 (((16 * i) + j)) (nI (great X.1 j ((1 * 2 ^ X.1 7 0 - 1) &&& playIn X.1 i)))) y3 y4 y5 y6) := wN_D hI
              refine nv_iinc1 (lv' := [(2, .int (nI (j + 1))), (1, .int (nI i)), (0, .ref (am 0))]) hx hb dX4_hearAll_37 hl (k := 0) rfl (by decide) rfl (fun ls hl => ?_)
              refine lv_goto (tgt := 10) hx hb dX4_hearAll_40 (by decide) ?_
              exact ih10 (j + 1) ((upd y2 (((16 * i) + j)) (nI (great X.1 j ((1 * 2 ^ X.1 7 0 - 1) &&& playIn X.1 i))))) (by omega) (by omega) (ha_next (by omega) h_y3 (congrArg nI (by rw [evb_and]))) (nI (j + 1)) rfl _ _ hP hS ls (lv_sub hl [0, 1, 2] rfl)
        exact L10 _ (0) (y2) (Nat.lt_succ_self _) (by omega) h_y (nI (0)) rfl _ _ hP hS ls (lv_sub hl [0, 1, 2] rfl)
  exact L2 _ (0) (y2) (Nat.lt_succ_self _) (by omega) (fun _ _ _ h => absurd h (by omega)) (nI (0)) rfl _ _ hP hS ls (lv_sub hl [0, 1] rfl)

set_option maxHeartbeats 4000000 in
set_option maxRecDepth 100000 in
/-- X4_lessBy -/
theorem c_X4_lessBy (l : Launch) (D : va_G) (ci : Nat → ClassId) (am : Nat → Nat) (X : AS) (kr : Nat → Int32) (q0 q1 q2 q3 q4 q5 : Int32) (iw : Bool) (kn : Nat → Option Nat) (y0 y1 y2 y3 y4 y5 y6 : Nat → Int32) (t : Nat) (hWF : WF X.1) (h_t : t < 4096) (h_y2 : ∀ b s, s < 16 → b < 12 → y2 (16 * b + s) = nI (great X.1 s (playIn X.1 b))) : Met l yX4_lessBy wsX4_lessBy ({ frames := 6, cells := 0, slots := 0, locals := 139 } : Room) (va_Pc [.ref (am 0), .int (nI t)] (ro_B D (tyL ci) (wN ci am X kr q0 q1 q2 q3 q4 q5 iw kn y0 y1 y2 y3 y4 y5 y6) (enT))) (ro_Q (some (.int (nI (lessN X.1 t))))) 0 0 (fun _ => False) := by
  refine ro_Met (cc := cX4_lessBy) (maxL := 5) (ret := (some .int)) [(0, .ref (am 0)), (1, .int (nI t))] (by decide) rfl (Nat.le_of_ble_eq_true rfl) rfl ?_
  intro p e s m below meth c hx hb hml hr hlocks hts hown hP hK hs ls hl
  have hown : s.vm.findClass RX4 = some m.cls := hown
  have hinX4 : ∀ w ∈ wsX40, w ∈ wsX4_lessBy := by decide +kernel
  have hE := hE_T
  have f_n := hWF.n
  refine lv_iconst (v := nI (0)) hx hb dX4_lessBy_0 (by decide) ?_
  refine lv_istore_n (lv' := [(2, .int (nI 0)), (0, .ref (am 0)), (1, .int (nI t))]) hx hb dX4_lessBy_1 rfl hl (by decide) rfl (fun ls hl => ?_)
  refine lv_iconst (v := nI (0)) hx hb dX4_lessBy_2 (by decide) ?_
  refine lv_istore_n (lv' := [(3, .int (nI 0)), (2, .int (nI 0)), (0, .ref (am 0)), (1, .int (nI t))]) hx hb dX4_lessBy_3 rfl hl (by decide) rfl (fun ls hl => ?_)
  have L4 : ∀ (k4 : Nat) (i : Nat), 12 - i < k4 → (i ≤ 12) → ∀ (x2 : Int32), ∀ (x3 : Int32), x2 = nI (sumTo (fun b => cntTo (fun s => decide (great X.1 s (t &&& playIn X.1 b) < great X.1 s (playIn X.1 b))) 16) (i)) → x3 = nI (i) → ∀ ls : Array Slot, lv_has ls 5 [(2, .int (x2)), (3, .int (x3)), (0, .ref (am 0)), (1, .int (nI t))] → W p l e (headSpec wsX4_lessBy ({ frames := 6, cells := 0, slots := 0, locals := 139 } : Room)).room s m ([.ref (am 0), .int (nI t)] : List Value).toArray below meth c s.heap [] 0 0 (MQ below (ro_Q (some (.int (nI (lessN X.1 t))))) ([.ref (am 0), .int (nI t)] : List Value).toArray s 0 0 (fun _ => False)) (F0 m 4 ls []) := by
    intro k4
    induction k4 with
    | zero => intro i h0; exact absurd h0 (Nat.not_lt_zero _)
    | succ k4 ih4 =>
      intro i hk4 h_i x2 x3 e2 e3 ls hl
      subst e2
      subst e3
      have f_s := sumTo_le (f := fun b => cntTo (fun s => decide (great X.1 s (t &&& playIn X.1 b) < great X.1 s (playIn X.1 b))) 16) (b := 16) i (fun j _ => cntTo_le _ _)
      refine lv_iload_n hx hb dX4_lessBy_4 rfl (lv_at hl 1 rfl) ?_
      refine lv_bipush (v := nI (12)) hx hb dX4_lessBy_5 (by decide) ?_
      refine nv_icmp_ge (tgt := 63) hx hb (by omega) (by omega) dX4_lessBy_7 (by decide) (fun c1 => ?_) (fun c1 => ?_)
      · refine lv_iload_n hx hb dX4_lessBy_63 rfl (lv_at hl 0 rfl) ?_
        refine nv_cv (show nI (sumTo (fun b => cntTo (fun s => decide (great X.1 s (t &&& playIn X.1 b) < great X.1 s (playIn X.1 b))) 16) (i)) = nI (lessN X.1 t) from nv_e (by rw [show i = 12 by omega]; rfl)) ?_
        exact ro_iret hx hb hr hlocks dX4_lessBy_64
      · refine lv_iconst (v := nI (0)) hx hb dX4_lessBy_10 (by decide) ?_
        refine lv_istore (lv' := [(4, .int (nI 0)), (2, .int (nI (sumTo (fun b => cntTo (fun s => decide (great X.1 s (t &&& playIn X.1 b) < great X.1 s (playIn X.1 b))) 16) (i)))), (3, .int (nI i)), (0, .ref (am 0)), (1, .int (nI t))]) hx hb dX4_lessBy_11 hl (by decide) rfl (fun ls hl => ?_)
        have L13 : ∀ (k13 : Nat) (j : Nat), 16 - j < k13 → (j ≤ 16) → ∀ (x2 : Int32), ∀ (x4 : Int32), x2 = nI ((sumTo (fun b => cntTo (fun s => decide (great X.1 s (t &&& playIn X.1 b) < great X.1 s (playIn X.1 b))) 16) (i) + cntTo (fun s => decide (great X.1 s (t &&& playIn X.1 i) < great X.1 s (playIn X.1 i))) (j))) → x4 = nI (j) → ∀ ls : Array Slot, lv_has ls 5 [(2, .int (x2)), (4, .int (x4)), (3, .int (nI i)), (0, .ref (am 0)), (1, .int (nI t))] → W p l e (headSpec wsX4_lessBy ({ frames := 6, cells := 0, slots := 0, locals := 139 } : Room)).room s m ([.ref (am 0), .int (nI t)] : List Value).toArray below meth c s.heap [] 0 0 (MQ below (ro_Q (some (.int (nI (lessN X.1 t))))) ([.ref (am 0), .int (nI t)] : List Value).toArray s 0 0 (fun _ => False)) (F0 m 13 ls []) := by
          intro k13
          induction k13 with
          | zero => intro j h0; exact absurd h0 (Nat.not_lt_zero _)
          | succ k13 ih13 =>
            intro j hk13 h_j x2 x4 e2 e4 ls hl
            subst e2
            subst e4
            have f_c := cntTo_le (fun s => decide (great X.1 s (t &&& playIn X.1 i) < great X.1 s (playIn X.1 i))) j
            refine lv_iload hx hb dX4_lessBy_13 (lv_at hl 1 rfl) ?_
            refine lv_bipush (v := nI (16)) hx hb dX4_lessBy_15 (by decide) ?_
            refine nv_icmp_ge (tgt := 57) hx hb (by omega) (by omega) dX4_lessBy_17 (by decide) (fun c2 => ?_) (fun c2 => ?_)
            · refine nv_iinc1 (lv' := [(3, .int (nI (i + 1))), (2, .int (nI ((sumTo (fun b => cntTo (fun s => decide (great X.1 s (t &&& playIn X.1 b) < great X.1 s (playIn X.1 b))) 16) (i) + cntTo (fun s => decide (great X.1 s (t &&& playIn X.1 i) < great X.1 s (playIn X.1 i))) (j))))), (4, .int (nI j)), (0, .ref (am 0)), (1, .int (nI t))]) hx hb dX4_lessBy_57 hl (k := 2) rfl (by decide) rfl (fun ls hl => ?_)
              refine lv_goto (tgt := 4) hx hb dX4_lessBy_60 (by decide) ?_
              exact ih4 (i + 1) (by omega) (by omega) (nI ((sumTo (fun b => cntTo (fun s => decide (great X.1 s (t &&& playIn X.1 b) < great X.1 s (playIn X.1 b))) 16) (i) + cntTo (fun s => decide (great X.1 s (t &&& playIn X.1 i) < great X.1 s (playIn X.1 i))) (j)))) (nI (i + 1)) (nv_e (by rw [show j = 16 by omega]; rfl)) rfl ls (lv_sub hl [1, 0, 3, 4] rfl)
            · refine lv_iload_n hx hb dX4_lessBy_20 rfl (lv_at hl 0 rfl) ?_
              refine lv_aload_n hx hb dX4_lessBy_21 rfl (lv_at hl 3 rfl) ?_
              refine lv_iload_n hx hb dX4_lessBy_22 rfl (lv_at hl 4 rfl) ?_
              refine lv_iload hx hb dX4_lessBy_23 (lv_at hl 1 rfl) ?_
              refine lv_iload_n hx hb dX4_lessBy_25 rfl (lv_at hl 2 rfl) ?_
              refine ro_V (n := 3) (As := [.int (nI t), .int (nI j), .int (nI i)]) (rest := [.int (nI ((sumTo (fun b => cntTo (fun s => decide (great X.1 s (t &&& playIn X.1 b) < great X.1 s (playIn X.1 b))) 16) (i) + cntTo (fun s => decide (great X.1 s (t &&& playIn X.1 i) < great X.1 s (playIn X.1 i))) (j))))]) ⟨hx, hb, hml, hown, hts⟩ (c_X4_heardOf l D ci am X kr q0 q1 q2 q3 q4 q5 iw kn y0 y1 y2 y3 y4 y5 y6 (t) (j) (i) hWF (by omega) (by omega) (by omega)) gX4_lessBy_X4_heardOf rfl ⟨rfl, rfl⟩ (by decide +kernel) rfl ⟨Nat.le_of_ble_eq_true rfl, Nat.le_of_ble_eq_true rfl⟩ hE hs hK hP (ci := 4) (q0 := 0) rfl rfl hl.1 rfl (Nat.le_of_ble_eq_true rfl) dX4_lessBy_26 ⟨Nat.zero_le _, Nat.zero_le _⟩ ?_
              have f3 := great_lt' hWF (j) (t &&& playIn X.1 (i))
              refine lv_aload_n hx hb dX4_lessBy_29 rfl (lv_at hl 3 rfl) ?_
              refine va_get (D := D) (ci := 4) (v := .ref (am 6)) (C := RX4) (T := TX4) (N := 24) hx hb hts hinX4 hown hK hP 0 rfl rfl 6 (by decide) (hts (.fieldLink RX4 25 "OneShortModel" "heardAll" "[I") (List.mem_of_getElem? (i := 1) rfl)) (fun _ h9 => h9) rfl dX4_lessBy_30 ?_
              refine lv_bipush (v := nI (16)) hx hb dX4_lessBy_33 (by decide) ?_
              refine lv_iload_n hx hb dX4_lessBy_35 rfl (lv_at hl 2 rfl) ?_
              refine nv_imul hx hb dX4_lessBy_36 ?_
              refine lv_iload hx hb dX4_lessBy_37 (lv_at hl 1 rfl) ?_
              refine nv_iadd hx hb dX4_lessBy_39 ?_
              have f4 := great_lt' hWF j (playIn X.1 i)
              refine nv_iald (v := nI (great X.1 j (playIn X.1 i))) hx hb hK hP 6 0 rfl rfl (by omega) (by decide) (h_y2 i j (by omega) (by omega)) dX4_lessBy_40 ?_
              refine nv_icmp_ge (tgt := 48) hx hb (by omega) (by omega) dX4_lessBy_41 (by decide) (fun c5 => ?_) (fun c5 => ?_)
              · refine lv_iconst (v := nI (0)) hx hb dX4_lessBy_48 (by decide) ?_
                refine nv_iadd hx hb dX4_lessBy_49 ?_
                refine lv_istore_n (lv' := [(2, .int (nI (((sumTo (fun b => cntTo (fun s => decide (great X.1 s (t &&& playIn X.1 b) < great X.1 s (playIn X.1 b))) 16) (i) + cntTo (fun s => decide (great X.1 s (t &&& playIn X.1 i) < great X.1 s (playIn X.1 i))) (j)) + 0)))), (4, .int (nI j)), (3, .int (nI i)), (0, .ref (am 0)), (1, .int (nI t))]) hx hb dX4_lessBy_50 rfl hl (by decide) rfl (fun ls hl => ?_)
                refine nv_iinc1 (lv' := [(4, .int (nI (j + 1))), (2, .int (nI (((sumTo (fun b => cntTo (fun s => decide (great X.1 s (t &&& playIn X.1 b) < great X.1 s (playIn X.1 b))) 16) (i) + cntTo (fun s => decide (great X.1 s (t &&& playIn X.1 i) < great X.1 s (playIn X.1 i))) (j)) + 0)))), (3, .int (nI i)), (0, .ref (am 0)), (1, .int (nI t))]) hx hb dX4_lessBy_51 hl (k := 1) rfl (by decide) rfl (fun ls hl => ?_)
                refine lv_goto (tgt := 13) hx hb dX4_lessBy_54 (by decide) ?_
                exact ih13 (j + 1) (by omega) (by omega) (nI (((sumTo (fun b => cntTo (fun s => decide (great X.1 s (t &&& playIn X.1 b) < great X.1 s (playIn X.1 b))) 16) (i) + cntTo (fun s => decide (great X.1 s (t &&& playIn X.1 i) < great X.1 s (playIn X.1 i))) (j)) + 0))) (nI (j + 1)) (nv_e (by first | exact acc_t (decide_eq_true c5) | exact acc_f (decide_eq_false (Nat.not_lt.mpr c5)))) rfl ls (lv_sub hl [1, 0, 2, 3, 4] rfl)
              · refine lv_iconst (v := nI (1)) hx hb dX4_lessBy_44 (by decide) ?_
                refine lv_goto (tgt := 49) hx hb dX4_lessBy_45 (by decide) ?_
                refine nv_iadd hx hb dX4_lessBy_49 ?_
                refine lv_istore_n (lv' := [(2, .int (nI (((sumTo (fun b => cntTo (fun s => decide (great X.1 s (t &&& playIn X.1 b) < great X.1 s (playIn X.1 b))) 16) (i) + cntTo (fun s => decide (great X.1 s (t &&& playIn X.1 i) < great X.1 s (playIn X.1 i))) (j)) + 1)))), (4, .int (nI j)), (3, .int (nI i)), (0, .ref (am 0)), (1, .int (nI t))]) hx hb dX4_lessBy_50 rfl hl (by decide) rfl (fun ls hl => ?_)
                refine nv_iinc1 (lv' := [(4, .int (nI (j + 1))), (2, .int (nI (((sumTo (fun b => cntTo (fun s => decide (great X.1 s (t &&& playIn X.1 b) < great X.1 s (playIn X.1 b))) 16) (i) + cntTo (fun s => decide (great X.1 s (t &&& playIn X.1 i) < great X.1 s (playIn X.1 i))) (j)) + 1)))), (3, .int (nI i)), (0, .ref (am 0)), (1, .int (nI t))]) hx hb dX4_lessBy_51 hl (k := 1) rfl (by decide) rfl (fun ls hl => ?_)
                refine lv_goto (tgt := 13) hx hb dX4_lessBy_54 (by decide) ?_
                exact ih13 (j + 1) (by omega) (by omega) (nI (((sumTo (fun b => cntTo (fun s => decide (great X.1 s (t &&& playIn X.1 b) < great X.1 s (playIn X.1 b))) 16) (i) + cntTo (fun s => decide (great X.1 s (t &&& playIn X.1 i) < great X.1 s (playIn X.1 i))) (j)) + 1))) (nI (j + 1)) (nv_e (by first | exact acc_t (decide_eq_true c5) | exact acc_f (decide_eq_false (Nat.not_lt.mpr c5)))) rfl ls (lv_sub hl [1, 0, 2, 3, 4] rfl)
        exact L13 _ (0) (Nat.lt_succ_self _) (by omega) (nI (sumTo (fun b => cntTo (fun s => decide (great X.1 s (t &&& playIn X.1 b) < great X.1 s (playIn X.1 b))) 16) (i))) (nI (0)) rfl rfl ls (lv_sub hl [1, 0, 2, 3, 4] rfl)
  exact L4 _ (0) (Nat.lt_succ_self _) (by omega) (nI (0)) (nI (0)) rfl rfl ls (lv_sub hl [1, 0, 2, 3] rfl)

set_option maxHeartbeats 4000000 in
set_option maxRecDepth 100000 in
/-- X4_spare -/
theorem c_X4_spare (l : Launch) (D : va_G) (ci : Nat → ClassId) (am : Nat → Nat) (X : AS) (kr : Nat → Int32) (q0 q1 q2 q3 q4 q5 : Int32) (iw : Bool) (kn : Nat → Option Nat) (y0 y1 y2 y3 y4 y5 y6 : Nat → Int32) (hI : injA am 16)  (hWX : WFX X) (hkr : kOK X kr) : Met l yX4_spare wsX4_spare ({ frames := 7, cells := 0, slots := 0, locals := 163 } : Room) (va_Pc [.ref (am 0)] (ro_B D (tyL ci) (wN ci am X kr q0 q1 q2 q3 q4 q5 iw kn y0 y1 y2 y3 y4 y5 y6) (enT))) (mu_Q (aM am) (some (.int ((p_spare X).1))) (fun H => ∃ (kr : Nat → Int32) (q0 : Int32) (q1 : Int32) (q2 : Int32) (q3 : Int32) (q4 : Int32) (q5 : Int32) (iw : Bool) (y0 : Nat → Int32) (y1 : Nat → Int32) (y2 : Nat → Int32) (y3 : Nat → Int32) (y4 : Nat → Int32) (y5 : Nat → Int32) (y6 : Nat → Int32), kOK (p_spare X).2 kr ∧ va_P D vwCl (wN ci am ((p_spare X).2) kr q0 q1 q2 q3 q4 q5 iw kn y0 y1 y2 y3 y4 y5 y6) H)) 0 0 (aM am) := by
  refine mu_Met (cc := cX4_spare) (maxL := 3) (ret := (some .int)) [(0, .ref (am 0))] (wN_D hI) (by decide) rfl (Nat.le_of_ble_eq_true rfl) rfl ?_
  intro p e s m below meth c H locs hx hb hml hr hlocks hts hown hP hK hs0 hD hS ls hl
  have hown : s.vm.findClass RX4 = some m.cls := hown
  have hinX4 : ∀ w ∈ wsX40, w ∈ wsX4_spare := by decide +kernel
  have hE := hE_T
  have hWF := hWX.w
  have f_n := hWF.n
  have f_e := hWX.e
  have f_tl := hWX.t
  have f_ev := two_le hWF.n
  have f_ev0 := two_pos (X.1 7 0)
  refine lv_aload_n hx hb dX4_spare_0 rfl (lv_at hl 0 rfl) ?_
  refine mu_V (n := 0) (As := []) (rest := []) ⟨hx, hb, hml, hown, hts⟩ (c_X4_hearAll l D ci am X kr q0 q1 q2 q3 q4 q5 iw kn y0 y1 y2 y3 y4 y5 y6 hI  hWF) gX4_spare_X4_hearAll rfl ⟨rfl, rfl⟩ (by decide +kernel) rfl ⟨Nat.le_of_ble_eq_true rfl, Nat.le_of_ble_eq_true rfl⟩ hE trivial hK hP (ci := 4) (q0 := 0) rfl rfl hl.1 rfl (Nat.le_of_ble_eq_true rfl) dX4_spare_1 ⟨Nat.zero_le _, Nat.zero_le _⟩ hS (fun _ h => h) (fun H1 locs hz hfr hB hS => ?_)
  obtain ⟨y2_1, h_ex, hP⟩ := hB
  have hP : va_P D vwCl (wN ci am X kr q0 q1 q2 q3 q4 q5 iw kn y0 y1 y2_1 y3 y4 y5 y6) H1 := hP
  generalize H1 = H at hP hS ⊢
  have hD : va_D (aM am) (wN ci am X kr q0 q1 q2 q3 q4 q5 iw kn y0 y1 y2_1 y3 y4 y5 y6) := wN_D hI
  refine lv_iconst (v := nI (0)) hx hb dX4_spare_4 (by decide) ?_
  refine lv_istore_n (lv' := [(1, .int (nI 0)), (0, .ref (am 0))]) hx hb dX4_spare_5 rfl hl (by decide) rfl (fun ls hl => ?_)
  refine lv_iconst (v := nI (0)) hx hb dX4_spare_6 (by decide) ?_
  refine lv_istore_n (lv' := [(2, .int (nI 0)), (1, .int (nI 0)), (0, .ref (am 0))]) hx hb dX4_spare_7 rfl hl (by decide) rfl (fun ls hl => ?_)
  have L8 : ∀ (k8 : Nat) (i : Nat), X.1 7 0 - i < k8 → (i ≤ X.1 7 0) → ∀ (x1 : Int32), ∀ (x2 : Int32), x1 = nI (setTo (fun q => cLn X.1 12 (1 * 2 ^ q) == 0) (i)) → x2 = nI (i) → ∀ ls : Array Slot, lv_has ls 3 [(1, .int (x1)), (2, .int (x2)), (0, .ref (am 0))] → W p l e (headSpec wsX4_spare ({ frames := 7, cells := 0, slots := 0, locals := 163 } : Room)).room s m ([.ref (am 0)] : List Value).toArray below meth c H locs 0 0 (MQ below (mu_Q (aM am) (some (.int ((p_spare X).1))) (fun H => ∃ (kr : Nat → Int32) (q0 : Int32) (q1 : Int32) (q2 : Int32) (q3 : Int32) (q4 : Int32) (q5 : Int32) (iw : Bool) (y0 : Nat → Int32) (y1 : Nat → Int32) (y2 : Nat → Int32) (y3 : Nat → Int32) (y4 : Nat → Int32) (y5 : Nat → Int32) (y6 : Nat → Int32), kOK (p_spare X).2 kr ∧ va_P D vwCl (wN ci am ((p_spare X).2) kr q0 q1 q2 q3 q4 q5 iw kn y0 y1 y2 y3 y4 y5 y6) H)) ([.ref (am 0)] : List Value).toArray s 0 0 (aM am)) (F0 m 8 ls []) := by
    intro k8
    induction k8 with
    | zero => intro i h0; exact absurd h0 (Nat.not_lt_zero _)
    | succ k8 ih8 =>
      intro i hk8 h_i x1 x2 e1 e2 ls hl
      subst e1
      subst e2
      have f_2 : i < 8 → 1 * 2 ^ i < 256 := two_lt
      have f_c := cLn_le X.1 (1 * 2 ^ i)
      refine lv_iload_n hx hb dX4_spare_8 rfl (lv_at hl 1 rfl) ?_
      refine lv_aload_n hx hb dX4_spare_9 rfl (lv_at hl 2 rfl) ?_
      refine va_get (D := D) (ci := 4) (v := .ref (am 1)) (C := RX4) (T := TX4) (N := 24) hx hb hts hinX4 hown hK hP 0 rfl rfl 0 (by decide) (hts (.fieldLink RX4 9 "OneShortModel" "now" "[I") (List.mem_of_getElem? (i := 1) rfl)) (fun _ h9 => h9) rfl dX4_spare_10 ?_
      refine lv_iconst (v := nI (1)) hx hb dX4_spare_13 (by decide) ?_
      refine nv_iald (v := nI (X.1 7 0)) hx hb hK hP 1 0 rfl rfl (by omega) (by decide) (pk_n X.1) dX4_spare_14 ?_
      refine nv_icmp_ge (tgt := 51) hx hb (by omega) (by omega) dX4_spare_15 (by decide) (fun c2 => ?_) (fun c2 => ?_)
      · refine lv_iload_n hx hb dX4_spare_51 rfl (lv_at hl 0 rfl) ?_
        have hp : p_spare X = (nI (setTo (fun q => cLn X.1 12 (1 * 2 ^ q) == 0) (i)), X) := by rw [p_spare, show X.1 7 0 = i by omega]
        refine nv_cv (show nI (setTo (fun q => cLn X.1 12 (1 * 2 ^ q) == 0) (i)) = (p_spare X).1 from by rw [hp]) ?_
        exact mu_iret hx hb hr hlocks hS ((by rw [hp]; exact ⟨_, _, _, _, _, _, _, _, _, _, _, _, _, _, _, hkr, hP⟩)) dX4_spare_52
      · refine lv_iload_n hx hb dX4_spare_18 rfl (lv_at hl 0 rfl) ?_
        refine lv_aload_n hx hb dX4_spare_19 rfl (lv_at hl 2 rfl) ?_
        refine lv_aload_n hx hb dX4_spare_20 rfl (lv_at hl 2 rfl) ?_
        refine ro_V (n := 0) (As := []) (rest := [.ref (am 0), .int (nI (setTo (fun q => cLn X.1 12 (1 * 2 ^ q) == 0) (i)))]) ⟨hx, hb, hml, hown, hts⟩ (c_X4_everybody l D ci am X kr q0 q1 q2 q3 q4 q5 iw kn y0 y1 y2_1 y3 y4 y5 y6  hWF) gX4_spare_X4_everybody rfl ⟨rfl, rfl⟩ (by decide +kernel) rfl ⟨Nat.le_of_ble_eq_true rfl, Nat.le_of_ble_eq_true rfl⟩ hE trivial hK hP (ci := 4) (q0 := 0) rfl rfl hl.1 rfl (Nat.le_of_ble_eq_true rfl) dX4_spare_21 ⟨Nat.zero_le _, Nat.zero_le _⟩ ?_
        have f3 := evb_lt hWF.n
        refine lv_iconst (v := nI (1)) hx hb dX4_spare_24 (by decide) ?_
        refine lv_iload_n hx hb dX4_spare_25 rfl (lv_at hl 1 rfl) ?_
        refine nv_ishl hx hb (by omega) dX4_spare_26 ?_
        refine lv_iconst (v := -1) hx hb dX4_spare_27 (by decide) ?_
        refine lv_ixor hx hb dX4_spare_28 ?_
        refine lv_iand hx hb dX4_spare_29 ?_
        have f4 := (Nat.and_le_left : (1 * 2 ^ X.1 7 0 - 1) &&& (4095 ^^^ (1 * 2 ^ (i))) ≤ (1 * 2 ^ X.1 7 0 - 1))
        refine nv_cv (show (nI ((1 * 2 ^ X.1 7 0 - 1)) &&& (nI ((1 * 2 ^ (i))) ^^^ -1)) = nI (((1 * 2 ^ X.1 7 0 - 1) &&& (4095 ^^^ (1 * 2 ^ (i))))) from nI_andn (by omega) (by omega)) ?_
        refine ro_V (n := 1) (As := [.int (nI (((1 * 2 ^ X.1 7 0 - 1) &&& (4095 ^^^ (1 * 2 ^ (i))))))]) (rest := [.int (nI (setTo (fun q => cLn X.1 12 (1 * 2 ^ q) == 0) (i)))]) ⟨hx, hb, hml, hown, hts⟩ (c_X4_lessBy l D ci am X kr q0 q1 q2 q3 q4 q5 iw kn y0 y1 y2_1 y3 y4 y5 y6 (((1 * 2 ^ X.1 7 0 - 1) &&& (4095 ^^^ (1 * 2 ^ (i))))) hWF (by omega) h_ex) gX4_spare_X4_lessBy rfl ⟨rfl, rfl⟩ (by decide +kernel) rfl ⟨Nat.le_of_ble_eq_true rfl, Nat.le_of_ble_eq_true rfl⟩ hE trivial hK hP (ci := 4) (q0 := 0) rfl rfl hl.1 rfl (Nat.le_of_ble_eq_true rfl) dX4_spare_30 ⟨Nat.zero_le _, Nat.zero_le _⟩ ?_
        have f5 := lessN_le X.1 (((1 * 2 ^ X.1 7 0 - 1) &&& (4095 ^^^ (1 * 2 ^ (i)))))
        refine nv_cv (show nI (lessN X.1 ((1 * 2 ^ X.1 7 0 - 1) &&& (4095 ^^^ (1 * 2 ^ (i))))) = nI (cLn X.1 12 (1 * 2 ^ i)) from congrArg nI (less_one hWF (by omega))) ?_
        refine nv_ifne (tgt := 42) hx hb (by omega) dX4_spare_33 (by decide) (fun c6 => ?_) (fun c6 => ?_)
        · refine lv_iconst (v := nI (0)) hx hb dX4_spare_42 (by decide) ?_
          refine nv_ior hx hb dX4_spare_43 ?_
          refine lv_istore_n (lv' := [(1, .int (nI ((setTo (fun q => cLn X.1 12 (1 * 2 ^ q) == 0) (i) ||| 0)))), (2, .int (nI i)), (0, .ref (am 0))]) hx hb dX4_spare_44 rfl hl (by decide) rfl (fun ls hl => ?_)
          refine nv_iinc1 (lv' := [(2, .int (nI (i + 1))), (1, .int (nI ((setTo (fun q => cLn X.1 12 (1 * 2 ^ q) == 0) (i) ||| 0)))), (0, .ref (am 0))]) hx hb dX4_spare_45 hl (k := 1) rfl (by decide) rfl (fun ls hl => ?_)
          refine lv_goto (tgt := 8) hx hb dX4_spare_48 (by decide) ?_
          exact ih8 (i + 1) (by omega) (by omega) (nI ((setTo (fun q => cLn X.1 12 (1 * 2 ^ q) == 0) (i) ||| 0))) (nI (i + 1)) (nv_e (by first | exact setTo_t (by simpa using c6) | exact setTo_f0 (by simpa using c6))) rfl ls (lv_sub hl [1, 0, 2] rfl)
        · refine lv_iconst (v := nI (1)) hx hb dX4_spare_36 (by decide) ?_
          refine lv_iload_n hx hb dX4_spare_37 rfl (lv_at hl 1 rfl) ?_
          refine nv_ishl hx hb (by omega) dX4_spare_38 ?_
          refine lv_goto (tgt := 43) hx hb dX4_spare_39 (by decide) ?_
          refine nv_ior hx hb dX4_spare_43 ?_
          refine lv_istore_n (lv' := [(1, .int (nI ((setTo (fun q => cLn X.1 12 (1 * 2 ^ q) == 0) (i) ||| (1 * 2 ^ (i)))))), (2, .int (nI i)), (0, .ref (am 0))]) hx hb dX4_spare_44 rfl hl (by decide) rfl (fun ls hl => ?_)
          refine nv_iinc1 (lv' := [(2, .int (nI (i + 1))), (1, .int (nI ((setTo (fun q => cLn X.1 12 (1 * 2 ^ q) == 0) (i) ||| (1 * 2 ^ (i)))))), (0, .ref (am 0))]) hx hb dX4_spare_45 hl (k := 1) rfl (by decide) rfl (fun ls hl => ?_)
          refine lv_goto (tgt := 8) hx hb dX4_spare_48 (by decide) ?_
          exact ih8 (i + 1) (by omega) (by omega) (nI ((setTo (fun q => cLn X.1 12 (1 * 2 ^ q) == 0) (i) ||| (1 * 2 ^ (i))))) (nI (i + 1)) (nv_e (by first | exact setTo_t (by simpa using c6) | exact setTo_f0 (by simpa using c6))) rfl ls (lv_sub hl [1, 0, 2] rfl)
  exact L8 _ (0) (Nat.lt_succ_self _) (by omega) (nI (0)) (nI (0)) rfl rfl ls (lv_sub hl [1, 0, 2] rfl)

set_option maxHeartbeats 4000000 in
set_option maxRecDepth 100000 in
/-- X4_dearest -/
theorem c_X4_dearest (l : Launch) (D : va_G) (ci : Nat → ClassId) (am : Nat → Nat) (X : AS) (kr : Nat → Int32) (q0 q1 q2 q3 q4 q5 : Int32) (iw : Bool) (kn : Nat → Option Nat) (y0 y1 y2 y3 y4 y5 y6 : Nat → Int32) (hI : injA am 16)  (hWX : WFX X) (hkr : kOK X kr) : Met l yX4_dearest wsX4_dearest ({ frames := 7, cells := 0, slots := 0, locals := 163 } : Room) (va_Pc [.ref (am 0)] (ro_B D (tyL ci) (wN ci am X kr q0 q1 q2 q3 q4 q5 iw kn y0 y1 y2 y3 y4 y5 y6) (enT))) (mu_Q (aM am) (some (.int ((p_dearest X).1))) (fun H => ∃ (kr : Nat → Int32) (q0 : Int32) (q1 : Int32) (q2 : Int32) (q3 : Int32) (q4 : Int32) (q5 : Int32) (iw : Bool) (y0 : Nat → Int32) (y1 : Nat → Int32) (y2 : Nat → Int32) (y3 : Nat → Int32) (y4 : Nat → Int32) (y5 : Nat → Int32) (y6 : Nat → Int32), kOK (p_dearest X).2 kr ∧ va_P D vwCl (wN ci am ((p_dearest X).2) kr q0 q1 q2 q3 q4 q5 iw kn y0 y1 y2 y3 y4 y5 y6) H)) 0 0 (aM am) := by
  refine mu_Met (cc := cX4_dearest) (maxL := 5) (ret := (some .int)) [(0, .ref (am 0))] (wN_D hI) (by decide) rfl (Nat.le_of_ble_eq_true rfl) rfl ?_
  intro p e s m below meth c H locs hx hb hml hr hlocks hts hown hP hK hs0 hD hS ls hl
  have hown : s.vm.findClass RX4 = some m.cls := hown
  have hinX4 : ∀ w ∈ wsX40, w ∈ wsX4_dearest := by decide +kernel
  have hE := hE_T
  have hWF := hWX.w
  have f_n := hWF.n
  have f_e := hWX.e
  have f_tl := hWX.t
  have f_ev := two_le hWF.n
  have f_ev0 := two_pos (X.1 7 0)
  refine lv_aload_n hx hb dX4_dearest_0 rfl (lv_at hl 0 rfl) ?_
  refine mu_V (n := 0) (As := []) (rest := []) ⟨hx, hb, hml, hown, hts⟩ (c_X4_hearAll l D ci am X kr q0 q1 q2 q3 q4 q5 iw kn y0 y1 y2 y3 y4 y5 y6 hI  hWF) gX4_dearest_X4_hearAll rfl ⟨rfl, rfl⟩ (by decide +kernel) rfl ⟨Nat.le_of_ble_eq_true rfl, Nat.le_of_ble_eq_true rfl⟩ hE trivial hK hP (ci := 4) (q0 := 0) rfl rfl hl.1 rfl (Nat.le_of_ble_eq_true rfl) dX4_dearest_1 ⟨Nat.zero_le _, Nat.zero_le _⟩ hS (fun _ h => h) (fun H1 locs hz hfr hB hS => ?_)
  obtain ⟨y2_1, h_ex, hP⟩ := hB
  have hP : va_P D vwCl (wN ci am X kr q0 q1 q2 q3 q4 q5 iw kn y0 y1 y2_1 y3 y4 y5 y6) H1 := hP
  generalize H1 = H at hP hS ⊢
  have hD : va_D (aM am) (wN ci am X kr q0 q1 q2 q3 q4 q5 iw kn y0 y1 y2_1 y3 y4 y5 y6) := wN_D hI
  refine lv_iconst (v := -1) hx hb dX4_dearest_4 (by decide) ?_
  refine lv_istore_n (lv' := [(1, .int (-1)), (0, .ref (am 0))]) hx hb dX4_dearest_5 rfl hl (by decide) rfl (fun ls hl => ?_)
  refine lv_iconst (v := -1) hx hb dX4_dearest_6 (by decide) ?_
  refine lv_istore_n (lv' := [(2, .int (-1)), (1, .int (-1)), (0, .ref (am 0))]) hx hb dX4_dearest_7 rfl hl (by decide) rfl (fun ls hl => ?_)
  refine lv_iconst (v := nI (0)) hx hb dX4_dearest_8 (by decide) ?_
  refine lv_istore_n (lv' := [(3, .int (nI 0)), (2, .int (-1)), (1, .int (-1)), (0, .ref (am 0))]) hx hb dX4_dearest_9 rfl hl (by decide) rfl (fun ls hl => ?_)
  have L10 : ∀ (k10 : Nat) (i : Nat), X.1 7 0 - i < k10 → (i ≤ X.1 7 0) → ∀ (x1 : Int32), ∀ (x2 : Int32), ∀ (x3 : Int32), x1 = nI ((arg1 (fun q => cLn X.1 12 (1 * 2 ^ q)) (i))) - nI (1) → x2 = nI ((argTo (fun q => cLn X.1 12 (1 * 2 ^ q)) (i)).2) - nI (1) → x3 = nI (i) → ∀ ls : Array Slot, lv_has ls 5 [(1, .int (x1)), (2, .int (x2)), (3, .int (x3)), (0, .ref (am 0))] → W p l e (headSpec wsX4_dearest ({ frames := 7, cells := 0, slots := 0, locals := 163 } : Room)).room s m ([.ref (am 0)] : List Value).toArray below meth c H locs 0 0 (MQ below (mu_Q (aM am) (some (.int ((p_dearest X).1))) (fun H => ∃ (kr : Nat → Int32) (q0 : Int32) (q1 : Int32) (q2 : Int32) (q3 : Int32) (q4 : Int32) (q5 : Int32) (iw : Bool) (y0 : Nat → Int32) (y1 : Nat → Int32) (y2 : Nat → Int32) (y3 : Nat → Int32) (y4 : Nat → Int32) (y5 : Nat → Int32) (y6 : Nat → Int32), kOK (p_dearest X).2 kr ∧ va_P D vwCl (wN ci am ((p_dearest X).2) kr q0 q1 q2 q3 q4 q5 iw kn y0 y1 y2 y3 y4 y5 y6) H)) ([.ref (am 0)] : List Value).toArray s 0 0 (aM am)) (F0 m 10 ls []) := by
    intro k10
    induction k10 with
    | zero => intro i h0; exact absurd h0 (Nat.not_lt_zero _)
    | succ k10 ih10 =>
      intro i hk10 h_i x1 x2 x3 e1 e2 e3 ls hl
      subst e1
      subst e2
      subst e3
      have f_2 : i < 8 → 1 * 2 ^ i < 256 := two_lt
      have f_a : (argTo (fun q => cLn X.1 12 (1 * 2 ^ q)) i).2 ≤ 193 := arg_le i (fun v _ => Nat.lt_succ_of_le (cLn_le X.1 _))
      have f_c := cLn_le X.1 (1 * 2 ^ i)
      have f_1 := arg1_le (f := (fun q => cLn X.1 12 (1 * 2 ^ q))) i
      refine lv_iload_n hx hb dX4_dearest_10 rfl (lv_at hl 2 rfl) ?_
      refine lv_aload_n hx hb dX4_dearest_11 rfl (lv_at hl 3 rfl) ?_
      refine va_get (D := D) (ci := 4) (v := .ref (am 1)) (C := RX4) (T := TX4) (N := 24) hx hb hts hinX4 hown hK hP 0 rfl rfl 0 (by decide) (hts (.fieldLink RX4 9 "OneShortModel" "now" "[I") (List.mem_of_getElem? (i := 1) rfl)) (fun _ h9 => h9) rfl dX4_dearest_12 ?_
      refine lv_iconst (v := nI (1)) hx hb dX4_dearest_15 (by decide) ?_
      refine nv_iald (v := nI (X.1 7 0)) hx hb hK hP 1 0 rfl rfl (by omega) (by decide) (pk_n X.1) dX4_dearest_16 ?_
      refine nv_icmp_ge (tgt := 61) hx hb (by omega) (by omega) dX4_dearest_17 (by decide) (fun c2 => ?_) (fun c2 => ?_)
      · refine lv_aload_n hx hb dX4_dearest_61 rfl (lv_at hl 3 rfl) ?_
        refine lv_iload_n hx hb dX4_dearest_62 rfl (lv_at hl 0 rfl) ?_
        refine mu_V (n := 1) (As := [.int (nI ((arg1 (fun q => cLn X.1 12 (1 * 2 ^ q)) (i))) - nI (1))]) (rest := []) ⟨hx, hb, hml, hown, hts⟩ (c_X4_orNone l D ci am X kr q0 q1 q2 q3 q4 q5 iw kn y0 y1 y2_1 y3 y4 y5 y6 hI ((arg1 (fun q => cLn X.1 12 (1 * 2 ^ q)) (i))) (by omega)) gX4_dearest_X4_orNone rfl ⟨rfl, rfl⟩ (by decide +kernel) rfl ⟨Nat.le_of_ble_eq_true rfl, Nat.le_of_ble_eq_true rfl⟩ hE trivial hK hP (ci := 4) (q0 := 0) rfl rfl hl.1 rfl (Nat.le_of_ble_eq_true rfl) dX4_dearest_63 ⟨Nat.zero_le _, Nat.zero_le _⟩ hS (fun _ h => h) (fun H1 locs hz hfr hB hS => ?_)
        have hP := hB
        have hP : va_P D vwCl (wN ci am ((bk X (decide (0 < (arg1 (fun q => cLn X.1 12 (1 * 2 ^ q)) (i)))) 3 (nI ((arg1 (fun q => cLn X.1 12 (1 * 2 ^ q)) (i)) - 1), X)).2) kr q0 q1 q2 q3 q4 q5 iw kn y0 y1 y2_1 y3 y4 y5 y6) H1 := hP
        generalize H1 = H at hP hS ⊢
        have hD : va_D (aM am) (wN ci am ((bk X (decide (0 < (arg1 (fun q => cLn X.1 12 (1 * 2 ^ q)) (i)))) 3 (nI ((arg1 (fun q => cLn X.1 12 (1 * 2 ^ q)) (i)) - 1), X)).2) kr q0 q1 q2 q3 q4 q5 iw kn y0 y1 y2_1 y3 y4 y5 y6) := wN_D hI
        have hp : p_dearest X = ((bk X (decide (0 < (arg1 (fun q => cLn X.1 12 (1 * 2 ^ q)) (i)))) 3 (nI ((arg1 (fun q => cLn X.1 12 (1 * 2 ^ q)) (i)) - 1), X)).1, (bk X (decide (0 < (arg1 (fun q => cLn X.1 12 (1 * 2 ^ q)) (i)))) 3 (nI ((arg1 (fun q => cLn X.1 12 (1 * 2 ^ q)) (i)) - 1), X)).2) := by rw [dear_eq, show X.1 7 0 = i by omega]
        refine nv_cv (show (bk X (decide (0 < (arg1 (fun q => cLn X.1 12 (1 * 2 ^ q)) (i)))) 3 (nI ((arg1 (fun q => cLn X.1 12 (1 * 2 ^ q)) (i)) - 1), X)).1 = (p_dearest X).1 from by rw [hp]) ?_
        exact mu_iret hx hb hr hlocks hS ((by rw [hp]; exact ⟨_, _, _, _, _, _, _, _, _, _, _, _, _, _, _, (by first | exact kOK_bk hkr hkr | exact hkr), hP⟩)) dX4_dearest_66
      · refine lv_aload_n hx hb dX4_dearest_20 rfl (lv_at hl 3 rfl) ?_
        refine lv_aload_n hx hb dX4_dearest_21 rfl (lv_at hl 3 rfl) ?_
        refine ro_V (n := 0) (As := []) (rest := [.ref (am 0)]) ⟨hx, hb, hml, hown, hts⟩ (c_X4_everybody l D ci am X kr q0 q1 q2 q3 q4 q5 iw kn y0 y1 y2_1 y3 y4 y5 y6  hWF) gX4_dearest_X4_everybody rfl ⟨rfl, rfl⟩ (by decide +kernel) rfl ⟨Nat.le_of_ble_eq_true rfl, Nat.le_of_ble_eq_true rfl⟩ hE trivial hK hP (ci := 4) (q0 := 0) rfl rfl hl.1 rfl (Nat.le_of_ble_eq_true rfl) dX4_dearest_22 ⟨Nat.zero_le _, Nat.zero_le _⟩ ?_
        have f3 := evb_lt hWF.n
        refine lv_iconst (v := nI (1)) hx hb dX4_dearest_25 (by decide) ?_
        refine lv_iload_n hx hb dX4_dearest_26 rfl (lv_at hl 2 rfl) ?_
        refine nv_ishl hx hb (by omega) dX4_dearest_27 ?_
        refine lv_iconst (v := -1) hx hb dX4_dearest_28 (by decide) ?_
        refine lv_ixor hx hb dX4_dearest_29 ?_
        refine lv_iand hx hb dX4_dearest_30 ?_
        have f4 := (Nat.and_le_left : (1 * 2 ^ X.1 7 0 - 1) &&& (4095 ^^^ (1 * 2 ^ (i))) ≤ (1 * 2 ^ X.1 7 0 - 1))
        refine nv_cv (show (nI ((1 * 2 ^ X.1 7 0 - 1)) &&& (nI ((1 * 2 ^ (i))) ^^^ -1)) = nI (((1 * 2 ^ X.1 7 0 - 1) &&& (4095 ^^^ (1 * 2 ^ (i))))) from nI_andn (by omega) (by omega)) ?_
        refine ro_V (n := 1) (As := [.int (nI (((1 * 2 ^ X.1 7 0 - 1) &&& (4095 ^^^ (1 * 2 ^ (i))))))]) (rest := []) ⟨hx, hb, hml, hown, hts⟩ (c_X4_lessBy l D ci am X kr q0 q1 q2 q3 q4 q5 iw kn y0 y1 y2_1 y3 y4 y5 y6 (((1 * 2 ^ X.1 7 0 - 1) &&& (4095 ^^^ (1 * 2 ^ (i))))) hWF (by omega) h_ex) gX4_dearest_X4_lessBy rfl ⟨rfl, rfl⟩ (by decide +kernel) rfl ⟨Nat.le_of_ble_eq_true rfl, Nat.le_of_ble_eq_true rfl⟩ hE trivial hK hP (ci := 4) (q0 := 0) rfl rfl hl.1 rfl (Nat.le_of_ble_eq_true rfl) dX4_dearest_31 ⟨Nat.zero_le _, Nat.zero_le _⟩ ?_
        have f5 := lessN_le X.1 (((1 * 2 ^ X.1 7 0 - 1) &&& (4095 ^^^ (1 * 2 ^ (i)))))
        refine nv_cv (show nI (lessN X.1 ((1 * 2 ^ X.1 7 0 - 1) &&& (4095 ^^^ (1 * 2 ^ (i))))) = nI (cLn X.1 12 (1 * 2 ^ i)) from congrArg nI (less_one hWF (by omega))) ?_
        refine lv_istore (lv' := [(4, .int (nI (cLn X.1 12 (1 * 2 ^ i)))), (1, .int (nI ((arg1 (fun q => cLn X.1 12 (1 * 2 ^ q)) (i))) - nI (1))), (2, .int (nI ((argTo (fun q => cLn X.1 12 (1 * 2 ^ q)) (i)).2) - nI (1))), (3, .int (nI i)), (0, .ref (am 0))]) hx hb dX4_dearest_34 hl (by decide) rfl (fun ls hl => ?_)
        refine lv_iload hx hb dX4_dearest_36 (lv_at hl 0 rfl) ?_
        refine lv_iload_n hx hb dX4_dearest_38 rfl (lv_at hl 2 rfl) ?_
        refine nv_icmp_le_D (tgt := 46) hx hb (by omega) (by omega) dX4_dearest_39 (by decide) (fun c6 => ?_) (fun c6 => ?_)
        · refine lv_iload_n hx hb dX4_dearest_46 rfl (lv_at hl 1 rfl) ?_
          refine lv_istore_n (lv' := [(1, .int (nI ((arg1 (fun q => cLn X.1 12 (1 * 2 ^ q)) (i))) - nI (1))), (4, .int (nI (cLn X.1 12 (1 * 2 ^ i)))), (2, .int (nI ((argTo (fun q => cLn X.1 12 (1 * 2 ^ q)) (i)).2) - nI (1))), (3, .int (nI i)), (0, .ref (am 0))]) hx hb dX4_dearest_47 rfl hl (by decide) rfl (fun ls hl => ?_)
          refine lv_iload_n hx hb dX4_dearest_48 rfl (lv_at hl 2 rfl) ?_
          refine lv_iload hx hb dX4_dearest_49 (lv_at hl 1 rfl) ?_
          refine va_mmax hx hb (hml.trans hl.1.symm) hown (hts (.methodLink RX4 118 Lib.Math.max.name) (List.mem_of_getElem? (i := 2) rfl)) (hts (.static Lib.Math.max.name) (List.mem_of_getElem? (i := 3) rfl)) (hts (.initialized "java/lang/Math") (List.mem_of_getElem? (i := 4) rfl)) (hts (.code Lib.Math.max.name Lib.Math.max.code 2 (some .int)) (List.mem_of_getElem? (i := 5) rfl)) (Nat.le_of_ble_eq_true rfl) (Nat.le_of_ble_eq_true rfl) (Nat.zero_le _) (Nat.zero_le _) dX4_dearest_51 (nv_cv (nv_maxD (m := (argTo (fun q => cLn X.1 12 (1 * 2 ^ q)) (i)).2) (x := cLn X.1 12 (1 * 2 ^ i)) (by omega) (by omega)) ?_)
          refine lv_istore_n (lv' := [(2, .int (nI (max ((argTo (fun q => cLn X.1 12 (1 * 2 ^ q)) (i)).2) (cLn X.1 12 (1 * 2 ^ i) + 1)) - nI (1))), (1, .int (nI ((arg1 (fun q => cLn X.1 12 (1 * 2 ^ q)) (i))) - nI (1))), (4, .int (nI (cLn X.1 12 (1 * 2 ^ i)))), (3, .int (nI i)), (0, .ref (am 0))]) hx hb dX4_dearest_54 rfl hl (by decide) rfl (fun ls hl => ?_)
          refine nv_iinc1 (lv' := [(3, .int (nI (i + 1))), (2, .int (nI (max ((argTo (fun q => cLn X.1 12 (1 * 2 ^ q)) (i)).2) (cLn X.1 12 (1 * 2 ^ i) + 1)) - nI (1))), (1, .int (nI ((arg1 (fun q => cLn X.1 12 (1 * 2 ^ q)) (i))) - nI (1))), (4, .int (nI (cLn X.1 12 (1 * 2 ^ i)))), (0, .ref (am 0))]) hx hb dX4_dearest_55 hl (k := 3) rfl (by decide) rfl (fun ls hl => ?_)
          refine lv_goto (tgt := 10) hx hb dX4_dearest_58 (by decide) ?_
          exact ih10 (i + 1) (by omega) (by omega) (nI ((arg1 (fun q => cLn X.1 12 (1 * 2 ^ q)) (i))) - nI (1)) (nI (max ((argTo (fun q => cLn X.1 12 (1 * 2 ^ q)) (i)).2) (cLn X.1 12 (1 * 2 ^ i) + 1)) - nI (1)) (nI (i + 1)) (by first | (rw [arg1_t c6]; exact (nI_pred _).symm) | rw [arg1_f c6]) (by exact congrArg (fun z => nI z - nI 1) (arg_max _ _)) rfl ls (lv_sub hl [2, 1, 0, 4] rfl)
        · refine lv_iload_n hx hb dX4_dearest_42 rfl (lv_at hl 3 rfl) ?_
          refine lv_goto (tgt := 47) hx hb dX4_dearest_43 (by decide) ?_
          refine lv_istore_n (lv' := [(1, .int (nI i)), (4, .int (nI (cLn X.1 12 (1 * 2 ^ i)))), (2, .int (nI ((argTo (fun q => cLn X.1 12 (1 * 2 ^ q)) (i)).2) - nI (1))), (3, .int (nI i)), (0, .ref (am 0))]) hx hb dX4_dearest_47 rfl hl (by decide) rfl (fun ls hl => ?_)
          refine lv_iload_n hx hb dX4_dearest_48 rfl (lv_at hl 2 rfl) ?_
          refine lv_iload hx hb dX4_dearest_49 (lv_at hl 1 rfl) ?_
          refine va_mmax hx hb (hml.trans hl.1.symm) hown (hts (.methodLink RX4 118 Lib.Math.max.name) (List.mem_of_getElem? (i := 2) rfl)) (hts (.static Lib.Math.max.name) (List.mem_of_getElem? (i := 3) rfl)) (hts (.initialized "java/lang/Math") (List.mem_of_getElem? (i := 4) rfl)) (hts (.code Lib.Math.max.name Lib.Math.max.code 2 (some .int)) (List.mem_of_getElem? (i := 5) rfl)) (Nat.le_of_ble_eq_true rfl) (Nat.le_of_ble_eq_true rfl) (Nat.zero_le _) (Nat.zero_le _) dX4_dearest_51 (nv_cv (nv_maxD (m := (argTo (fun q => cLn X.1 12 (1 * 2 ^ q)) (i)).2) (x := cLn X.1 12 (1 * 2 ^ i)) (by omega) (by omega)) ?_)
          refine lv_istore_n (lv' := [(2, .int (nI (max ((argTo (fun q => cLn X.1 12 (1 * 2 ^ q)) (i)).2) (cLn X.1 12 (1 * 2 ^ i) + 1)) - nI (1))), (1, .int (nI i)), (4, .int (nI (cLn X.1 12 (1 * 2 ^ i)))), (3, .int (nI i)), (0, .ref (am 0))]) hx hb dX4_dearest_54 rfl hl (by decide) rfl (fun ls hl => ?_)
          refine nv_iinc1 (lv' := [(3, .int (nI (i + 1))), (2, .int (nI (max ((argTo (fun q => cLn X.1 12 (1 * 2 ^ q)) (i)).2) (cLn X.1 12 (1 * 2 ^ i) + 1)) - nI (1))), (1, .int (nI i)), (4, .int (nI (cLn X.1 12 (1 * 2 ^ i)))), (0, .ref (am 0))]) hx hb dX4_dearest_55 hl (k := 3) rfl (by decide) rfl (fun ls hl => ?_)
          refine lv_goto (tgt := 10) hx hb dX4_dearest_58 (by decide) ?_
          exact ih10 (i + 1) (by omega) (by omega) (nI (i)) (nI (max ((argTo (fun q => cLn X.1 12 (1 * 2 ^ q)) (i)).2) (cLn X.1 12 (1 * 2 ^ i) + 1)) - nI (1)) (nI (i + 1)) (by first | (rw [arg1_t c6]; exact (nI_pred _).symm) | rw [arg1_f c6]) (by exact congrArg (fun z => nI z - nI 1) (arg_max _ _)) rfl ls (lv_sub hl [2, 1, 0, 4] rfl)
  exact L10 _ (0) (Nat.lt_succ_self _) (by omega) (-1) (-1) (nI (0)) (by rfl) (by rfl) rfl ls (lv_sub hl [2, 1, 0, 3] rfl)

set_option maxHeartbeats 4000000 in
set_option maxRecDepth 100000 in
/-- X4_lost -/
theorem c_X4_lost (l : Launch) (D : va_G) (ci : Nat → ClassId) (am : Nat → Nat) (X : AS) (kr : Nat → Int32) (q0 q1 q2 q3 q4 q5 : Int32) (iw : Bool) (kn : Nat → Option Nat) (y0 y1 y2 y3 y4 y5 y6 : Nat → Int32) (hI : injA am 16) (x : Int32) (hWX : WFX X) (hkr : kOK X kr) : Met l yX4_lost wsX4_lost ({ frames := 7, cells := 0, slots := 0, locals := 163 } : Room) (va_Pc [.ref (am 0), .int (x)] (ro_B D (tyL ci) (wN ci am X kr q0 q1 q2 q3 q4 q5 iw kn y0 y1 y2 y3 y4 y5 y6) (enT))) (mu_Q (aM am) (some (.int ((p_lost X x).1))) (fun H => ∃ (kr : Nat → Int32) (q0 : Int32) (q1 : Int32) (q2 : Int32) (q3 : Int32) (q4 : Int32) (q5 : Int32) (iw : Bool) (y0 : Nat → Int32) (y1 : Nat → Int32) (y2 : Nat → Int32) (y3 : Nat → Int32) (y4 : Nat → Int32) (y5 : Nat → Int32) (y6 : Nat → Int32), kOK (p_lost X x).2 kr ∧ va_P D vwCl (wN ci am ((p_lost X x).2) kr q0 q1 q2 q3 q4 q5 iw kn y0 y1 y2 y3 y4 y5 y6) H)) 0 0 (aM am) := by
  refine mu_Met (cc := cX4_lost) (maxL := 2) (ret := (some .int)) [(0, .ref (am 0)), (1, .int (x))] (wN_D hI) (by decide) rfl (Nat.le_of_ble_eq_true rfl) rfl ?_
  intro p e s m below meth c H locs hx hb hml hr hlocks hts hown hP hK hs0 hD hS ls hl
  have hown : s.vm.findClass RX4 = some m.cls := hown
  have hE := hE_T
  have hWF := hWX.w
  have f_n := hWF.n
  have f_e := hWX.e
  have f_tl := hWX.t
  have f_ev := two_le hWF.n
  have f_ev0 := two_pos (X.1 7 0)
  refine lv_iload_n hx hb dX4_lost_0 rfl (lv_at hl 1 rfl) ?_
  refine lv_iconst (v := nI (0)) hx hb dX4_lost_1 (by decide) ?_
  refine lv_aload_n hx hb dX4_lost_2 rfl (lv_at hl 0 rfl) ?_
  refine ro_V (n := 0) (As := []) (rest := [.int (nI 0), .int (x)]) ⟨hx, hb, hml, hown, hts⟩ (c_X4_everybody l D ci am X kr q0 q1 q2 q3 q4 q5 iw kn y0 y1 y2 y3 y4 y5 y6  hWF) gX4_lost_X4_everybody rfl ⟨rfl, rfl⟩ (by decide +kernel) rfl ⟨Nat.le_of_ble_eq_true rfl, Nat.le_of_ble_eq_true rfl⟩ hE trivial hK hP (ci := 4) (q0 := 0) rfl rfl hl.1 rfl (Nat.le_of_ble_eq_true rfl) dX4_lost_3 ⟨Nat.zero_le _, Nat.zero_le _⟩ ?_
  have f1 := evb_lt hWF.n
  refine ro_S (n := 3) (As := [.int (x), .int (nI 0), .int (nI ((1 * 2 ^ X.1 7 0 - 1)))]) (rest := []) ⟨hx, hb, hml, hown, hts⟩ (c_X4_within l D ci (wN ci am X kr q0 q1 q2 q3 q4 q5 iw kn y0 y1 y2 y3 y4 y5 y6) (x) (nI (0)) (nI ((1 * 2 ^ X.1 7 0 - 1))) ) gX4_lost_X4_within rfl ⟨rfl, rfl⟩ (by decide +kernel) rfl ⟨Nat.le_of_ble_eq_true rfl, Nat.le_of_ble_eq_true rfl⟩ hE trivial hK hP hl.1 rfl (Nat.le_of_ble_eq_true rfl) dX4_lost_6 ⟨Nat.zero_le _, Nat.zero_le _⟩ ?_
  refine nv_cv (congrArg bI (wth_in x ((1 * 2 ^ X.1 7 0 - 1)) (by omega))) ?_
  refine nv_ifne_b (tgt := 19) hx hb dX4_lost_9 (by decide) (fun c2 => ?_) (fun c2 => ?_)
  · obtain ⟨xn, h_xn, rfl⟩ := in_ex c2 (by omega)
    have t_xn : tn (nI xn) = xn := tn_nI (by omega)
    refine lv_aload_n hx hb dX4_lost_19 rfl (lv_at hl 0 rfl) ?_
    refine mu_V (n := 0) (As := []) (rest := []) ⟨hx, hb, hml, hown, hts⟩ (c_X4_hearAll l D ci am X kr q0 q1 q2 q3 q4 q5 iw kn y0 y1 y2 y3 y4 y5 y6 hI  hWF) gX4_lost_X4_hearAll rfl ⟨rfl, rfl⟩ (by decide +kernel) rfl ⟨Nat.le_of_ble_eq_true rfl, Nat.le_of_ble_eq_true rfl⟩ hE trivial hK hP (ci := 4) (q0 := 0) rfl rfl hl.1 rfl (Nat.le_of_ble_eq_true rfl) dX4_lost_20 ⟨Nat.zero_le _, Nat.zero_le _⟩ hS (fun _ h => h) (fun H1 locs hz hfr hB hS => ?_)
    obtain ⟨y2_3, h_ex, hP⟩ := hB
    have hP : va_P D vwCl (wN ci am X kr q0 q1 q2 q3 q4 q5 iw kn y0 y1 y2_3 y3 y4 y5 y6) H1 := hP
    generalize H1 = H at hP hS ⊢
    have hD : va_D (aM am) (wN ci am X kr q0 q1 q2 q3 q4 q5 iw kn y0 y1 y2_3 y3 y4 y5 y6) := wN_D hI
    refine lv_aload_n hx hb dX4_lost_23 rfl (lv_at hl 0 rfl) ?_
    refine lv_aload_n hx hb dX4_lost_24 rfl (lv_at hl 0 rfl) ?_
    refine ro_V (n := 0) (As := []) (rest := [.ref (am 0)]) ⟨hx, hb, hml, hown, hts⟩ (c_X4_everybody l D ci am X kr q0 q1 q2 q3 q4 q5 iw kn y0 y1 y2_3 y3 y4 y5 y6  hWF) gX4_lost_X4_everybody rfl ⟨rfl, rfl⟩ (by decide +kernel) rfl ⟨Nat.le_of_ble_eq_true rfl, Nat.le_of_ble_eq_true rfl⟩ hE trivial hK hP (ci := 4) (q0 := 0) rfl rfl hl.1 rfl (Nat.le_of_ble_eq_true rfl) dX4_lost_25 ⟨Nat.zero_le _, Nat.zero_le _⟩ ?_
    have f4 := evb_lt hWF.n
    refine lv_iload_n hx hb dX4_lost_28 rfl (lv_at hl 1 rfl) ?_
    refine lv_iconst (v := -1) hx hb dX4_lost_29 (by decide) ?_
    refine lv_ixor hx hb dX4_lost_30 ?_
    refine lv_iand hx hb dX4_lost_31 ?_
    have f5 := (Nat.and_le_left : (1 * 2 ^ X.1 7 0 - 1) &&& (4095 ^^^ xn) ≤ (1 * 2 ^ X.1 7 0 - 1))
    refine nv_cv (show (nI ((1 * 2 ^ X.1 7 0 - 1)) &&& (nI (xn) ^^^ -1)) = nI (((1 * 2 ^ X.1 7 0 - 1) &&& (4095 ^^^ xn))) from nI_andn (by omega) (by omega)) ?_
    refine ro_V (n := 1) (As := [.int (nI (((1 * 2 ^ X.1 7 0 - 1) &&& (4095 ^^^ xn))))]) (rest := []) ⟨hx, hb, hml, hown, hts⟩ (c_X4_lessBy l D ci am X kr q0 q1 q2 q3 q4 q5 iw kn y0 y1 y2_3 y3 y4 y5 y6 (((1 * 2 ^ X.1 7 0 - 1) &&& (4095 ^^^ xn))) hWF (by omega) h_ex) gX4_lost_X4_lessBy rfl ⟨rfl, rfl⟩ (by decide +kernel) rfl ⟨Nat.le_of_ble_eq_true rfl, Nat.le_of_ble_eq_true rfl⟩ hE trivial hK hP (ci := 4) (q0 := 0) rfl rfl hl.1 rfl (Nat.le_of_ble_eq_true rfl) dX4_lost_32 ⟨Nat.zero_le _, Nat.zero_le _⟩ ?_
    have f6 := lessN_le X.1 (((1 * 2 ^ X.1 7 0 - 1) &&& (4095 ^^^ xn)))
    refine nv_cv (show nI (lessN X.1 ((1 * 2 ^ X.1 7 0 - 1) &&& (4095 ^^^ xn))) = nI (lstN X.1 xn) from congrArg nI (less_lst hWF xn)) ?_
    have hp : p_lost X (nI xn) = (nI (lstN X.1 xn), X) := by (have e9 : (1 * 2 ^ X.1 7 0 - 1) + 1 = 1 * 2 ^ X.1 7 0 := (by omega)); rw [e9] at c2; rw [p_lost, bk_t c2, t_xn]
    refine nv_cv (show nI (lstN X.1 xn) = (p_lost X (nI xn)).1 from by rw [hp]) ?_
    exact mu_iret hx hb hr hlocks hS ((by rw [hp]; exact ⟨_, _, _, _, _, _, _, _, _, _, _, _, _, _, _, hkr, hP⟩)) dX4_lost_35
  · refine lv_aload_n hx hb dX4_lost_12 rfl (lv_at hl 0 rfl) ?_
    refine lv_ldc (v := -1000001) hx hb hown (hts (.constant RX4 72 (-1000001)) (List.mem_of_getElem? (i := 1) rfl)) dX4_lost_13 ?_
    refine mu_V (n := 1) (As := [.int (-1000001)]) (rest := []) ⟨hx, hb, hml, hown, hts⟩ (c_X4_finding l D ci am X kr q0 q1 q2 q3 q4 q5 iw kn y0 y1 y2 y3 y4 y5 y6 hI (-1000001) (0) (by omega) (by decide)) gX4_lost_X4_finding rfl ⟨rfl, rfl⟩ (by decide +kernel) rfl ⟨Nat.le_of_ble_eq_true rfl, Nat.le_of_ble_eq_true rfl⟩ hE trivial hK hP (ci := 4) (q0 := 0) rfl rfl hl.1 rfl (Nat.le_of_ble_eq_true rfl) dX4_lost_15 ⟨Nat.zero_le _, Nat.zero_le _⟩ hS (fun _ h => h) (fun H1 locs hz hfr hB hS => ?_)
    have hP := hB
    have hP : va_P D vwCl (wN ci am (toF X (inc X.2.2.2.1 0)) kr q0 q1 q2 q3 q4 q5 iw kn y0 y1 y2 y3 y4 y5 y6) H1 := hP
    generalize H1 = H at hP hS ⊢
    have hD : va_D (aM am) (wN ci am (toF X (inc X.2.2.2.1 0)) kr q0 q1 q2 q3 q4 q5 iw kn y0 y1 y2 y3 y4 y5 y6) := wN_D hI
    have hp : p_lost X x = (fnd 0, toF X (inc X.2.2.2.1 0)) := by (have e9 : (1 * 2 ^ X.1 7 0 - 1) + 1 = 1 * 2 ^ X.1 7 0 := (by omega)); rw [e9] at c2; rw [p_lost, bk_f c2]; rfl
    refine nv_cv (show fnd 0 = (p_lost X x).1 from by rw [hp]) ?_
    exact mu_iret hx hb hr hlocks hS ((by rw [hp]; exact ⟨_, _, _, _, _, _, _, _, _, _, _, _, _, _, _, hkr, hP⟩)) dX4_lost_18
