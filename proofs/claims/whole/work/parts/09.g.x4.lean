/-! walks laid by program -/
set_option maxHeartbeats 4000000 in
set_option maxRecDepth 100000 in
/-- X4_best -/
theorem c_X4_best_1 (l : Launch) (D : va_G) (ci : Nat → ClassId) (am : Nat → Nat) (X : AS) (kr : Nat → Int32) (q0 q1 q2 q3 q4 q5 : Int32) (iw : Bool) (kn : Nat → Option Nat) (y0 y1 y2 y3 y4 y5 y6 : Nat → Int32) (hI : injA am 16) (u n : Nat) (hWF : WF X.1) (h_u : u < 8) (h_n : n ≤ 20) (h_8 : X.1 8 0 ≤ 99999) : Met l yX4_best wsX4_best ({ frames := 11, cells := 0, slots := 0, locals := 250 } : Room) (va_Pc [.ref (am 0), .int (nI u), .int (nI 0), .int (nI 7), .int (nI n)] (ro_B D (tyL ci) (wN ci am X kr q0 q1 q2 q3 q4 q5 iw kn y0 y1 y2 y3 y4 y5 y6) (enT))) (mu_Q (aM am) (some (.int (nI ((argTo (brave X.1 1 u n) 7).1)))) (fun H => ∃ (y0 : Nat → Int32) (y1 : Nat → Int32), va_P D vwCl (wN ci am X kr q0 q1 q2 q3 q4 q5 iw kn y0 y1 y2 y3 y4 y5 y6) H)) 0 0 (aM am) := by
  refine mu_Met (cc := cX4_best) (maxL := 10) (ret := (some .int)) [(0, .ref (am 0)), (1, .int (nI u)), (2, .int (nI 0)), (3, .int (nI 7)), (4, .int (nI n))] (wN_D hI) (by decide) rfl (Nat.le_of_ble_eq_true rfl) rfl ?_
  intro p e s m below meth c H locs hx hb hml hr hlocks hts hown hP hK hs0 hD hS ls hl
  have hown : s.vm.findClass RX4 = some m.cls := hown
  have hinX4 : ∀ w ∈ wsX40, w ∈ wsX4_best := by decide +kernel
  have hE := hE_T
  have f_n := hWF.n
  refine lv_aload_n hx hb dX4_best_0 rfl (lv_at hl 0 rfl) ?_
  refine lv_iload_n hx hb dX4_best_1 rfl (lv_at hl 1 rfl) ?_
  refine lv_iload_n hx hb dX4_best_2 rfl (lv_at hl 2 rfl) ?_
  refine ro_V (n := 2) (As := [.int (nI u), .int (nI 0)]) (rest := []) ⟨hx, hb, hml, hown, hts⟩ (c_X4_playerIs l D ci am X kr q0 q1 q2 q3 q4 q5 iw kn y0 y1 y2 y3 y4 y5 y6 (u) (0) hWF (by omega) (by omega)) gX4_best_X4_playerIs rfl ⟨rfl, rfl⟩ (by decide +kernel) rfl ⟨Nat.le_of_ble_eq_true rfl, Nat.le_of_ble_eq_true rfl⟩ hE trivial hK hP (ci := 4) (q0 := 0) rfl rfl hl.1 rfl (Nat.le_of_ble_eq_true rfl) dX4_best_3 ⟨Nat.zero_le _, Nat.zero_le _⟩ ?_
  refine nv_cv (show nI (X.1 (0 + 1) u) = nI (X.1 1 u) from rfl) ?_
  have f1 := hWF.f1 u
  refine lv_istore (lv' := [(5, .int (nI (X.1 1 u))), (0, .ref (am 0)), (1, .int (nI u)), (2, .int (nI 0)), (3, .int (nI 7)), (4, .int (nI n))]) hx hb dX4_best_6 hl (by decide) rfl (fun ls hl => ?_)
  refine lv_iconst (v := nI (0)) hx hb dX4_best_8 (by decide) ?_
  refine lv_istore (lv' := [(6, .int (nI 0)), (5, .int (nI (X.1 1 u))), (0, .ref (am 0)), (1, .int (nI u)), (2, .int (nI 0)), (3, .int (nI 7)), (4, .int (nI n))]) hx hb dX4_best_9 hl (by decide) rfl (fun ls hl => ?_)
  refine lv_iconst (v := -1) hx hb dX4_best_11 (by decide) ?_
  refine lv_istore (lv' := [(7, .int (-1)), (6, .int (nI 0)), (5, .int (nI (X.1 1 u))), (0, .ref (am 0)), (1, .int (nI u)), (2, .int (nI 0)), (3, .int (nI 7)), (4, .int (nI n))]) hx hb dX4_best_12 hl (by decide) rfl (fun ls hl => ?_)
  refine lv_iconst (v := nI (0)) hx hb dX4_best_14 (by decide) ?_
  refine lv_istore (lv' := [(8, .int (nI 0)), (7, .int (-1)), (6, .int (nI 0)), (5, .int (nI (X.1 1 u))), (0, .ref (am 0)), (1, .int (nI u)), (2, .int (nI 0)), (3, .int (nI 7)), (4, .int (nI n))]) hx hb dX4_best_15 hl (by decide) rfl (fun ls hl => ?_)
  have L17 : ∀ (k17 : Nat) (i : Nat), 7 - i < k17 → (i ≤ 7) → ∀ (x6 x7 x8 : Int32), x6 = nI ((argTo (brave X.1 1 u n) (i)).1) → x7 = nI ((argTo (brave X.1 1 u n) (i)).2) - nI (1) → x8 = nI (i) → ∀ (y0 : Nat → Int32) (y1 : Nat → Int32), ∀ (H : Heap) (locs : List Loc), va_P D vwCl (wN ci am (toS X (bT X.1 1 u i)) kr q0 q1 q2 q3 q4 q5 iw kn y0 y1 y2 y3 y4 y5 y6) H → va_S (aM am) s.heap H locs → ∀ ls : Array Slot, lv_has ls 10 [(6, .int (x6)), (7, .int (x7)), (8, .int (x8)), (5, .int (nI (X.1 1 u))), (0, .ref (am 0)), (1, .int (nI u)), (2, .int (nI 0)), (3, .int (nI 7)), (4, .int (nI n))] → W p l e (headSpec wsX4_best ({ frames := 11, cells := 0, slots := 0, locals := 250 } : Room)).room s m ([.ref (am 0), .int (nI u), .int (nI 0), .int (nI 7), .int (nI n)] : List Value).toArray below meth c H locs 0 0 (MQ below (mu_Q (aM am) (some (.int (nI ((argTo (brave X.1 1 u n) 7).1)))) (fun H => ∃ (y0 : Nat → Int32) (y1 : Nat → Int32), va_P D vwCl (wN ci am X kr q0 q1 q2 q3 q4 q5 iw kn y0 y1 y2 y3 y4 y5 y6) H)) ([.ref (am 0), .int (nI u), .int (nI 0), .int (nI 7), .int (nI n)] : List Value).toArray s 0 0 (aM am)) (F0 m 17 ls []) := by
    intro k17
    induction k17 with
    | zero => intro i h0; exact absurd h0 (Nat.not_lt_zero _)
    | succ k17 ih17 =>
      intro i hk17 h_i x6 x7 x8 e6 e7 e8 y0 y1 H locs hP hS ls hl
      subst e6
      subst e7
      subst e8
      have hD : va_D (aM am) (wN ci am (toS X (bT X.1 1 u i)) kr q0 q1 q2 q3 q4 q5 iw kn y0 y1 y2 y3 y4 y5 y6) := wN_D hI
      have f_a : (argTo (brave X.1 1 u n) i).2 ≤ 100 := arg_le i (fun v hv => brave_lt (e := 7) hWF (fun v hv => WF_st1 hWF u hv) v (by omega))
      have f_b : i < 7 → evCn (st X.1 1 u i) n 5 u < 100 := fun h => (WF_evCn (WF_st1 hWF u h) n).f5 u
      refine lv_iload hx hb dX4_best_17 (lv_at hl 2 rfl) ?_
      refine lv_iload_n hx hb dX4_best_19 rfl (lv_at hl 7 rfl) ?_
      refine nv_icmp_ge (tgt := 75) hx hb (by omega) (by omega) dX4_best_20 (by decide) (fun c2 => ?_) (fun c2 => ?_)
      · refine lv_aload_n hx hb dX4_best_75 rfl (lv_at hl 4 rfl) ?_
        refine va_get (D := D) (ci := 4) (v := .ref (am 1)) (C := RX4) (T := TX4) (N := 24) hx hb hts hinX4 hown hK hP 0 rfl rfl 0 (by decide) (hts (.fieldLink RX4 9 "OneShortModel" "now" "[I") (List.mem_of_getElem? (i := 1) rfl)) (fun _ h9 => h9) rfl dX4_best_76 ?_
        refine lv_iload_n hx hb dX4_best_79 rfl (lv_at hl 5 rfl) ?_
        refine lv_iload_n hx hb dX4_best_80 rfl (lv_at hl 6 rfl) ?_
        refine ro_S (n := 2) (As := [.int (nI u), .int (nI 0)]) (rest := [.ref (am 1)]) ⟨hx, hb, hml, hown, hts⟩ (c_X4_at l D ci (wN ci am (toS X (bT X.1 1 u i)) kr q0 q1 q2 q3 q4 q5 iw kn y0 y1 y2 y3 y4 y5 y6) (u) (0) ) gX4_best_X4_at rfl ⟨rfl, rfl⟩ (by decide +kernel) rfl ⟨Nat.le_of_ble_eq_true rfl, Nat.le_of_ble_eq_true rfl⟩ hE trivial hK hP hl.1 rfl (Nat.le_of_ble_eq_true rfl) dX4_best_81 ⟨Nat.zero_le _, Nat.zero_le _⟩ ?_
        refine lv_iload hx hb dX4_best_84 (lv_at hl 3 rfl) ?_
        refine nv_iast hx hb hK hP hD hS 1 0 rfl rfl (by omega) (by decide) dX4_best_86 (fun H locs hP hD hS => ?_)
        have hP : va_P D vwCl (wN ci am (toS X (st (bT X.1 1 u i) 1 u (X.1 1 u))) kr q0 q1 q2 q3 q4 q5 iw kn y0 y1 y2 y3 y4 y5 y6) H := va_P.re (wN_now ci am (toS X (bT X.1 1 u i)) kr q0 q1 q2 q3 q4 q5 iw kn y0 y1 y2 y3 y4 y5 y6 (25 + 5 * u + 0) (nI (X.1 1 u)) (pku_f (bT X.1 1 u i) u (by omega))) hP
        have hD : va_D (aM am) (wN ci am (toS X (st (bT X.1 1 u i) 1 u (X.1 1 u))) kr q0 q1 q2 q3 q4 q5 iw kn y0 y1 y2 y3 y4 y5 y6) := wN_D hI
        refine lv_iload hx hb dX4_best_87 (lv_at hl 0 rfl) ?_
        refine nv_cv (show nI ((argTo (brave X.1 1 u n) (i)).1) = nI ((argTo (brave X.1 1 u n) 7).1) from nv_e (by rw [show i = 7 by omega])) ?_
        exact mu_iret hx hb hr hlocks hS ((by rw [bT_st, st_self] at hP; exact ⟨_, _, hP⟩)) dX4_best_89
      · refine lv_aload_n hx hb dX4_best_23 rfl (lv_at hl 4 rfl) ?_
        refine va_get (D := D) (ci := 4) (v := .ref (am 1)) (C := RX4) (T := TX4) (N := 24) hx hb hts hinX4 hown hK hP 0 rfl rfl 0 (by decide) (hts (.fieldLink RX4 9 "OneShortModel" "now" "[I") (List.mem_of_getElem? (i := 1) rfl)) (fun _ h9 => h9) rfl dX4_best_24 ?_
        refine lv_iload_n hx hb dX4_best_27 rfl (lv_at hl 5 rfl) ?_
        refine lv_iload_n hx hb dX4_best_28 rfl (lv_at hl 6 rfl) ?_
        refine ro_S (n := 2) (As := [.int (nI u), .int (nI 0)]) (rest := [.ref (am 1)]) ⟨hx, hb, hml, hown, hts⟩ (c_X4_at l D ci (wN ci am (toS X (bT X.1 1 u i)) kr q0 q1 q2 q3 q4 q5 iw kn y0 y1 y2 y3 y4 y5 y6) (u) (0) ) gX4_best_X4_at rfl ⟨rfl, rfl⟩ (by decide +kernel) rfl ⟨Nat.le_of_ble_eq_true rfl, Nat.le_of_ble_eq_true rfl⟩ hE trivial hK hP hl.1 rfl (Nat.le_of_ble_eq_true rfl) dX4_best_29 ⟨Nat.zero_le _, Nat.zero_le _⟩ ?_
        refine lv_iload hx hb dX4_best_32 (lv_at hl 2 rfl) ?_
        refine nv_iast hx hb hK hP hD hS 1 0 rfl rfl (by omega) (by decide) dX4_best_34 (fun H locs hP hD hS => ?_)
        have hP : va_P D vwCl (wN ci am (toS X (st (bT X.1 1 u i) 1 u i)) kr q0 q1 q2 q3 q4 q5 iw kn y0 y1 y2 y3 y4 y5 y6) H := va_P.re (wN_now ci am (toS X (bT X.1 1 u i)) kr q0 q1 q2 q3 q4 q5 iw kn y0 y1 y2 y3 y4 y5 y6 (25 + 5 * u + 0) (nI (i)) (pku_f (bT X.1 1 u i) u (by omega))) hP
        have hD : va_D (aM am) (wN ci am (toS X (st (bT X.1 1 u i) 1 u i)) kr q0 q1 q2 q3 q4 q5 iw kn y0 y1 y2 y3 y4 y5 y6) := wN_D hI
        refine lv_aload_n hx hb dX4_best_35 rfl (lv_at hl 4 rfl) ?_
        refine lv_iload_n hx hb dX4_best_36 rfl (lv_at hl 5 rfl) ?_
        refine lv_iload hx hb dX4_best_37 (lv_at hl 8 rfl) ?_
        refine mu_V (n := 2) (As := [.int (nI u), .int (nI n)]) (rest := []) ⟨hx, hb, hml, hown, hts⟩ (c_X4_nerveBehind l D ci am (toS X (st (bT X.1 1 u i) 1 u i)) kr q0 q1 q2 q3 q4 q5 iw kn y0 y1 y2 y3 y4 y5 y6 hI (u) (n) (by rw [bT_st]; exact WF_st1 hWF u (by omega)) (by omega) (by omega) (by rw [bT_st]; exact (show X.1 8 0 + n < 200000 by omega))) gX4_best_X4_nerveBehind rfl ⟨rfl, rfl⟩ (by decide +kernel) rfl ⟨Nat.le_of_ble_eq_true rfl, Nat.le_of_ble_eq_true rfl⟩ hE trivial hK hP (ci := 4) (q0 := 0) rfl rfl hl.1 rfl (Nat.le_of_ble_eq_true rfl) dX4_best_39 ⟨Nat.zero_le _, Nat.zero_le _⟩ hS (fun _ h => h) (fun H1 locs hz hfr hB hS => ?_)
        obtain ⟨y0_3, y1_4, hP⟩ := hB
        have hP : va_P D vwCl (wN ci am (toS X (st (bT X.1 1 u i) 1 u i)) kr q0 q1 q2 q3 q4 q5 iw kn y0_3 y1_4 y2 y3 y4 y5 y6) H1 := hP
        generalize H1 = H at hP hS ⊢
        have hD : va_D (aM am) (wN ci am (toS X (st (bT X.1 1 u i) 1 u i)) kr q0 q1 q2 q3 q4 q5 iw kn y0_3 y1_4 y2 y3 y4 y5 y6) := wN_D hI
        refine nv_cv (show nI (evCn (toS X (st (bT X.1 1 u i) 1 u i)).1 n 5 u) = nI (evCn (st (bT X.1 1 u i) 1 u i) n 5 u) from rfl) ?_
        refine nv_cv (show nI (evCn (st (bT X.1 1 u i) 1 u i) n 5 u) = nI (evCn (st X.1 1 u i) n 5 u) from by rw [bT_st]) ?_
        refine lv_istore (lv' := [(9, .int (nI (evCn (st X.1 1 u i) n 5 u))), (6, .int (nI ((argTo (brave X.1 1 u n) (i)).1))), (7, .int (nI ((argTo (brave X.1 1 u n) (i)).2) - nI (1))), (8, .int (nI i)), (5, .int (nI (X.1 1 u))), (0, .ref (am 0)), (1, .int (nI u)), (2, .int (nI 0)), (3, .int (nI 7)), (4, .int (nI n))]) hx hb dX4_best_42 hl (by decide) rfl (fun ls hl => ?_)
        refine lv_iload hx hb dX4_best_44 (lv_at hl 0 rfl) ?_
        refine lv_iload hx hb dX4_best_46 (lv_at hl 2 rfl) ?_
        refine nv_icmp_le_D (tgt := 56) hx hb (by omega) (by omega) dX4_best_48 (by decide) (fun c5 => ?_) (fun c5 => ?_)
        · refine lv_iload hx hb dX4_best_56 (lv_at hl 1 rfl) ?_
          refine lv_istore (lv' := [(6, .int (nI ((argTo (brave X.1 1 u n) (i)).1))), (9, .int (nI (evCn (st X.1 1 u i) n 5 u))), (7, .int (nI ((argTo (brave X.1 1 u n) (i)).2) - nI (1))), (8, .int (nI i)), (5, .int (nI (X.1 1 u))), (0, .ref (am 0)), (1, .int (nI u)), (2, .int (nI 0)), (3, .int (nI 7)), (4, .int (nI n))]) hx hb dX4_best_58 hl (by decide) rfl (fun ls hl => ?_)
          refine lv_iload hx hb dX4_best_60 (lv_at hl 2 rfl) ?_
          refine lv_iload hx hb dX4_best_62 (lv_at hl 1 rfl) ?_
          refine va_mmax hx hb (hml.trans hl.1.symm) hown (hts (.methodLink RX4 118 Lib.Math.max.name) (List.mem_of_getElem? (i := 2) rfl)) (hts (.static Lib.Math.max.name) (List.mem_of_getElem? (i := 3) rfl)) (hts (.initialized "java/lang/Math") (List.mem_of_getElem? (i := 4) rfl)) (hts (.code Lib.Math.max.name Lib.Math.max.code 2 (some .int)) (List.mem_of_getElem? (i := 5) rfl)) (Nat.le_of_ble_eq_true rfl) (Nat.le_of_ble_eq_true rfl) (Nat.zero_le _) (Nat.zero_le _) dX4_best_64 (nv_cv (nv_maxD (m := (argTo (brave X.1 1 u n) (i)).2) (x := evCn (st X.1 1 u i) n 5 u) (by omega) (by omega)) ?_)
          refine lv_istore (lv' := [(7, .int (nI (max ((argTo (brave X.1 1 u n) (i)).2) (evCn (st X.1 1 u i) n 5 u + 1)) - nI (1))), (6, .int (nI ((argTo (brave X.1 1 u n) (i)).1))), (9, .int (nI (evCn (st X.1 1 u i) n 5 u))), (8, .int (nI i)), (5, .int (nI (X.1 1 u))), (0, .ref (am 0)), (1, .int (nI u)), (2, .int (nI 0)), (3, .int (nI 7)), (4, .int (nI n))]) hx hb dX4_best_67 hl (by decide) rfl (fun ls hl => ?_)
          refine nv_iinc1 (lv' := [(8, .int (nI (i + 1))), (7, .int (nI (max ((argTo (brave X.1 1 u n) (i)).2) (evCn (st X.1 1 u i) n 5 u + 1)) - nI (1))), (6, .int (nI ((argTo (brave X.1 1 u n) (i)).1))), (9, .int (nI (evCn (st X.1 1 u i) n 5 u))), (5, .int (nI (X.1 1 u))), (0, .ref (am 0)), (1, .int (nI u)), (2, .int (nI 0)), (3, .int (nI 7)), (4, .int (nI n))]) hx hb dX4_best_69 hl (k := 3) rfl (by decide) rfl (fun ls hl => ?_)
          refine lv_goto (tgt := 17) hx hb dX4_best_72 (by decide) ?_
          exact ih17 (i + 1) (by omega) (by omega) (nI ((argTo (brave X.1 1 u n) (i)).1)) (nI (max ((argTo (brave X.1 1 u n) (i)).2) (evCn (st X.1 1 u i) n 5 u + 1)) - nI (1)) (nI (i + 1)) (nv_e (by first | rw [arg_t c5] | rw [arg_f c5])) (by exact congrArg (fun z => nI z - nI 1) (arg_max _ _)) rfl (y0_3) (y1_4) _ _ (va_P.re (by rw [bT_st]; rfl) hP) hS ls (lv_sub hl [2, 1, 0, 4, 5, 6, 7, 8, 9] rfl)
        · refine lv_iload hx hb dX4_best_51 (lv_at hl 3 rfl) ?_
          refine lv_goto (tgt := 58) hx hb dX4_best_53 (by decide) ?_
          refine lv_istore (lv' := [(6, .int (nI i)), (9, .int (nI (evCn (st X.1 1 u i) n 5 u))), (7, .int (nI ((argTo (brave X.1 1 u n) (i)).2) - nI (1))), (8, .int (nI i)), (5, .int (nI (X.1 1 u))), (0, .ref (am 0)), (1, .int (nI u)), (2, .int (nI 0)), (3, .int (nI 7)), (4, .int (nI n))]) hx hb dX4_best_58 hl (by decide) rfl (fun ls hl => ?_)
          refine lv_iload hx hb dX4_best_60 (lv_at hl 2 rfl) ?_
          refine lv_iload hx hb dX4_best_62 (lv_at hl 1 rfl) ?_
          refine va_mmax hx hb (hml.trans hl.1.symm) hown (hts (.methodLink RX4 118 Lib.Math.max.name) (List.mem_of_getElem? (i := 2) rfl)) (hts (.static Lib.Math.max.name) (List.mem_of_getElem? (i := 3) rfl)) (hts (.initialized "java/lang/Math") (List.mem_of_getElem? (i := 4) rfl)) (hts (.code Lib.Math.max.name Lib.Math.max.code 2 (some .int)) (List.mem_of_getElem? (i := 5) rfl)) (Nat.le_of_ble_eq_true rfl) (Nat.le_of_ble_eq_true rfl) (Nat.zero_le _) (Nat.zero_le _) dX4_best_64 (nv_cv (nv_maxD (m := (argTo (brave X.1 1 u n) (i)).2) (x := evCn (st X.1 1 u i) n 5 u) (by omega) (by omega)) ?_)
          refine lv_istore (lv' := [(7, .int (nI (max ((argTo (brave X.1 1 u n) (i)).2) (evCn (st X.1 1 u i) n 5 u + 1)) - nI (1))), (6, .int (nI i)), (9, .int (nI (evCn (st X.1 1 u i) n 5 u))), (8, .int (nI i)), (5, .int (nI (X.1 1 u))), (0, .ref (am 0)), (1, .int (nI u)), (2, .int (nI 0)), (3, .int (nI 7)), (4, .int (nI n))]) hx hb dX4_best_67 hl (by decide) rfl (fun ls hl => ?_)
          refine nv_iinc1 (lv' := [(8, .int (nI (i + 1))), (7, .int (nI (max ((argTo (brave X.1 1 u n) (i)).2) (evCn (st X.1 1 u i) n 5 u + 1)) - nI (1))), (6, .int (nI i)), (9, .int (nI (evCn (st X.1 1 u i) n 5 u))), (5, .int (nI (X.1 1 u))), (0, .ref (am 0)), (1, .int (nI u)), (2, .int (nI 0)), (3, .int (nI 7)), (4, .int (nI n))]) hx hb dX4_best_69 hl (k := 3) rfl (by decide) rfl (fun ls hl => ?_)
          refine lv_goto (tgt := 17) hx hb dX4_best_72 (by decide) ?_
          exact ih17 (i + 1) (by omega) (by omega) (nI (i)) (nI (max ((argTo (brave X.1 1 u n) (i)).2) (evCn (st X.1 1 u i) n 5 u + 1)) - nI (1)) (nI (i + 1)) (nv_e (by first | rw [arg_t c5] | rw [arg_f c5])) (by exact congrArg (fun z => nI z - nI 1) (arg_max _ _)) rfl (y0_3) (y1_4) _ _ (va_P.re (by rw [bT_st]; rfl) hP) hS ls (lv_sub hl [2, 1, 0, 4, 5, 6, 7, 8, 9] rfl)
  exact L17 _ (0) (Nat.lt_succ_self _) (by omega) (nI (0)) (-1) (nI (0)) rfl (by rfl) rfl (y0) (y1) _ _ (va_P.re (by rfl) hP) hS ls (lv_sub hl [2, 1, 0, 3, 4, 5, 6, 7, 8] rfl)

set_option maxHeartbeats 4000000 in
set_option maxRecDepth 100000 in
/-- X4_best -/
theorem c_X4_best_2 (l : Launch) (D : va_G) (ci : Nat → ClassId) (am : Nat → Nat) (X : AS) (kr : Nat → Int32) (q0 q1 q2 q3 q4 q5 : Int32) (iw : Bool) (kn : Nat → Option Nat) (y0 y1 y2 y3 y4 y5 y6 : Nat → Int32) (hI : injA am 16) (u n : Nat) (hWF : WF X.1) (h_u : u < 8) (h_n : n ≤ 20) (h_8 : X.1 8 0 ≤ 99999) : Met l yX4_best wsX4_best ({ frames := 11, cells := 0, slots := 0, locals := 250 } : Room) (va_Pc [.ref (am 0), .int (nI u), .int (nI 1), .int (nI 16), .int (nI n)] (ro_B D (tyL ci) (wN ci am X kr q0 q1 q2 q3 q4 q5 iw kn y0 y1 y2 y3 y4 y5 y6) (enT))) (mu_Q (aM am) (some (.int (nI ((argTo (brave X.1 2 u n) 16).1)))) (fun H => ∃ (y0 : Nat → Int32) (y1 : Nat → Int32), va_P D vwCl (wN ci am X kr q0 q1 q2 q3 q4 q5 iw kn y0 y1 y2 y3 y4 y5 y6) H)) 0 0 (aM am) := by
  refine mu_Met (cc := cX4_best) (maxL := 10) (ret := (some .int)) [(0, .ref (am 0)), (1, .int (nI u)), (2, .int (nI 1)), (3, .int (nI 16)), (4, .int (nI n))] (wN_D hI) (by decide) rfl (Nat.le_of_ble_eq_true rfl) rfl ?_
  intro p e s m below meth c H locs hx hb hml hr hlocks hts hown hP hK hs0 hD hS ls hl
  have hown : s.vm.findClass RX4 = some m.cls := hown
  have hinX4 : ∀ w ∈ wsX40, w ∈ wsX4_best := by decide +kernel
  have hE := hE_T
  have f_n := hWF.n
  refine lv_aload_n hx hb dX4_best_0 rfl (lv_at hl 0 rfl) ?_
  refine lv_iload_n hx hb dX4_best_1 rfl (lv_at hl 1 rfl) ?_
  refine lv_iload_n hx hb dX4_best_2 rfl (lv_at hl 2 rfl) ?_
  refine ro_V (n := 2) (As := [.int (nI u), .int (nI 1)]) (rest := []) ⟨hx, hb, hml, hown, hts⟩ (c_X4_playerIs l D ci am X kr q0 q1 q2 q3 q4 q5 iw kn y0 y1 y2 y3 y4 y5 y6 (u) (1) hWF (by omega) (by omega)) gX4_best_X4_playerIs rfl ⟨rfl, rfl⟩ (by decide +kernel) rfl ⟨Nat.le_of_ble_eq_true rfl, Nat.le_of_ble_eq_true rfl⟩ hE trivial hK hP (ci := 4) (q0 := 0) rfl rfl hl.1 rfl (Nat.le_of_ble_eq_true rfl) dX4_best_3 ⟨Nat.zero_le _, Nat.zero_le _⟩ ?_
  refine nv_cv (show nI (X.1 (1 + 1) u) = nI (X.1 2 u) from rfl) ?_
  have f1 := hWF.f2 u
  refine lv_istore (lv' := [(5, .int (nI (X.1 2 u))), (0, .ref (am 0)), (1, .int (nI u)), (2, .int (nI 1)), (3, .int (nI 16)), (4, .int (nI n))]) hx hb dX4_best_6 hl (by decide) rfl (fun ls hl => ?_)
  refine lv_iconst (v := nI (0)) hx hb dX4_best_8 (by decide) ?_
  refine lv_istore (lv' := [(6, .int (nI 0)), (5, .int (nI (X.1 2 u))), (0, .ref (am 0)), (1, .int (nI u)), (2, .int (nI 1)), (3, .int (nI 16)), (4, .int (nI n))]) hx hb dX4_best_9 hl (by decide) rfl (fun ls hl => ?_)
  refine lv_iconst (v := -1) hx hb dX4_best_11 (by decide) ?_
  refine lv_istore (lv' := [(7, .int (-1)), (6, .int (nI 0)), (5, .int (nI (X.1 2 u))), (0, .ref (am 0)), (1, .int (nI u)), (2, .int (nI 1)), (3, .int (nI 16)), (4, .int (nI n))]) hx hb dX4_best_12 hl (by decide) rfl (fun ls hl => ?_)
  refine lv_iconst (v := nI (0)) hx hb dX4_best_14 (by decide) ?_
  refine lv_istore (lv' := [(8, .int (nI 0)), (7, .int (-1)), (6, .int (nI 0)), (5, .int (nI (X.1 2 u))), (0, .ref (am 0)), (1, .int (nI u)), (2, .int (nI 1)), (3, .int (nI 16)), (4, .int (nI n))]) hx hb dX4_best_15 hl (by decide) rfl (fun ls hl => ?_)
  have L17 : ∀ (k17 : Nat) (i : Nat), 16 - i < k17 → (i ≤ 16) → ∀ (x6 x7 x8 : Int32), x6 = nI ((argTo (brave X.1 2 u n) (i)).1) → x7 = nI ((argTo (brave X.1 2 u n) (i)).2) - nI (1) → x8 = nI (i) → ∀ (y0 : Nat → Int32) (y1 : Nat → Int32), ∀ (H : Heap) (locs : List Loc), va_P D vwCl (wN ci am (toS X (bT X.1 2 u i)) kr q0 q1 q2 q3 q4 q5 iw kn y0 y1 y2 y3 y4 y5 y6) H → va_S (aM am) s.heap H locs → ∀ ls : Array Slot, lv_has ls 10 [(6, .int (x6)), (7, .int (x7)), (8, .int (x8)), (5, .int (nI (X.1 2 u))), (0, .ref (am 0)), (1, .int (nI u)), (2, .int (nI 1)), (3, .int (nI 16)), (4, .int (nI n))] → W p l e (headSpec wsX4_best ({ frames := 11, cells := 0, slots := 0, locals := 250 } : Room)).room s m ([.ref (am 0), .int (nI u), .int (nI 1), .int (nI 16), .int (nI n)] : List Value).toArray below meth c H locs 0 0 (MQ below (mu_Q (aM am) (some (.int (nI ((argTo (brave X.1 2 u n) 16).1)))) (fun H => ∃ (y0 : Nat → Int32) (y1 : Nat → Int32), va_P D vwCl (wN ci am X kr q0 q1 q2 q3 q4 q5 iw kn y0 y1 y2 y3 y4 y5 y6) H)) ([.ref (am 0), .int (nI u), .int (nI 1), .int (nI 16), .int (nI n)] : List Value).toArray s 0 0 (aM am)) (F0 m 17 ls []) := by
    intro k17
    induction k17 with
    | zero => intro i h0; exact absurd h0 (Nat.not_lt_zero _)
    | succ k17 ih17 =>
      intro i hk17 h_i x6 x7 x8 e6 e7 e8 y0 y1 H locs hP hS ls hl
      subst e6
      subst e7
      subst e8
      have hD : va_D (aM am) (wN ci am (toS X (bT X.1 2 u i)) kr q0 q1 q2 q3 q4 q5 iw kn y0 y1 y2 y3 y4 y5 y6) := wN_D hI
      have f_a : (argTo (brave X.1 2 u n) i).2 ≤ 100 := arg_le i (fun v hv => brave_lt (e := 16) hWF (fun v hv => WF_st2 hWF u hv) v (by omega))
      have f_b : i < 16 → evCn (st X.1 2 u i) n 5 u < 100 := fun h => (WF_evCn (WF_st2 hWF u h) n).f5 u
      refine lv_iload hx hb dX4_best_17 (lv_at hl 2 rfl) ?_
      refine lv_iload_n hx hb dX4_best_19 rfl (lv_at hl 7 rfl) ?_
      refine nv_icmp_ge (tgt := 75) hx hb (by omega) (by omega) dX4_best_20 (by decide) (fun c2 => ?_) (fun c2 => ?_)
      · refine lv_aload_n hx hb dX4_best_75 rfl (lv_at hl 4 rfl) ?_
        refine va_get (D := D) (ci := 4) (v := .ref (am 1)) (C := RX4) (T := TX4) (N := 24) hx hb hts hinX4 hown hK hP 0 rfl rfl 0 (by decide) (hts (.fieldLink RX4 9 "OneShortModel" "now" "[I") (List.mem_of_getElem? (i := 1) rfl)) (fun _ h9 => h9) rfl dX4_best_76 ?_
        refine lv_iload_n hx hb dX4_best_79 rfl (lv_at hl 5 rfl) ?_
        refine lv_iload_n hx hb dX4_best_80 rfl (lv_at hl 6 rfl) ?_
        refine ro_S (n := 2) (As := [.int (nI u), .int (nI 1)]) (rest := [.ref (am 1)]) ⟨hx, hb, hml, hown, hts⟩ (c_X4_at l D ci (wN ci am (toS X (bT X.1 2 u i)) kr q0 q1 q2 q3 q4 q5 iw kn y0 y1 y2 y3 y4 y5 y6) (u) (1) ) gX4_best_X4_at rfl ⟨rfl, rfl⟩ (by decide +kernel) rfl ⟨Nat.le_of_ble_eq_true rfl, Nat.le_of_ble_eq_true rfl⟩ hE trivial hK hP hl.1 rfl (Nat.le_of_ble_eq_true rfl) dX4_best_81 ⟨Nat.zero_le _, Nat.zero_le _⟩ ?_
        refine lv_iload hx hb dX4_best_84 (lv_at hl 3 rfl) ?_
        refine nv_iast hx hb hK hP hD hS 1 0 rfl rfl (by omega) (by decide) dX4_best_86 (fun H locs hP hD hS => ?_)
        have hP : va_P D vwCl (wN ci am (toS X (st (bT X.1 2 u i) 2 u (X.1 2 u))) kr q0 q1 q2 q3 q4 q5 iw kn y0 y1 y2 y3 y4 y5 y6) H := va_P.re (wN_now ci am (toS X (bT X.1 2 u i)) kr q0 q1 q2 q3 q4 q5 iw kn y0 y1 y2 y3 y4 y5 y6 (25 + 5 * u + 1) (nI (X.1 2 u)) (pku_f (bT X.1 2 u i) u (by omega))) hP
        have hD : va_D (aM am) (wN ci am (toS X (st (bT X.1 2 u i) 2 u (X.1 2 u))) kr q0 q1 q2 q3 q4 q5 iw kn y0 y1 y2 y3 y4 y5 y6) := wN_D hI
        refine lv_iload hx hb dX4_best_87 (lv_at hl 0 rfl) ?_
        refine nv_cv (show nI ((argTo (brave X.1 2 u n) (i)).1) = nI ((argTo (brave X.1 2 u n) 16).1) from nv_e (by rw [show i = 16 by omega])) ?_
        exact mu_iret hx hb hr hlocks hS ((by rw [bT_st, st_self] at hP; exact ⟨_, _, hP⟩)) dX4_best_89
      · refine lv_aload_n hx hb dX4_best_23 rfl (lv_at hl 4 rfl) ?_
        refine va_get (D := D) (ci := 4) (v := .ref (am 1)) (C := RX4) (T := TX4) (N := 24) hx hb hts hinX4 hown hK hP 0 rfl rfl 0 (by decide) (hts (.fieldLink RX4 9 "OneShortModel" "now" "[I") (List.mem_of_getElem? (i := 1) rfl)) (fun _ h9 => h9) rfl dX4_best_24 ?_
        refine lv_iload_n hx hb dX4_best_27 rfl (lv_at hl 5 rfl) ?_
        refine lv_iload_n hx hb dX4_best_28 rfl (lv_at hl 6 rfl) ?_
        refine ro_S (n := 2) (As := [.int (nI u), .int (nI 1)]) (rest := [.ref (am 1)]) ⟨hx, hb, hml, hown, hts⟩ (c_X4_at l D ci (wN ci am (toS X (bT X.1 2 u i)) kr q0 q1 q2 q3 q4 q5 iw kn y0 y1 y2 y3 y4 y5 y6) (u) (1) ) gX4_best_X4_at rfl ⟨rfl, rfl⟩ (by decide +kernel) rfl ⟨Nat.le_of_ble_eq_true rfl, Nat.le_of_ble_eq_true rfl⟩ hE trivial hK hP hl.1 rfl (Nat.le_of_ble_eq_true rfl) dX4_best_29 ⟨Nat.zero_le _, Nat.zero_le _⟩ ?_
        refine lv_iload hx hb dX4_best_32 (lv_at hl 2 rfl) ?_
        refine nv_iast hx hb hK hP hD hS 1 0 rfl rfl (by omega) (by decide) dX4_best_34 (fun H locs hP hD hS => ?_)
        have hP : va_P D vwCl (wN ci am (toS X (st (bT X.1 2 u i) 2 u i)) kr q0 q1 q2 q3 q4 q5 iw kn y0 y1 y2 y3 y4 y5 y6) H := va_P.re (wN_now ci am (toS X (bT X.1 2 u i)) kr q0 q1 q2 q3 q4 q5 iw kn y0 y1 y2 y3 y4 y5 y6 (25 + 5 * u + 1) (nI (i)) (pku_f (bT X.1 2 u i) u (by omega))) hP
        have hD : va_D (aM am) (wN ci am (toS X (st (bT X.1 2 u i) 2 u i)) kr q0 q1 q2 q3 q4 q5 iw kn y0 y1 y2 y3 y4 y5 y6) := wN_D hI
        refine lv_aload_n hx hb dX4_best_35 rfl (lv_at hl 4 rfl) ?_
        refine lv_iload_n hx hb dX4_best_36 rfl (lv_at hl 5 rfl) ?_
        refine lv_iload hx hb dX4_best_37 (lv_at hl 8 rfl) ?_
        refine mu_V (n := 2) (As := [.int (nI u), .int (nI n)]) (rest := []) ⟨hx, hb, hml, hown, hts⟩ (c_X4_nerveBehind l D ci am (toS X (st (bT X.1 2 u i) 2 u i)) kr q0 q1 q2 q3 q4 q5 iw kn y0 y1 y2 y3 y4 y5 y6 hI (u) (n) (by rw [bT_st]; exact WF_st2 hWF u (by omega)) (by omega) (by omega) (by rw [bT_st]; exact (show X.1 8 0 + n < 200000 by omega))) gX4_best_X4_nerveBehind rfl ⟨rfl, rfl⟩ (by decide +kernel) rfl ⟨Nat.le_of_ble_eq_true rfl, Nat.le_of_ble_eq_true rfl⟩ hE trivial hK hP (ci := 4) (q0 := 0) rfl rfl hl.1 rfl (Nat.le_of_ble_eq_true rfl) dX4_best_39 ⟨Nat.zero_le _, Nat.zero_le _⟩ hS (fun _ h => h) (fun H1 locs hz hfr hB hS => ?_)
        obtain ⟨y0_3, y1_4, hP⟩ := hB
        have hP : va_P D vwCl (wN ci am (toS X (st (bT X.1 2 u i) 2 u i)) kr q0 q1 q2 q3 q4 q5 iw kn y0_3 y1_4 y2 y3 y4 y5 y6) H1 := hP
        generalize H1 = H at hP hS ⊢
        have hD : va_D (aM am) (wN ci am (toS X (st (bT X.1 2 u i) 2 u i)) kr q0 q1 q2 q3 q4 q5 iw kn y0_3 y1_4 y2 y3 y4 y5 y6) := wN_D hI
        refine nv_cv (show nI (evCn (toS X (st (bT X.1 2 u i) 2 u i)).1 n 5 u) = nI (evCn (st (bT X.1 2 u i) 2 u i) n 5 u) from rfl) ?_
        refine nv_cv (show nI (evCn (st (bT X.1 2 u i) 2 u i) n 5 u) = nI (evCn (st X.1 2 u i) n 5 u) from by rw [bT_st]) ?_
        refine lv_istore (lv' := [(9, .int (nI (evCn (st X.1 2 u i) n 5 u))), (6, .int (nI ((argTo (brave X.1 2 u n) (i)).1))), (7, .int (nI ((argTo (brave X.1 2 u n) (i)).2) - nI (1))), (8, .int (nI i)), (5, .int (nI (X.1 2 u))), (0, .ref (am 0)), (1, .int (nI u)), (2, .int (nI 1)), (3, .int (nI 16)), (4, .int (nI n))]) hx hb dX4_best_42 hl (by decide) rfl (fun ls hl => ?_)
        refine lv_iload hx hb dX4_best_44 (lv_at hl 0 rfl) ?_
        refine lv_iload hx hb dX4_best_46 (lv_at hl 2 rfl) ?_
        refine nv_icmp_le_D (tgt := 56) hx hb (by omega) (by omega) dX4_best_48 (by decide) (fun c5 => ?_) (fun c5 => ?_)
        · refine lv_iload hx hb dX4_best_56 (lv_at hl 1 rfl) ?_
          refine lv_istore (lv' := [(6, .int (nI ((argTo (brave X.1 2 u n) (i)).1))), (9, .int (nI (evCn (st X.1 2 u i) n 5 u))), (7, .int (nI ((argTo (brave X.1 2 u n) (i)).2) - nI (1))), (8, .int (nI i)), (5, .int (nI (X.1 2 u))), (0, .ref (am 0)), (1, .int (nI u)), (2, .int (nI 1)), (3, .int (nI 16)), (4, .int (nI n))]) hx hb dX4_best_58 hl (by decide) rfl (fun ls hl => ?_)
          refine lv_iload hx hb dX4_best_60 (lv_at hl 2 rfl) ?_
          refine lv_iload hx hb dX4_best_62 (lv_at hl 1 rfl) ?_
          refine va_mmax hx hb (hml.trans hl.1.symm) hown (hts (.methodLink RX4 118 Lib.Math.max.name) (List.mem_of_getElem? (i := 2) rfl)) (hts (.static Lib.Math.max.name) (List.mem_of_getElem? (i := 3) rfl)) (hts (.initialized "java/lang/Math") (List.mem_of_getElem? (i := 4) rfl)) (hts (.code Lib.Math.max.name Lib.Math.max.code 2 (some .int)) (List.mem_of_getElem? (i := 5) rfl)) (Nat.le_of_ble_eq_true rfl) (Nat.le_of_ble_eq_true rfl) (Nat.zero_le _) (Nat.zero_le _) dX4_best_64 (nv_cv (nv_maxD (m := (argTo (brave X.1 2 u n) (i)).2) (x := evCn (st X.1 2 u i) n 5 u) (by omega) (by omega)) ?_)
          refine lv_istore (lv' := [(7, .int (nI (max ((argTo (brave X.1 2 u n) (i)).2) (evCn (st X.1 2 u i) n 5 u + 1)) - nI (1))), (6, .int (nI ((argTo (brave X.1 2 u n) (i)).1))), (9, .int (nI (evCn (st X.1 2 u i) n 5 u))), (8, .int (nI i)), (5, .int (nI (X.1 2 u))), (0, .ref (am 0)), (1, .int (nI u)), (2, .int (nI 1)), (3, .int (nI 16)), (4, .int (nI n))]) hx hb dX4_best_67 hl (by decide) rfl (fun ls hl => ?_)
          refine nv_iinc1 (lv' := [(8, .int (nI (i + 1))), (7, .int (nI (max ((argTo (brave X.1 2 u n) (i)).2) (evCn (st X.1 2 u i) n 5 u + 1)) - nI (1))), (6, .int (nI ((argTo (brave X.1 2 u n) (i)).1))), (9, .int (nI (evCn (st X.1 2 u i) n 5 u))), (5, .int (nI (X.1 2 u))), (0, .ref (am 0)), (1, .int (nI u)), (2, .int (nI 1)), (3, .int (nI 16)), (4, .int (nI n))]) hx hb dX4_best_69 hl (k := 3) rfl (by decide) rfl (fun ls hl => ?_)
          refine lv_goto (tgt := 17) hx hb dX4_best_72 (by decide) ?_
          exact ih17 (i + 1) (by omega) (by omega) (nI ((argTo (brave X.1 2 u n) (i)).1)) (nI (max ((argTo (brave X.1 2 u n) (i)).2) (evCn (st X.1 2 u i) n 5 u + 1)) - nI (1)) (nI (i + 1)) (nv_e (by first | rw [arg_t c5] | rw [arg_f c5])) (by exact congrArg (fun z => nI z - nI 1) (arg_max _ _)) rfl (y0_3) (y1_4) _ _ (va_P.re (by rw [bT_st]; rfl) hP) hS ls (lv_sub hl [2, 1, 0, 4, 5, 6, 7, 8, 9] rfl)
        · refine lv_iload hx hb dX4_best_51 (lv_at hl 3 rfl) ?_
          refine lv_goto (tgt := 58) hx hb dX4_best_53 (by decide) ?_
          refine lv_istore (lv' := [(6, .int (nI i)), (9, .int (nI (evCn (st X.1 2 u i) n 5 u))), (7, .int (nI ((argTo (brave X.1 2 u n) (i)).2) - nI (1))), (8, .int (nI i)), (5, .int (nI (X.1 2 u))), (0, .ref (am 0)), (1, .int (nI u)), (2, .int (nI 1)), (3, .int (nI 16)), (4, .int (nI n))]) hx hb dX4_best_58 hl (by decide) rfl (fun ls hl => ?_)
          refine lv_iload hx hb dX4_best_60 (lv_at hl 2 rfl) ?_
          refine lv_iload hx hb dX4_best_62 (lv_at hl 1 rfl) ?_
          refine va_mmax hx hb (hml.trans hl.1.symm) hown (hts (.methodLink RX4 118 Lib.Math.max.name) (List.mem_of_getElem? (i := 2) rfl)) (hts (.static Lib.Math.max.name) (List.mem_of_getElem? (i := 3) rfl)) (hts (.initialized "java/lang/Math") (List.mem_of_getElem? (i := 4) rfl)) (hts (.code Lib.Math.max.name Lib.Math.max.code 2 (some .int)) (List.mem_of_getElem? (i := 5) rfl)) (Nat.le_of_ble_eq_true rfl) (Nat.le_of_ble_eq_true rfl) (Nat.zero_le _) (Nat.zero_le _) dX4_best_64 (nv_cv (nv_maxD (m := (argTo (brave X.1 2 u n) (i)).2) (x := evCn (st X.1 2 u i) n 5 u) (by omega) (by omega)) ?_)
          refine lv_istore (lv' := [(7, .int (nI (max ((argTo (brave X.1 2 u n) (i)).2) (evCn (st X.1 2 u i) n 5 u + 1)) - nI (1))), (6, .int (nI i)), (9, .int (nI (evCn (st X.1 2 u i) n 5 u))), (8, .int (nI i)), (5, .int (nI (X.1 2 u))), (0, .ref (am 0)), (1, .int (nI u)), (2, .int (nI 1)), (3, .int (nI 16)), (4, .int (nI n))]) hx hb dX4_best_67 hl (by decide) rfl (fun ls hl => ?_)
          refine nv_iinc1 (lv' := [(8, .int (nI (i + 1))), (7, .int (nI (max ((argTo (brave X.1 2 u n) (i)).2) (evCn (st X.1 2 u i) n 5 u + 1)) - nI (1))), (6, .int (nI i)), (9, .int (nI (evCn (st X.1 2 u i) n 5 u))), (5, .int (nI (X.1 2 u))), (0, .ref (am 0)), (1, .int (nI u)), (2, .int (nI 1)), (3, .int (nI 16)), (4, .int (nI n))]) hx hb dX4_best_69 hl (k := 3) rfl (by decide) rfl (fun ls hl => ?_)
          refine lv_goto (tgt := 17) hx hb dX4_best_72 (by decide) ?_
          exact ih17 (i + 1) (by omega) (by omega) (nI (i)) (nI (max ((argTo (brave X.1 2 u n) (i)).2) (evCn (st X.1 2 u i) n 5 u + 1)) - nI (1)) (nI (i + 1)) (nv_e (by first | rw [arg_t c5] | rw [arg_f c5])) (by exact congrArg (fun z => nI z - nI 1) (arg_max _ _)) rfl (y0_3) (y1_4) _ _ (va_P.re (by rw [bT_st]; rfl) hP) hS ls (lv_sub hl [2, 1, 0, 4, 5, 6, 7, 8, 9] rfl)
  exact L17 _ (0) (Nat.lt_succ_self _) (by omega) (nI (0)) (-1) (nI (0)) rfl (by rfl) rfl (y0) (y1) _ _ (va_P.re (by rfl) hP) hS ls (lv_sub hl [2, 1, 0, 3, 4, 5, 6, 7, 8] rfl)

set_option maxHeartbeats 4000000 in
set_option maxRecDepth 100000 in
/-- X4_kindFor -/
theorem c_X4_kindFor (l : Launch) (D : va_G) (ci : Nat → ClassId) (am : Nat → Nat) (X : AS) (kr : Nat → Int32) (q0 q1 q2 q3 q4 q5 : Int32) (iw : Bool) (kn : Nat → Option Nat) (y0 y1 y2 y3 y4 y5 y6 : Nat → Int32) (hI : injA am 16) (q n : Int32) (hWX : WFX X) (hkr : kOK X kr) : Met l yX4_kindFor wsX4_kindFor ({ frames := 12, cells := 0, slots := 0, locals := 279 } : Room) (va_Pc [.ref (am 0), .int (q), .int (n)] (ro_B D (tyL ci) (wN ci am X kr q0 q1 q2 q3 q4 q5 iw kn y0 y1 y2 y3 y4 y5 y6) (enT))) (mu_Q (aM am) (some (.int ((p_kindFor X q n).1))) (fun H => ∃ (kr : Nat → Int32) (q0 : Int32) (q1 : Int32) (q2 : Int32) (q3 : Int32) (q4 : Int32) (q5 : Int32) (iw : Bool) (y0 : Nat → Int32) (y1 : Nat → Int32) (y2 : Nat → Int32) (y3 : Nat → Int32) (y4 : Nat → Int32) (y5 : Nat → Int32) (y6 : Nat → Int32), kOK (p_kindFor X q n).2 kr ∧ va_P D vwCl (wN ci am ((p_kindFor X q n).2) kr q0 q1 q2 q3 q4 q5 iw kn y0 y1 y2 y3 y4 y5 y6) H)) 0 0 (aM am) := by
  refine mu_Met (cc := cX4_kindFor) (maxL := 3) (ret := (some .int)) [(0, .ref (am 0)), (1, .int (q)), (2, .int (n))] (wN_D hI) (by decide) rfl (Nat.le_of_ble_eq_true rfl) rfl ?_
  intro p e s m below meth c H locs hx hb hml hr hlocks hts hown hP hK hs0 hD hS ls hl
  have hown : s.vm.findClass RX4 = some m.cls := hown
  have hE := hE_T
  have hWF := hWX.w
  have f_n := hWF.n
  have f_e := hWX.e
  have f_tl := hWX.t
  refine lv_aload_n hx hb dX4_kindFor_0 rfl (lv_at hl 0 rfl) ?_
  refine lv_iload_n hx hb dX4_kindFor_1 rfl (lv_at hl 1 rfl) ?_
  refine ro_V (n := 1) (As := [.int (q)]) (rest := []) ⟨hx, hb, hml, hown, hts⟩ (c_X4_isPlayer l D ci am X kr q0 q1 q2 q3 q4 q5 iw kn y0 y1 y2 y3 y4 y5 y6 (q) hWF) gX4_kindFor_X4_isPlayer rfl ⟨rfl, rfl⟩ (by decide +kernel) rfl ⟨Nat.le_of_ble_eq_true rfl, Nat.le_of_ble_eq_true rfl⟩ hE trivial hK hP (ci := 4) (q0 := 0) rfl rfl hl.1 rfl (Nat.le_of_ble_eq_true rfl) dX4_kindFor_2 ⟨Nat.zero_le _, Nat.zero_le _⟩ ?_
  refine nv_ifeq_b (tgt := 30) hx hb dX4_kindFor_5 (by decide) (fun c1 => ?_) (fun c1 => ?_)
  · refine lv_aload_n hx hb dX4_kindFor_30 rfl (lv_at hl 0 rfl) ?_
    refine lv_ldc (v := -1000001) hx hb hown (hts (.constant RX4 72 (-1000001)) (List.mem_of_getElem? (i := 1) rfl)) dX4_kindFor_31 ?_
    refine mu_V (n := 1) (As := [.int (-1000001)]) (rest := []) ⟨hx, hb, hml, hown, hts⟩ (c_X4_finding l D ci am X kr q0 q1 q2 q3 q4 q5 iw kn y0 y1 y2 y3 y4 y5 y6 hI (-1000001) (0) (by omega) (by decide)) gX4_kindFor_X4_finding rfl ⟨rfl, rfl⟩ (by decide +kernel) rfl ⟨Nat.le_of_ble_eq_true rfl, Nat.le_of_ble_eq_true rfl⟩ hE trivial hK hP (ci := 4) (q0 := 0) rfl rfl hl.1 rfl (Nat.le_of_ble_eq_true rfl) dX4_kindFor_33 ⟨Nat.zero_le _, Nat.zero_le _⟩ hS (fun _ h => h) (fun H1 locs hz hfr hB hS => ?_)
    have hP := hB
    have hP : va_P D vwCl (wN ci am (toF X (inc X.2.2.2.1 0)) kr q0 q1 q2 q3 q4 q5 iw kn y0 y1 y2 y3 y4 y5 y6) H1 := hP
    generalize H1 = H at hP hS ⊢
    have hD : va_D (aM am) (wN ci am (toF X (inc X.2.2.2.1 0)) kr q0 q1 q2 q3 q4 q5 iw kn y0 y1 y2 y3 y4 y5 y6) := wN_D hI
    have hp : p_kindFor X q n = (fnd 0, toF X (inc X.2.2.2.1 0)) := by first | (simp [p_kindFor, bk, fl_eq, inP, c1]; done) | (simp [p_kindFor, bk, fl_eq, inP, c1] <;> omega)
    refine nv_cv (show fnd 0 = (p_kindFor X q n).1 from by rw [hp]) ?_
    exact mu_iret hx hb hr hlocks hS ((by rw [hp]; exact ⟨_, _, _, _, _, _, _, _, _, _, _, _, _, _, _, hkr, hP⟩)) dX4_kindFor_36
  · obtain ⟨qn, h_qn, rfl⟩ := in_ex c1 (by omega)
    have t_qn : tn (nI qn) = qn := tn_nI (by omega)
    refine lv_iload_n hx hb dX4_kindFor_8 rfl (lv_at hl 2 rfl) ?_
    refine lv_iconst (v := nI (0)) hx hb dX4_kindFor_9 (by decide) ?_
    refine lv_bipush (v := nI (20)) hx hb dX4_kindFor_10 (by decide) ?_
    refine ro_S (n := 3) (As := [.int (n), .int (nI 0), .int (nI 20)]) (rest := []) ⟨hx, hb, hml, hown, hts⟩ (c_X4_within l D ci (wN ci am X kr q0 q1 q2 q3 q4 q5 iw kn y0 y1 y2 y3 y4 y5 y6) (n) (nI (0)) (nI (20)) ) gX4_kindFor_X4_within rfl ⟨rfl, rfl⟩ (by decide +kernel) rfl ⟨Nat.le_of_ble_eq_true rfl, Nat.le_of_ble_eq_true rfl⟩ hE trivial hK hP hl.1 rfl (Nat.le_of_ble_eq_true rfl) dX4_kindFor_12 ⟨Nat.zero_le _, Nat.zero_le _⟩ ?_
    refine nv_cv (congrArg bI (wth_in n 20 (by decide))) ?_
    refine nv_ifeq_b (tgt := 30) hx hb dX4_kindFor_15 (by decide) (fun c2 => ?_) (fun c2 => ?_)
    · refine lv_aload_n hx hb dX4_kindFor_30 rfl (lv_at hl 0 rfl) ?_
      refine lv_ldc (v := -1000001) hx hb hown (hts (.constant RX4 72 (-1000001)) (List.mem_of_getElem? (i := 1) rfl)) dX4_kindFor_31 ?_
      refine mu_V (n := 1) (As := [.int (-1000001)]) (rest := []) ⟨hx, hb, hml, hown, hts⟩ (c_X4_finding l D ci am X kr q0 q1 q2 q3 q4 q5 iw kn y0 y1 y2 y3 y4 y5 y6 hI (-1000001) (0) (by omega) (by decide)) gX4_kindFor_X4_finding rfl ⟨rfl, rfl⟩ (by decide +kernel) rfl ⟨Nat.le_of_ble_eq_true rfl, Nat.le_of_ble_eq_true rfl⟩ hE trivial hK hP (ci := 4) (q0 := 0) rfl rfl hl.1 rfl (Nat.le_of_ble_eq_true rfl) dX4_kindFor_33 ⟨Nat.zero_le _, Nat.zero_le _⟩ hS (fun _ h => h) (fun H1 locs hz hfr hB hS => ?_)
      have hP := hB
      have hP : va_P D vwCl (wN ci am (toF X (inc X.2.2.2.1 0)) kr q0 q1 q2 q3 q4 q5 iw kn y0 y1 y2 y3 y4 y5 y6) H1 := hP
      generalize H1 = H at hP hS ⊢
      have hD : va_D (aM am) (wN ci am (toF X (inc X.2.2.2.1 0)) kr q0 q1 q2 q3 q4 q5 iw kn y0 y1 y2 y3 y4 y5 y6) := wN_D hI
      have hp : p_kindFor X (nI qn) n = (fnd 0, toF X (inc X.2.2.2.1 0)) := by first | (simp [p_kindFor, bk, fl_eq, inP, c1, c2, t_qn]; done) | (simp [p_kindFor, bk, fl_eq, inP, c1, c2, t_qn] <;> omega)
      refine nv_cv (show fnd 0 = (p_kindFor X (nI qn) n).1 from by rw [hp]) ?_
      exact mu_iret hx hb hr hlocks hS ((by rw [hp]; exact ⟨_, _, _, _, _, _, _, _, _, _, _, _, _, _, _, hkr, hP⟩)) dX4_kindFor_36
    · obtain ⟨nn, h_nn, rfl⟩ := in_ex c2 (by omega)
      have t_nn : tn (nI nn) = nn := tn_nI (by omega)
      refine lv_aload_n hx hb dX4_kindFor_18 rfl (lv_at hl 0 rfl) ?_
      refine lv_iload_n hx hb dX4_kindFor_19 rfl (lv_at hl 1 rfl) ?_
      refine lv_iconst (v := nI (0)) hx hb dX4_kindFor_20 (by decide) ?_
      refine lv_bipush (v := nI (7)) hx hb dX4_kindFor_21 (by decide) ?_
      refine lv_iload_n hx hb dX4_kindFor_23 rfl (lv_at hl 2 rfl) ?_
      refine mu_V (n := 4) (As := [.int (nI qn), .int (nI 0), .int (nI 7), .int (nI nn)]) (rest := []) ⟨hx, hb, hml, hown, hts⟩ (c_X4_best_1 l D ci am X kr q0 q1 q2 q3 q4 q5 iw kn y0 y1 y2 y3 y4 y5 y6 hI (qn) (nn) hWF (by omega) (by omega) (by omega)) gX4_kindFor_X4_best rfl ⟨rfl, rfl⟩ (by decide +kernel) rfl ⟨Nat.le_of_ble_eq_true rfl, Nat.le_of_ble_eq_true rfl⟩ hE trivial hK hP (ci := 4) (q0 := 0) rfl rfl hl.1 rfl (Nat.le_of_ble_eq_true rfl) dX4_kindFor_24 ⟨Nat.zero_le _, Nat.zero_le _⟩ hS (fun _ h => h) (fun H1 locs hz hfr hB hS => ?_)
      obtain ⟨y0_3, y1_4, hP⟩ := hB
      have hP : va_P D vwCl (wN ci am X kr q0 q1 q2 q3 q4 q5 iw kn y0_3 y1_4 y2 y3 y4 y5 y6) H1 := hP
      generalize H1 = H at hP hS ⊢
      have hD : va_D (aM am) (wN ci am X kr q0 q1 q2 q3 q4 q5 iw kn y0_3 y1_4 y2 y3 y4 y5 y6) := wN_D hI
      refine lv_goto (tgt := 36) hx hb dX4_kindFor_27 (by decide) ?_
      have hp : p_kindFor X (nI qn) (nI nn) = (nI ((argTo (brave X.1 1 qn nn) 7).1), X) := by first | (simp [p_kindFor, bk, fl_eq, inP, c1, c2, t_qn, t_nn]; done) | (simp [p_kindFor, bk, fl_eq, inP, c1, c2, t_qn, t_nn] <;> omega)
      refine nv_cv (show nI ((argTo (brave X.1 1 qn nn) 7).1) = (p_kindFor X (nI qn) (nI nn)).1 from by rw [hp]) ?_
      exact mu_iret hx hb hr hlocks hS ((by rw [hp]; exact ⟨_, _, _, _, _, _, _, _, _, _, _, _, _, _, _, hkr, hP⟩)) dX4_kindFor_36

set_option maxHeartbeats 4000000 in
set_option maxRecDepth 100000 in
/-- X4_seatFor -/
theorem c_X4_seatFor (l : Launch) (D : va_G) (ci : Nat → ClassId) (am : Nat → Nat) (X : AS) (kr : Nat → Int32) (q0 q1 q2 q3 q4 q5 : Int32) (iw : Bool) (kn : Nat → Option Nat) (y0 y1 y2 y3 y4 y5 y6 : Nat → Int32) (hI : injA am 16) (q n : Int32) (hWX : WFX X) (hkr : kOK X kr) : Met l yX4_seatFor wsX4_seatFor ({ frames := 12, cells := 0, slots := 0, locals := 279 } : Room) (va_Pc [.ref (am 0), .int (q), .int (n)] (ro_B D (tyL ci) (wN ci am X kr q0 q1 q2 q3 q4 q5 iw kn y0 y1 y2 y3 y4 y5 y6) (enT))) (mu_Q (aM am) (some (.int ((p_seatFor X q n).1))) (fun H => ∃ (kr : Nat → Int32) (q0 : Int32) (q1 : Int32) (q2 : Int32) (q3 : Int32) (q4 : Int32) (q5 : Int32) (iw : Bool) (y0 : Nat → Int32) (y1 : Nat → Int32) (y2 : Nat → Int32) (y3 : Nat → Int32) (y4 : Nat → Int32) (y5 : Nat → Int32) (y6 : Nat → Int32), kOK (p_seatFor X q n).2 kr ∧ va_P D vwCl (wN ci am ((p_seatFor X q n).2) kr q0 q1 q2 q3 q4 q5 iw kn y0 y1 y2 y3 y4 y5 y6) H)) 0 0 (aM am) := by
  refine mu_Met (cc := cX4_seatFor) (maxL := 3) (ret := (some .int)) [(0, .ref (am 0)), (1, .int (q)), (2, .int (n))] (wN_D hI) (by decide) rfl (Nat.le_of_ble_eq_true rfl) rfl ?_
  intro p e s m below meth c H locs hx hb hml hr hlocks hts hown hP hK hs0 hD hS ls hl
  have hown : s.vm.findClass RX4 = some m.cls := hown
  have hE := hE_T
  have hWF := hWX.w
  have f_n := hWF.n
  have f_e := hWX.e
  have f_tl := hWX.t
  refine lv_aload_n hx hb dX4_seatFor_0 rfl (lv_at hl 0 rfl) ?_
  refine lv_iload_n hx hb dX4_seatFor_1 rfl (lv_at hl 1 rfl) ?_
  refine ro_V (n := 1) (As := [.int (q)]) (rest := []) ⟨hx, hb, hml, hown, hts⟩ (c_X4_isPlayer l D ci am X kr q0 q1 q2 q3 q4 q5 iw kn y0 y1 y2 y3 y4 y5 y6 (q) hWF) gX4_seatFor_X4_isPlayer rfl ⟨rfl, rfl⟩ (by decide +kernel) rfl ⟨Nat.le_of_ble_eq_true rfl, Nat.le_of_ble_eq_true rfl⟩ hE trivial hK hP (ci := 4) (q0 := 0) rfl rfl hl.1 rfl (Nat.le_of_ble_eq_true rfl) dX4_seatFor_2 ⟨Nat.zero_le _, Nat.zero_le _⟩ ?_
  refine nv_ifeq_b (tgt := 30) hx hb dX4_seatFor_5 (by decide) (fun c1 => ?_) (fun c1 => ?_)
  · refine lv_aload_n hx hb dX4_seatFor_30 rfl (lv_at hl 0 rfl) ?_
    refine lv_ldc (v := -1000001) hx hb hown (hts (.constant RX4 72 (-1000001)) (List.mem_of_getElem? (i := 1) rfl)) dX4_seatFor_31 ?_
    refine mu_V (n := 1) (As := [.int (-1000001)]) (rest := []) ⟨hx, hb, hml, hown, hts⟩ (c_X4_finding l D ci am X kr q0 q1 q2 q3 q4 q5 iw kn y0 y1 y2 y3 y4 y5 y6 hI (-1000001) (0) (by omega) (by decide)) gX4_seatFor_X4_finding rfl ⟨rfl, rfl⟩ (by decide +kernel) rfl ⟨Nat.le_of_ble_eq_true rfl, Nat.le_of_ble_eq_true rfl⟩ hE trivial hK hP (ci := 4) (q0 := 0) rfl rfl hl.1 rfl (Nat.le_of_ble_eq_true rfl) dX4_seatFor_33 ⟨Nat.zero_le _, Nat.zero_le _⟩ hS (fun _ h => h) (fun H1 locs hz hfr hB hS => ?_)
    have hP := hB
    have hP : va_P D vwCl (wN ci am (toF X (inc X.2.2.2.1 0)) kr q0 q1 q2 q3 q4 q5 iw kn y0 y1 y2 y3 y4 y5 y6) H1 := hP
    generalize H1 = H at hP hS ⊢
    have hD : va_D (aM am) (wN ci am (toF X (inc X.2.2.2.1 0)) kr q0 q1 q2 q3 q4 q5 iw kn y0 y1 y2 y3 y4 y5 y6) := wN_D hI
    have hp : p_seatFor X q n = (fnd 0, toF X (inc X.2.2.2.1 0)) := by first | (simp [p_seatFor, bk, fl_eq, inP, c1]; done) | (simp [p_seatFor, bk, fl_eq, inP, c1] <;> omega)
    refine nv_cv (show fnd 0 = (p_seatFor X q n).1 from by rw [hp]) ?_
    exact mu_iret hx hb hr hlocks hS ((by rw [hp]; exact ⟨_, _, _, _, _, _, _, _, _, _, _, _, _, _, _, hkr, hP⟩)) dX4_seatFor_36
  · obtain ⟨qn, h_qn, rfl⟩ := in_ex c1 (by omega)
    have t_qn : tn (nI qn) = qn := tn_nI (by omega)
    refine lv_iload_n hx hb dX4_seatFor_8 rfl (lv_at hl 2 rfl) ?_
    refine lv_iconst (v := nI (0)) hx hb dX4_seatFor_9 (by decide) ?_
    refine lv_bipush (v := nI (20)) hx hb dX4_seatFor_10 (by decide) ?_
    refine ro_S (n := 3) (As := [.int (n), .int (nI 0), .int (nI 20)]) (rest := []) ⟨hx, hb, hml, hown, hts⟩ (c_X4_within l D ci (wN ci am X kr q0 q1 q2 q3 q4 q5 iw kn y0 y1 y2 y3 y4 y5 y6) (n) (nI (0)) (nI (20)) ) gX4_seatFor_X4_within rfl ⟨rfl, rfl⟩ (by decide +kernel) rfl ⟨Nat.le_of_ble_eq_true rfl, Nat.le_of_ble_eq_true rfl⟩ hE trivial hK hP hl.1 rfl (Nat.le_of_ble_eq_true rfl) dX4_seatFor_12 ⟨Nat.zero_le _, Nat.zero_le _⟩ ?_
    refine nv_cv (congrArg bI (wth_in n 20 (by decide))) ?_
    refine nv_ifeq_b (tgt := 30) hx hb dX4_seatFor_15 (by decide) (fun c2 => ?_) (fun c2 => ?_)
    · refine lv_aload_n hx hb dX4_seatFor_30 rfl (lv_at hl 0 rfl) ?_
      refine lv_ldc (v := -1000001) hx hb hown (hts (.constant RX4 72 (-1000001)) (List.mem_of_getElem? (i := 1) rfl)) dX4_seatFor_31 ?_
      refine mu_V (n := 1) (As := [.int (-1000001)]) (rest := []) ⟨hx, hb, hml, hown, hts⟩ (c_X4_finding l D ci am X kr q0 q1 q2 q3 q4 q5 iw kn y0 y1 y2 y3 y4 y5 y6 hI (-1000001) (0) (by omega) (by decide)) gX4_seatFor_X4_finding rfl ⟨rfl, rfl⟩ (by decide +kernel) rfl ⟨Nat.le_of_ble_eq_true rfl, Nat.le_of_ble_eq_true rfl⟩ hE trivial hK hP (ci := 4) (q0 := 0) rfl rfl hl.1 rfl (Nat.le_of_ble_eq_true rfl) dX4_seatFor_33 ⟨Nat.zero_le _, Nat.zero_le _⟩ hS (fun _ h => h) (fun H1 locs hz hfr hB hS => ?_)
      have hP := hB
      have hP : va_P D vwCl (wN ci am (toF X (inc X.2.2.2.1 0)) kr q0 q1 q2 q3 q4 q5 iw kn y0 y1 y2 y3 y4 y5 y6) H1 := hP
      generalize H1 = H at hP hS ⊢
      have hD : va_D (aM am) (wN ci am (toF X (inc X.2.2.2.1 0)) kr q0 q1 q2 q3 q4 q5 iw kn y0 y1 y2 y3 y4 y5 y6) := wN_D hI
      have hp : p_seatFor X (nI qn) n = (fnd 0, toF X (inc X.2.2.2.1 0)) := by first | (simp [p_seatFor, bk, fl_eq, inP, c1, c2, t_qn]; done) | (simp [p_seatFor, bk, fl_eq, inP, c1, c2, t_qn] <;> omega)
      refine nv_cv (show fnd 0 = (p_seatFor X (nI qn) n).1 from by rw [hp]) ?_
      exact mu_iret hx hb hr hlocks hS ((by rw [hp]; exact ⟨_, _, _, _, _, _, _, _, _, _, _, _, _, _, _, hkr, hP⟩)) dX4_seatFor_36
    · obtain ⟨nn, h_nn, rfl⟩ := in_ex c2 (by omega)
      have t_nn : tn (nI nn) = nn := tn_nI (by omega)
      refine lv_aload_n hx hb dX4_seatFor_18 rfl (lv_at hl 0 rfl) ?_
      refine lv_iload_n hx hb dX4_seatFor_19 rfl (lv_at hl 1 rfl) ?_
      refine lv_iconst (v := nI (1)) hx hb dX4_seatFor_20 (by decide) ?_
      refine lv_bipush (v := nI (16)) hx hb dX4_seatFor_21 (by decide) ?_
      refine lv_iload_n hx hb dX4_seatFor_23 rfl (lv_at hl 2 rfl) ?_
      refine mu_V (n := 4) (As := [.int (nI qn), .int (nI 1), .int (nI 16), .int (nI nn)]) (rest := []) ⟨hx, hb, hml, hown, hts⟩ (c_X4_best_2 l D ci am X kr q0 q1 q2 q3 q4 q5 iw kn y0 y1 y2 y3 y4 y5 y6 hI (qn) (nn) hWF (by omega) (by omega) (by omega)) gX4_seatFor_X4_best rfl ⟨rfl, rfl⟩ (by decide +kernel) rfl ⟨Nat.le_of_ble_eq_true rfl, Nat.le_of_ble_eq_true rfl⟩ hE trivial hK hP (ci := 4) (q0 := 0) rfl rfl hl.1 rfl (Nat.le_of_ble_eq_true rfl) dX4_seatFor_24 ⟨Nat.zero_le _, Nat.zero_le _⟩ hS (fun _ h => h) (fun H1 locs hz hfr hB hS => ?_)
      obtain ⟨y0_3, y1_4, hP⟩ := hB
      have hP : va_P D vwCl (wN ci am X kr q0 q1 q2 q3 q4 q5 iw kn y0_3 y1_4 y2 y3 y4 y5 y6) H1 := hP
      generalize H1 = H at hP hS ⊢
      have hD : va_D (aM am) (wN ci am X kr q0 q1 q2 q3 q4 q5 iw kn y0_3 y1_4 y2 y3 y4 y5 y6) := wN_D hI
      refine lv_goto (tgt := 36) hx hb dX4_seatFor_27 (by decide) ?_
      have hp : p_seatFor X (nI qn) (nI nn) = (nI ((argTo (brave X.1 2 qn nn) 16).1), X) := by first | (simp [p_seatFor, bk, fl_eq, inP, c1, c2, t_qn, t_nn]; done) | (simp [p_seatFor, bk, fl_eq, inP, c1, c2, t_qn, t_nn] <;> omega)
      refine nv_cv (show nI ((argTo (brave X.1 2 qn nn) 16).1) = (p_seatFor X (nI qn) (nI nn)).1 from by rw [hp]) ?_
      exact mu_iret hx hb hr hlocks hS ((by rw [hp]; exact ⟨_, _, _, _, _, _, _, _, _, _, _, _, _, _, _, hkr, hP⟩)) dX4_seatFor_36
