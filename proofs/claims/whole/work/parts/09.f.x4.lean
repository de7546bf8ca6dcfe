/-! walks laid by program -/
set_option maxHeartbeats 4000000 in
set_option maxRecDepth 100000 in
/-- X4_nerveBehind -/
theorem c_X4_nerveBehind (l : Launch) (D : va_G) (ci : Nat → ClassId) (am : Nat → Nat) (X : AS) (kr : Nat → Int32) (q0 q1 q2 q3 q4 q5 : Int32) (iw : Bool) (kn : Nat → Option Nat) (y0 y1 y2 y3 y4 y5 y6 : Nat → Int32) (hI : injA am 16) (u n : Nat) (hWF : WF X.1) (h_u : u < 8) (h_n : n ≤ 40) (h_8 : X.1 8 0 + n < 200000) : Met l yX4_nerveBehind wsX4_nerveBehind ({ frames := 10, cells := 0, slots := 0, locals := 228 } : Room) (va_Pc [.ref (am 0), .int (nI u), .int (nI n)] (ro_B D (tyL ci) (wN ci am X kr q0 q1 q2 q3 q4 q5 iw kn y0 y1 y2 y3 y4 y5 y6) (enT))) (mu_Q (aM am) (some (.int (nI (evCn X.1 n 5 u)))) (fun H => ∃ (y0 : Nat → Int32) (y1 : Nat → Int32), va_P D vwCl (wN ci am X kr q0 q1 q2 q3 q4 q5 iw kn y0 y1 y2 y3 y4 y5 y6) H)) 0 0 (aM am) := by
  refine mu_Met (cc := cX4_nerveBehind) (maxL := 3) (ret := (some .int)) [(0, .ref (am 0)), (1, .int (nI u)), (2, .int (nI n))] (wN_D hI) (by decide) rfl (Nat.le_of_ble_eq_true rfl) rfl ?_
  intro p e s m below meth c H locs hx hb hml hr hlocks hts hown hP hK hs0 hD hS ls hl
  have hown : s.vm.findClass RX4 = some m.cls := hown
  have hinX4 : ∀ w ∈ wsX40, w ∈ wsX4_nerveBehind := by decide +kernel
  have hE := hE_T
  have f_n := hWF.n
  refine lv_aload_n hx hb dX4_nerveBehind_0 rfl (lv_at hl 0 rfl) ?_
  refine va_get (D := D) (ci := 4) (v := .ref (am 1)) (C := RX4) (T := TX4) (N := 24) hx hb hts hinX4 hown hK hP 0 rfl rfl 0 (by decide) (hts (.fieldLink RX4 9 "OneShortModel" "now" "[I") (List.mem_of_getElem? (i := 1) rfl)) (fun _ h9 => h9) rfl dX4_nerveBehind_1 ?_
  refine lv_aload_n hx hb dX4_nerveBehind_4 rfl (lv_at hl 0 rfl) ?_
  refine va_get (D := D) (ci := 4) (v := .ref (am 3)) (C := RX4) (T := TX4) (N := 24) hx hb hts hinX4 hown hK hP 0 rfl rfl 2 (by decide) (hts (.fieldLink RX4 16 "OneShortModel" "aside" "[I") (List.mem_of_getElem? (i := 2) rfl)) (fun _ h9 => h9) rfl dX4_nerveBehind_5 ?_
  refine mu_S (n := 2) (As := [.ref (am 1), .ref (am 3)]) (rest := []) ⟨hx, hb, hml, hown, hts⟩ (c_X4_copyRow l D ci (am 1) (am 3) (pk X.1) (y0) (am_ne hI (by decide) (by decide) (by decide))) gX4_nerveBehind_X4_copyRow rfl ⟨rfl, rfl⟩ (by decide +kernel) rfl ⟨Nat.le_of_ble_eq_true rfl, Nat.le_of_ble_eq_true rfl⟩ hE trivial hK (va_P2 (k := 1) (k2 := 3) hP rfl rfl) hl.1 rfl (Nat.le_of_ble_eq_true rfl) dX4_nerveBehind_8 ⟨Nat.zero_le _, Nat.zero_le _⟩ hS (fun q h => h.elim (aM_m (k := 1) (by decide) q) (aM_m (k := 3) (by decide) q)) (fun H1 locs hz hfr hB hS => ?_)
  have hP : va_P D vwCl (wN ci am X kr q0 q1 q2 q3 q4 q5 iw kn (pk X.1) y1 y2 y3 y4 y5 y6) H1 := wN_c13 hI hP hfr hB
  generalize H1 = H at hP hS ⊢
  have hD : va_D (aM am) (wN ci am X kr q0 q1 q2 q3 q4 q5 iw kn (pk X.1) y1 y2 y3 y4 y5 y6) := wN_D hI
  refine lv_aload_n hx hb dX4_nerveBehind_11 rfl (lv_at hl 0 rfl) ?_
  refine lv_iload_n hx hb dX4_nerveBehind_12 rfl (lv_at hl 2 rfl) ?_
  refine mu_V (n := 1) (As := [.int (nI n)]) (rest := []) ⟨hx, hb, hml, hown, hts⟩ (c_X4_evenings l D ci am X kr q0 q1 q2 q3 q4 q5 iw kn (pk X.1) y1 y2 y3 y4 y5 y6 hI (n) hWF (by omega) (by omega)) gX4_nerveBehind_X4_evenings rfl ⟨rfl, rfl⟩ (by decide +kernel) rfl ⟨Nat.le_of_ble_eq_true rfl, Nat.le_of_ble_eq_true rfl⟩ hE trivial hK hP (ci := 4) (q0 := 0) rfl rfl hl.1 rfl (Nat.le_of_ble_eq_true rfl) dX4_nerveBehind_13 ⟨Nat.zero_le _, Nat.zero_le _⟩ hS (fun _ h => h) (fun H1 locs hz hfr hB hS => ?_)
  obtain ⟨y1_1, hP⟩ := hB
  have hP : va_P D vwCl (wN ci am (toS X (evMn X.1 n)) kr q0 q1 q2 q3 q4 q5 iw kn (pk X.1) y1_1 y2 y3 y4 y5 y6) H1 := hP
  generalize H1 = H at hP hS ⊢
  have hD : va_D (aM am) (wN ci am (toS X (evMn X.1 n)) kr q0 q1 q2 q3 q4 q5 iw kn (pk X.1) y1_1 y2 y3 y4 y5 y6) := wN_D hI
  refine lv_aload_n hx hb dX4_nerveBehind_16 rfl (lv_at hl 0 rfl) ?_
  refine lv_aload_n hx hb dX4_nerveBehind_17 rfl (lv_at hl 0 rfl) ?_
  refine lv_iload_n hx hb dX4_nerveBehind_18 rfl (lv_at hl 1 rfl) ?_
  refine lv_iconst (v := nI (4)) hx hb dX4_nerveBehind_19 (by decide) ?_
  refine ro_V (n := 2) (As := [.int (nI u), .int (nI 4)]) (rest := [.ref (am 0)]) ⟨hx, hb, hml, hown, hts⟩ (c_X4_playerIs l D ci am (toS X (evMn X.1 n)) kr q0 q1 q2 q3 q4 q5 iw kn (pk X.1) y1_1 y2 y3 y4 y5 y6 (u) (4) (WF_evMn hWF n (by omega)) (by omega) (by omega)) gX4_nerveBehind_X4_playerIs rfl ⟨rfl, rfl⟩ (by decide +kernel) rfl ⟨Nat.le_of_ble_eq_true rfl, Nat.le_of_ble_eq_true rfl⟩ hE trivial hK hP (ci := 4) (q0 := 0) rfl rfl hl.1 rfl (Nat.le_of_ble_eq_true rfl) dX4_nerveBehind_20 ⟨Nat.zero_le _, Nat.zero_le _⟩ ?_
  refine nv_cv (show nI ((toS X (evMn X.1 n)).1 (4 + 1) u) = nI ((evMn X.1 n) 5 u) from rfl) ?_
  refine nv_cv (show nI ((evMn X.1 n) 5 u) = nI (evCn X.1 n 5 u) from congrArg nI (evMn_5 X.1 n u)) ?_
  refine mu_V (n := 1) (As := [.int (nI (evCn X.1 n 5 u))]) (rest := []) ⟨hx, hb, hml, hown, hts⟩ (c_X4_putBack l D ci am (toS X (evMn X.1 n)) kr q0 q1 q2 q3 q4 q5 iw kn (pk X.1) y1_1 y2 y3 y4 y5 y6 hI (nI (evCn X.1 n 5 u)) (X.1) (fun _ _ => rfl)) gX4_nerveBehind_X4_putBack rfl ⟨rfl, rfl⟩ (by decide +kernel) rfl ⟨Nat.le_of_ble_eq_true rfl, Nat.le_of_ble_eq_true rfl⟩ hE trivial hK hP (ci := 4) (q0 := 0) rfl rfl hl.1 rfl (Nat.le_of_ble_eq_true rfl) dX4_nerveBehind_23 ⟨Nat.zero_le _, Nat.zero_le _⟩ hS (fun _ h => h) (fun H1 locs hz hfr hB hS => ?_)
  have hP := hB
  have hP : va_P D vwCl (wN ci am (toS X X.1) kr q0 q1 q2 q3 q4 q5 iw kn (pk X.1) y1_1 y2 y3 y4 y5 y6) H1 := hP
  generalize H1 = H at hP hS ⊢
  have hD : va_D (aM am) (wN ci am (toS X X.1) kr q0 q1 q2 q3 q4 q5 iw kn (pk X.1) y1_1 y2 y3 y4 y5 y6) := wN_D hI
  exact mu_iret hx hb hr hlocks hS (⟨_, _, hP⟩) dX4_nerveBehind_26

set_option maxHeartbeats 4000000 in
set_option maxRecDepth 100000 in
/-- X4_isLikeBehind -/
theorem c_X4_isLikeBehind (l : Launch) (D : va_G) (ci : Nat → ClassId) (am : Nat → Nat) (X : AS) (kr : Nat → Int32) (q0 q1 q2 q3 q4 q5 : Int32) (iw : Bool) (kn : Nat → Option Nat) (y0 y1 y2 y3 y4 y5 y6 : Nat → Int32) (hI : injA am 16)  (hWF : WF X.1) (h_8 : X.1 8 0 < 199999) : Met l yX4_isLikeBehind wsX4_isLikeBehind ({ frames := 9, cells := 0, slots := 0, locals := 206 } : Room) (va_Pc [.ref (am 0)] (ro_B D (tyL ci) (wN ci am X kr q0 q1 q2 q3 q4 q5 iw kn y0 y1 y2 y3 y4 y5 y6) (enT))) (mu_Q (aM am) (some (.int (bI (!chg X.1)))) (fun H => ∃ (y1 : Nat → Int32) (y3 : Nat → Int32), va_P D vwCl (wN ci am (toS X (evM X.1)) kr q0 q1 q2 q3 q4 q5 iw kn y0 y1 y2 y3 y4 y5 y6) H)) 0 0 (aM am) := by
  refine mu_Met (cc := cX4_isLikeBehind) (maxL := 3) (ret := (some .boolean)) [(0, .ref (am 0))] (wN_D hI) (by decide) rfl (Nat.le_of_ble_eq_true rfl) rfl ?_
  intro p e s m below meth c H locs hx hb hml hr hlocks hts hown hP hK hs0 hD hS ls hl
  have hown : s.vm.findClass RX4 = some m.cls := hown
  have hinX4 : ∀ w ∈ wsX40, w ∈ wsX4_isLikeBehind := by decide +kernel
  have hE := hE_T
  have f_n := hWF.n
  refine lv_iconst (v := nI (0)) hx hb dX4_isLikeBehind_0 (by decide) ?_
  refine lv_istore_n (lv' := [(1, .int (nI 0)), (0, .ref (am 0))]) hx hb dX4_isLikeBehind_1 rfl hl (by decide) rfl (fun ls hl => ?_)
  have L2 : ∀ (k2 : Nat) (i : Nat) (y3 : Nat → Int32), X.1 7 0 - i < k2 → (i ≤ X.1 7 0) → (∀ q, q < i → y3 (2 * q) = nI (X.1 5 q) ∧ y3 (2 * q + 1) = nI (X.1 4 q)) → ∀ (x1 : Int32), x1 = nI (i) → ∀ (H : Heap) (locs : List Loc), va_P D vwCl (wN ci am X kr q0 q1 q2 q3 q4 q5 iw kn y0 y1 y2 y3 y4 y5 y6) H → va_S (aM am) s.heap H locs → ∀ ls : Array Slot, lv_has ls 3 [(1, .int (x1)), (0, .ref (am 0))] → W p l e (headSpec wsX4_isLikeBehind ({ frames := 9, cells := 0, slots := 0, locals := 206 } : Room)).room s m ([.ref (am 0)] : List Value).toArray below meth c H locs 0 0 (MQ below (mu_Q (aM am) (some (.int (bI (!chg X.1)))) (fun H => ∃ (y1 : Nat → Int32) (y3 : Nat → Int32), va_P D vwCl (wN ci am (toS X (evM X.1)) kr q0 q1 q2 q3 q4 q5 iw kn y0 y1 y2 y3 y4 y5 y6) H)) ([.ref (am 0)] : List Value).toArray s 0 0 (aM am)) (F0 m 2 ls []) := by
    intro k2
    induction k2 with
    | zero => intro i y3 h0; exact absurd h0 (Nat.not_lt_zero _)
    | succ k2 ih2 =>
      intro i y3 hk2 h_i h_y x1 e1  H locs hP hS ls hl
      subst e1
      have hD : va_D (aM am) (wN ci am X kr q0 q1 q2 q3 q4 q5 iw kn y0 y1 y2 y3 y4 y5 y6) := wN_D hI
      refine lv_iload_n hx hb dX4_isLikeBehind_2 rfl (lv_at hl 0 rfl) ?_
      refine lv_aload_n hx hb dX4_isLikeBehind_3 rfl (lv_at hl 1 rfl) ?_
      refine va_get (D := D) (ci := 4) (v := .ref (am 1)) (C := RX4) (T := TX4) (N := 24) hx hb hts hinX4 hown hK hP 0 rfl rfl 0 (by decide) (hts (.fieldLink RX4 9 "OneShortModel" "now" "[I") (List.mem_of_getElem? (i := 1) rfl)) (fun _ h9 => h9) rfl dX4_isLikeBehind_4 ?_
      refine lv_iconst (v := nI (1)) hx hb dX4_isLikeBehind_7 (by decide) ?_
      refine nv_iald (v := nI (X.1 7 0)) hx hb hK hP 1 0 rfl rfl (by omega) (by decide) (pk_n X.1) dX4_isLikeBehind_8 ?_
      refine nv_icmp_ge (tgt := 48) hx hb (by omega) (by omega) dX4_isLikeBehind_9 (by decide) (fun c1 => ?_) (fun c1 => ?_)
      · refine lv_aload_n hx hb dX4_isLikeBehind_48 rfl (lv_at hl 1 rfl) ?_
        refine mu_V (n := 0) (As := []) (rest := []) ⟨hx, hb, hml, hown, hts⟩ (c_X4_evening l D ci am X kr q0 q1 q2 q3 q4 q5 iw kn y0 y1 y2 y3 y4 y5 y6 hI  hWF (by omega)) gX4_isLikeBehind_X4_evening rfl ⟨rfl, rfl⟩ (by decide +kernel) rfl ⟨Nat.le_of_ble_eq_true rfl, Nat.le_of_ble_eq_true rfl⟩ hE trivial hK hP (ci := 4) (q0 := 0) rfl rfl hl.1 rfl (Nat.le_of_ble_eq_true rfl) dX4_isLikeBehind_49 ⟨Nat.zero_le _, Nat.zero_le _⟩ hS (fun _ h => h) (fun H1 locs hz hfr hB hS => ?_)
        obtain ⟨y1_2, hP⟩ := hB
        have hP : va_P D vwCl (wN ci am (toS X (evM X.1)) kr q0 q1 q2 q3 q4 q5 iw kn y0 y1_2 y2 y3 y4 y5 y6) H1 := hP
        generalize H1 = H at hP hS ⊢
        have hD : va_D (aM am) (wN ci am (toS X (evM X.1)) kr q0 q1 q2 q3 q4 q5 iw kn y0 y1_2 y2 y3 y4 y5 y6) := wN_D hI
        refine lv_iconst (v := nI (1)) hx hb dX4_isLikeBehind_52 (by decide) ?_
        refine lv_istore_n (lv' := [(1, .int (nI 1)), (0, .ref (am 0))]) hx hb dX4_isLikeBehind_53 rfl hl (by decide) rfl (fun ls hl => ?_)
        refine lv_iconst (v := nI (0)) hx hb dX4_isLikeBehind_54 (by decide) ?_
        refine lv_istore_n (lv' := [(2, .int (nI 0)), (1, .int (nI 1)), (0, .ref (am 0))]) hx hb dX4_isLikeBehind_55 rfl hl (by decide) rfl (fun ls hl => ?_)
        have L56 : ∀ (k56 : Nat) (j : Nat), X.1 7 0 - j < k56 → (j ≤ X.1 7 0) → ∀ (x1 x2 : Int32), x1 = bI (!anyTo (dfr X.1) (j)) → x2 = nI (j) → ∀ (y1 : Nat → Int32), ∀ (H : Heap) (locs : List Loc), va_P D vwCl (wN ci am (toS X (evM X.1)) kr q0 q1 q2 q3 q4 q5 iw kn y0 y1 y2 y3 y4 y5 y6) H → va_S (aM am) s.heap H locs → ∀ ls : Array Slot, lv_has ls 3 [(1, .int (x1)), (2, .int (x2)), (0, .ref (am 0))] → W p l e (headSpec wsX4_isLikeBehind ({ frames := 9, cells := 0, slots := 0, locals := 206 } : Room)).room s m ([.ref (am 0)] : List Value).toArray below meth c H locs 0 0 (MQ below (mu_Q (aM am) (some (.int (bI (!chg X.1)))) (fun H => ∃ (y1 : Nat → Int32) (y3 : Nat → Int32), va_P D vwCl (wN ci am (toS X (evM X.1)) kr q0 q1 q2 q3 q4 q5 iw kn y0 y1 y2 y3 y4 y5 y6) H)) ([.ref (am 0)] : List Value).toArray s 0 0 (aM am)) (F0 m 56 ls []) := by
          intro k56
          induction k56 with
          | zero => intro j h0; exact absurd h0 (Nat.not_lt_zero _)
          | succ k56 ih56 =>
            intro j hk56 h_j x1 x2 e1 e2 y1 H locs hP hS ls hl
            subst e1
            subst e2
            have hD : va_D (aM am) (wN ci am (toS X (evM X.1)) kr q0 q1 q2 q3 q4 q5 iw kn y0 y1 y2 y3 y4 y5 y6) := wN_D hI
            have f_a := hWF.f5 j
            have f_b := hWF.f4 j
            have hWM := WF_evM hWF h_8
            refine lv_iload_n hx hb dX4_isLikeBehind_56 rfl (lv_at hl 1 rfl) ?_
            refine lv_aload_n hx hb dX4_isLikeBehind_57 rfl (lv_at hl 2 rfl) ?_
            refine va_get (D := D) (ci := 4) (v := .ref (am 1)) (C := RX4) (T := TX4) (N := 24) hx hb hts hinX4 hown hK hP 0 rfl rfl 0 (by decide) (hts (.fieldLink RX4 9 "OneShortModel" "now" "[I") (List.mem_of_getElem? (i := 1) rfl)) (fun _ h9 => h9) rfl dX4_isLikeBehind_58 ?_
            refine lv_iconst (v := nI (1)) hx hb dX4_isLikeBehind_61 (by decide) ?_
            refine nv_iald (v := nI ((evM X.1) 7 0)) hx hb hK hP 1 0 rfl rfl (by omega) (by decide) (pk_n (evM X.1)) dX4_isLikeBehind_62 ?_
            refine nv_cv (show nI ((evM X.1) 7 0) = nI (X.1 7 0) from congrArg nI (barTo_ne (S := X.1) (a := 7) 0 (by decide) 12)) ?_
            refine nv_icmp_ge (tgt := 118) hx hb (by omega) (by omega) dX4_isLikeBehind_63 (by decide) (fun c3 => ?_) (fun c3 => ?_)
            · refine lv_iload_n hx hb dX4_isLikeBehind_118 rfl (lv_at hl 0 rfl) ?_
              refine nv_cv (show bI (!anyTo (dfr X.1) (j)) = bI (!chg X.1) from congrArg bI (by rw [show j = X.1 7 0 by omega, dfr_chg])) ?_
              exact mu_zret hx hb hr hlocks hS (⟨_, _, hP⟩) dX4_isLikeBehind_119
            · refine lv_iload_n hx hb dX4_isLikeBehind_66 rfl (lv_at hl 0 rfl) ?_
              refine nv_ifeq_b (tgt := 110) hx hb dX4_isLikeBehind_67 (by decide) (fun c4 => ?_) (fun c4 => ?_)
              · refine lv_iconst (v := nI (0)) hx hb dX4_isLikeBehind_110 (by decide) ?_
                refine lv_istore_n (lv' := [(1, .int (nI 0)), (2, .int (nI j)), (0, .ref (am 0))]) hx hb dX4_isLikeBehind_111 rfl hl (by decide) rfl (fun ls hl => ?_)
                refine nv_iinc1 (lv' := [(2, .int (nI (j + 1))), (1, .int (nI 0)), (0, .ref (am 0))]) hx hb dX4_isLikeBehind_112 hl (k := 1) rfl (by decide) rfl (fun ls hl => ?_)
                refine lv_goto (tgt := 56) hx hb dX4_isLikeBehind_115 (by decide) ?_
                exact ih56 (j + 1) (by omega) (by omega) (nI (0)) (nI (j + 1)) (by first | exact nv_t (by simp only [anyTo, Bool.not_or]; rw [c4]; simp [dfr, c1, c3, c4]) | exact nv_f (by simp only [anyTo, Bool.not_or]; rw [c4]; simp [dfr, c1, c3, c4]) | exact nv_f (by simp only [anyTo, Bool.not_or]; rw [c4]; rfl)) rfl (y1) _ _ (va_P.re (by rfl) hP) hS ls (lv_sub hl [1, 0, 2] rfl)
              · refine lv_aload_n hx hb dX4_isLikeBehind_70 rfl (lv_at hl 2 rfl) ?_
                refine va_get (D := D) (ci := 4) (v := .ref (am 7)) (C := RX4) (T := TX4) (N := 24) hx hb hts hinX4 hown hK hP 0 rfl rfl 7 (by decide) (hts (.fieldLink RX4 28 "OneShortModel" "ahead" "[I") (List.mem_of_getElem? (i := 2) rfl)) (fun _ h9 => h9) rfl dX4_isLikeBehind_71 ?_
                refine lv_iconst (v := nI (2)) hx hb dX4_isLikeBehind_74 (by decide) ?_
                refine lv_iload_n hx hb dX4_isLikeBehind_75 rfl (lv_at hl 1 rfl) ?_
                refine nv_imul hx hb dX4_isLikeBehind_76 ?_
                refine nv_iald (v := nI (X.1 5 j)) hx hb hK hP 7 0 rfl rfl (by omega) (by decide) (h_y j (by omega)).1 dX4_isLikeBehind_77 ?_
                refine lv_aload_n hx hb dX4_isLikeBehind_78 rfl (lv_at hl 2 rfl) ?_
                refine lv_iload_n hx hb dX4_isLikeBehind_79 rfl (lv_at hl 1 rfl) ?_
                refine lv_iconst (v := nI (4)) hx hb dX4_isLikeBehind_80 (by decide) ?_
                refine ro_V (n := 2) (As := [.int (nI j), .int (nI 4)]) (rest := [.int (nI (X.1 5 j))]) ⟨hx, hb, hml, hown, hts⟩ (c_X4_playerIs l D ci am (toS X (evM X.1)) kr q0 q1 q2 q3 q4 q5 iw kn y0 y1 y2 y3 y4 y5 y6 (j) (4) hWM (by omega) (by omega)) gX4_isLikeBehind_X4_playerIs rfl ⟨rfl, rfl⟩ (by decide +kernel) rfl ⟨Nat.le_of_ble_eq_true rfl, Nat.le_of_ble_eq_true rfl⟩ hE trivial hK hP (ci := 4) (q0 := 0) rfl rfl hl.1 rfl (Nat.le_of_ble_eq_true rfl) dX4_isLikeBehind_81 ⟨Nat.zero_le _, Nat.zero_le _⟩ ?_
                refine nv_cv (show nI ((toS X (evM X.1)).1 (4 + 1) j) = nI ((evM X.1) 5 j) from rfl) ?_
                have f5 := hWM.f5 j
                refine nv_icmp_ne (tgt := 110) hx hb (by omega) (by omega) dX4_isLikeBehind_84 (by decide) (fun c6 => ?_) (fun c6 => ?_)
                · refine lv_iconst (v := nI (0)) hx hb dX4_isLikeBehind_110 (by decide) ?_
                  refine lv_istore_n (lv' := [(1, .int (nI 0)), (2, .int (nI j)), (0, .ref (am 0))]) hx hb dX4_isLikeBehind_111 rfl hl (by decide) rfl (fun ls hl => ?_)
                  refine nv_iinc1 (lv' := [(2, .int (nI (j + 1))), (1, .int (nI 0)), (0, .ref (am 0))]) hx hb dX4_isLikeBehind_112 hl (k := 1) rfl (by decide) rfl (fun ls hl => ?_)
                  refine lv_goto (tgt := 56) hx hb dX4_isLikeBehind_115 (by decide) ?_
                  exact ih56 (j + 1) (by omega) (by omega) (nI (0)) (nI (j + 1)) (by first | exact nv_t (by simp only [anyTo, Bool.not_or]; rw [c4]; simp [dfr, c1, c3, c4, c6]) | exact nv_f (by simp only [anyTo, Bool.not_or]; rw [c4]; simp [dfr, c1, c3, c4, c6]) | exact nv_f (by simp only [anyTo, Bool.not_or]; rw [c4]; rfl)) rfl (y1) _ _ (va_P.re (by rfl) hP) hS ls (lv_sub hl [1, 0, 2] rfl)
                · refine lv_aload_n hx hb dX4_isLikeBehind_87 rfl (lv_at hl 2 rfl) ?_
                  refine va_get (D := D) (ci := 4) (v := .ref (am 7)) (C := RX4) (T := TX4) (N := 24) hx hb hts hinX4 hown hK hP 0 rfl rfl 7 (by decide) (hts (.fieldLink RX4 28 "OneShortModel" "ahead" "[I") (List.mem_of_getElem? (i := 2) rfl)) (fun _ h9 => h9) rfl dX4_isLikeBehind_88 ?_
                  refine lv_iconst (v := nI (2)) hx hb dX4_isLikeBehind_91 (by decide) ?_
                  refine lv_iload_n hx hb dX4_isLikeBehind_92 rfl (lv_at hl 1 rfl) ?_
                  refine nv_imul hx hb dX4_isLikeBehind_93 ?_
                  refine lv_iconst (v := nI (1)) hx hb dX4_isLikeBehind_94 (by decide) ?_
                  refine nv_iadd hx hb dX4_isLikeBehind_95 ?_
                  refine nv_iald (v := nI (X.1 4 j)) hx hb hK hP 7 0 rfl rfl (by omega) (by decide) (h_y j (by omega)).2 dX4_isLikeBehind_96 ?_
                  refine lv_aload_n hx hb dX4_isLikeBehind_97 rfl (lv_at hl 2 rfl) ?_
                  refine lv_iload_n hx hb dX4_isLikeBehind_98 rfl (lv_at hl 1 rfl) ?_
                  refine lv_iconst (v := nI (3)) hx hb dX4_isLikeBehind_99 (by decide) ?_
                  refine ro_V (n := 2) (As := [.int (nI j), .int (nI 3)]) (rest := [.int (nI (X.1 4 j))]) ⟨hx, hb, hml, hown, hts⟩ (c_X4_playerIs l D ci am (toS X (evM X.1)) kr q0 q1 q2 q3 q4 q5 iw kn y0 y1 y2 y3 y4 y5 y6 (j) (3) hWM (by omega) (by omega)) gX4_isLikeBehind_X4_playerIs rfl ⟨rfl, rfl⟩ (by decide +kernel) rfl ⟨Nat.le_of_ble_eq_true rfl, Nat.le_of_ble_eq_true rfl⟩ hE trivial hK hP (ci := 4) (q0 := 0) rfl rfl hl.1 rfl (Nat.le_of_ble_eq_true rfl) dX4_isLikeBehind_100 ⟨Nat.zero_le _, Nat.zero_le _⟩ ?_
                  refine nv_cv (show nI ((toS X (evM X.1)).1 (3 + 1) j) = nI ((evM X.1) 4 j) from rfl) ?_
                  have f7 := hWM.f4 j
                  refine nv_icmp_ne (tgt := 110) hx hb (by omega) (by omega) dX4_isLikeBehind_103 (by decide) (fun c8 => ?_) (fun c8 => ?_)
                  · refine lv_iconst (v := nI (0)) hx hb dX4_isLikeBehind_110 (by decide) ?_
                    refine lv_istore_n (lv' := [(1, .int (nI 0)), (2, .int (nI j)), (0, .ref (am 0))]) hx hb dX4_isLikeBehind_111 rfl hl (by decide) rfl (fun ls hl => ?_)
                    refine nv_iinc1 (lv' := [(2, .int (nI (j + 1))), (1, .int (nI 0)), (0, .ref (am 0))]) hx hb dX4_isLikeBehind_112 hl (k := 1) rfl (by decide) rfl (fun ls hl => ?_)
                    refine lv_goto (tgt := 56) hx hb dX4_isLikeBehind_115 (by decide) ?_
                    exact ih56 (j + 1) (by omega) (by omega) (nI (0)) (nI (j + 1)) (by first | exact nv_t (by simp only [anyTo, Bool.not_or]; rw [c4]; simp [dfr, c1, c3, c4, c6, c8]) | exact nv_f (by simp only [anyTo, Bool.not_or]; rw [c4]; simp [dfr, c1, c3, c4, c6, c8]) | exact nv_f (by simp only [anyTo, Bool.not_or]; rw [c4]; rfl)) rfl (y1) _ _ (va_P.re (by rfl) hP) hS ls (lv_sub hl [1, 0, 2] rfl)
                  · refine lv_iconst (v := nI (1)) hx hb dX4_isLikeBehind_106 (by decide) ?_
                    refine lv_goto (tgt := 111) hx hb dX4_isLikeBehind_107 (by decide) ?_
                    refine lv_istore_n (lv' := [(1, .int (nI 1)), (2, .int (nI j)), (0, .ref (am 0))]) hx hb dX4_isLikeBehind_111 rfl hl (by decide) rfl (fun ls hl => ?_)
                    refine nv_iinc1 (lv' := [(2, .int (nI (j + 1))), (1, .int (nI 1)), (0, .ref (am 0))]) hx hb dX4_isLikeBehind_112 hl (k := 1) rfl (by decide) rfl (fun ls hl => ?_)
                    refine lv_goto (tgt := 56) hx hb dX4_isLikeBehind_115 (by decide) ?_
                    exact ih56 (j + 1) (by omega) (by omega) (nI (1)) (nI (j + 1)) (by first | exact nv_t (by simp only [anyTo, Bool.not_or]; rw [c4]; simp [dfr, c1, c3, c4, c6, c8]) | exact nv_f (by simp only [anyTo, Bool.not_or]; rw [c4]; simp [dfr, c1, c3, c4, c6, c8]) | exact nv_f (by simp only [anyTo, Bool.not_or]; rw [c4]; rfl)) rfl (y1) _ _ (va_P.re (by rfl) hP) hS ls (lv_sub hl [1, 0, 2] rfl)
        exact L56 _ (0) (Nat.lt_succ_self _) (by omega) (nI (1)) (nI (0)) (nv_t rfl) rfl (y1_2) _ _ (va_P.re (by rfl) hP) hS ls (lv_sub hl [1, 0, 2] rfl)
      · refine lv_aload_n hx hb dX4_isLikeBehind_12 rfl (lv_at hl 1 rfl) ?_
        refine va_get (D := D) (ci := 4) (v := .ref (am 7)) (C := RX4) (T := TX4) (N := 24) hx hb hts hinX4 hown hK hP 0 rfl rfl 7 (by decide) (hts (.fieldLink RX4 28 "OneShortModel" "ahead" "[I") (List.mem_of_getElem? (i := 2) rfl)) (fun _ h9 => h9) rfl dX4_isLikeBehind_13 ?_
        refine lv_iconst (v := nI (2)) hx hb dX4_isLikeBehind_16 (by decide) ?_
        refine lv_iload_n hx hb dX4_isLikeBehind_17 rfl (lv_at hl 0 rfl) ?_
        refine nv_imul hx hb dX4_isLikeBehind_18 ?_
        refine lv_aload_n hx hb dX4_isLikeBehind_19 rfl (lv_at hl 1 rfl) ?_
        refine lv_iload_n hx hb dX4_isLikeBehind_20 rfl (lv_at hl 0 rfl) ?_
        refine lv_iconst (v := nI (4)) hx hb dX4_isLikeBehind_21 (by decide) ?_
        refine ro_V (n := 2) (As := [.int (nI i), .int (nI 4)]) (rest := [.int (nI ((2 * i))), .ref (am 7)]) ⟨hx, hb, hml, hown, hts⟩ (c_X4_playerIs l D ci am X kr q0 q1 q2 q3 q4 q5 iw kn y0 y1 y2 y3 y4 y5 y6 (i) (4) hWF (by omega) (by omega)) gX4_isLikeBehind_X4_playerIs rfl ⟨rfl, rfl⟩ (by decide +kernel) rfl ⟨Nat.le_of_ble_eq_true rfl, Nat.le_of_ble_eq_true rfl⟩ hE trivial hK hP (ci := 4) (q0 := 0) rfl rfl hl.1 rfl (Nat.le_of_ble_eq_true rfl) dX4_isLikeBehind_22 ⟨Nat.zero_le _, Nat.zero_le _⟩ ?_
        refine nv_cv (show nI (X.1 (4 + 1) i) = nI (X.1 5 i) from rfl) ?_
        have f9 := hWF.f5 i
        refine nv_iast hx hb hK hP hD hS 7 0 rfl rfl (by omega) (by decide) dX4_isLikeBehind_25 (fun H locs hP hD hS => ?_)
        have hP : va_P D vwCl (wN ci am X kr q0 q1 q2 q3 q4 q5 iw kn y0 y1 y2 (upd y3 ((2 * i)) (nI (X.1 5 i))) y4 y5 y6) H := va_P.re (wN_y3 ci am X kr q0 q1 q2 q3 q4 q5 iw kn y0 y1 y2 y3 y4 y5 y6 ((2 * i)) (nI (X.1 5 i))) hP
        have hD : va_D (aM am) (wN ci am X kr q0 q1 q2 q3 q4 q5 iw kn y0 y1 y2 (upd y3 ((2 * i)) (nI (X.1 5 i))) y4 y5 y6) := wN_D hI
        refine lv_aload_n hx hb dX4_isLikeBehind_26 rfl (lv_at hl 1 rfl) ?_
        refine va_get (D := D) (ci := 4) (v := .ref (am 7)) (C := RX4) (T := TX4) (N := 24) hx hb hts hinX4 hown hK hP 0 rfl rfl 7 (by decide) (hts (.fieldLink RX4 28 "OneShortModel" "ahead" "[I") (List.mem_of_getElem? (i := 2) rfl)) (fun _ h9 => h9) rfl dX4_isLikeBehind_27 ?_
        refine lv_iconst (v := nI (2)) hx hb dX4_isLikeBehind_30 (by decide) ?_
        refine lv_iload_n hx hb dX4_isLikeBehind_31 rfl (lv_at hl 0 rfl) ?_
        refine nv_imul hx hb dX4_isLikeBehind_32 ?_
        refine lv_iconst (v := nI (1)) hx hb dX4_isLikeBehind_33 (by decide) ?_
        refine nv_iadd hx hb dX4_isLikeBehind_34 ?_
        refine lv_aload_n hx hb dX4_isLikeBehind_35 rfl (lv_at hl 1 rfl) ?_
        refine lv_iload_n hx hb dX4_isLikeBehind_36 rfl (lv_at hl 0 rfl) ?_
        refine lv_iconst (v := nI (3)) hx hb dX4_isLikeBehind_37 (by decide) ?_
        refine ro_V (n := 2) (As := [.int (nI i), .int (nI 3)]) (rest := [.int (nI (((2 * i) + 1))), .ref (am 7)]) ⟨hx, hb, hml, hown, hts⟩ (c_X4_playerIs l D ci am X kr q0 q1 q2 q3 q4 q5 iw kn y0 y1 y2 (upd y3 ((2 * i)) (nI (X.1 5 i))) y4 y5 y6 (i) (3) hWF (by omega) (by omega)) gX4_isLikeBehind_X4_playerIs rfl ⟨rfl, rfl⟩ (by decide +kernel) rfl ⟨Nat.le_of_ble_eq_true rfl, Nat.le_of_ble_eq_true rfl⟩ hE trivial hK hP (ci := 4) (q0 := 0) rfl rfl hl.1 rfl (Nat.le_of_ble_eq_true rfl) dX4_isLikeBehind_38 ⟨Nat.zero_le _, Nat.zero_le _⟩ ?_
        refine nv_cv (show nI (X.1 (3 + 1) i) = nI (X.1 4 i) from rfl) ?_
        have f10 := hWF.f4 i
        refine nv_iast hx hb hK hP hD hS 7 0 rfl rfl (by omega) (by decide) dX4_isLikeBehind_41 (fun H locs hP hD hS => ?_)
        have hP : va_P D vwCl (wN ci am X kr q0 q1 q2 q3 q4 q5 iw kn y0 y1 y2 (upd (upd y3 ((2 * i)) (nI (X.1 5 i))) (((2 * i) + 1)) (nI (X.1 4 i))) y4 y5 y6) H := va_P.re (wN_y3 ci am X kr q0 q1 q2 q3 q4 q5 iw kn y0 y1 y2 (upd y3 ((2 * i)) (nI (X.1 5 i))) y4 y5 y6 (((2 * i) + 1)) (nI (X.1 4 i))) hP
        have hD : va_D (aM am) (wN ci am X kr q0 q1 q2 q3 q4 q5 iw kn y0 y1 y2 (upd (upd y3 ((2 * i)) (nI (X.1 5 i))) (((2 * i) + 1)) (nI (X.1 4 i))) y4 y5 y6) := wN_D hI
        refine nv_iinc1 (lv' := [(1, .int (nI (i + 1))), (0, .ref (am 0))]) hx hb dX4_isLikeBehind_42 hl (k := 0) rfl (by decide) rfl (fun ls hl => ?_)
        refine lv_goto (tgt := 2) hx hb dX4_isLikeBehind_45 (by decide) ?_
        exact ih2 (i + 1) ((upd (upd y3 ((2 * i)) (nI (X.1 5 i))) (((2 * i) + 1)) (nI (X.1 4 i)))) (by omega) (by omega) (lb_next h_y rfl rfl) (nI (i + 1)) rfl _ _ hP hS ls (lv_sub hl [0, 1] rfl)
  exact L2 _ (0) (y3) (Nat.lt_succ_self _) (by omega) (fun _ h => absurd h (Nat.not_lt_zero _)) (nI (0)) rfl _ _ hP hS ls (lv_sub hl [0, 1] rfl)

set_option maxHeartbeats 4000000 in
set_option maxRecDepth 100000 in
/-- X4_ahead -/
theorem c_X4_ahead (l : Launch) (D : va_G) (ci : Nat → ClassId) (am : Nat → Nat) (X : AS) (kr : Nat → Int32) (q0 q1 q2 q3 q4 q5 : Int32) (iw : Bool) (kn : Nat → Option Nat) (y0 y1 y2 y3 y4 y5 y6 : Nat → Int32) (hI : injA am 16) (q n : Int32) (hWX : WFX X) (hkr : kOK X kr) : Met l yX4_ahead wsX4_ahead ({ frames := 11, cells := 0, slots := 0, locals := 250 } : Room) (va_Pc [.ref (am 0), .int (q), .int (n)] (ro_B D (tyL ci) (wN ci am X kr q0 q1 q2 q3 q4 q5 iw kn y0 y1 y2 y3 y4 y5 y6) (enT))) (mu_Q (aM am) (some (.int ((p_ahead X q n).1))) (fun H => ∃ (kr : Nat → Int32) (q0 : Int32) (q1 : Int32) (q2 : Int32) (q3 : Int32) (q4 : Int32) (q5 : Int32) (iw : Bool) (y0 : Nat → Int32) (y1 : Nat → Int32) (y2 : Nat → Int32) (y3 : Nat → Int32) (y4 : Nat → Int32) (y5 : Nat → Int32) (y6 : Nat → Int32), kOK (p_ahead X q n).2 kr ∧ va_P D vwCl (wN ci am ((p_ahead X q n).2) kr q0 q1 q2 q3 q4 q5 iw kn y0 y1 y2 y3 y4 y5 y6) H)) 0 0 (aM am) := by
  refine mu_Met (cc := cX4_ahead) (maxL := 3) (ret := (some .int)) [(0, .ref (am 0)), (1, .int (q)), (2, .int (n))] (wN_D hI) (by decide) rfl (Nat.le_of_ble_eq_true rfl) rfl ?_
  intro p e s m below meth c H locs hx hb hml hr hlocks hts hown hP hK hs0 hD hS ls hl
  have hown : s.vm.findClass RX4 = some m.cls := hown
  have hE := hE_T
  have hWF := hWX.w
  have f_n := hWF.n
  have f_e := hWX.e
  have f_tl := hWX.t
  refine lv_aload_n hx hb dX4_ahead_0 rfl (lv_at hl 0 rfl) ?_
  refine lv_iload_n hx hb dX4_ahead_1 rfl (lv_at hl 1 rfl) ?_
  refine ro_V (n := 1) (As := [.int (q)]) (rest := []) ⟨hx, hb, hml, hown, hts⟩ (c_X4_isPlayer l D ci am X kr q0 q1 q2 q3 q4 q5 iw kn y0 y1 y2 y3 y4 y5 y6 (q) hWF) gX4_ahead_X4_isPlayer rfl ⟨rfl, rfl⟩ (by decide +kernel) rfl ⟨Nat.le_of_ble_eq_true rfl, Nat.le_of_ble_eq_true rfl⟩ hE trivial hK hP (ci := 4) (q0 := 0) rfl rfl hl.1 rfl (Nat.le_of_ble_eq_true rfl) dX4_ahead_2 ⟨Nat.zero_le _, Nat.zero_le _⟩ ?_
  refine nv_ifeq_b (tgt := 27) hx hb dX4_ahead_5 (by decide) (fun c1 => ?_) (fun c1 => ?_)
  · refine lv_aload_n hx hb dX4_ahead_27 rfl (lv_at hl 0 rfl) ?_
    refine lv_ldc (v := -1000001) hx hb hown (hts (.constant RX4 72 (-1000001)) (List.mem_of_getElem? (i := 1) rfl)) dX4_ahead_28 ?_
    refine mu_V (n := 1) (As := [.int (-1000001)]) (rest := []) ⟨hx, hb, hml, hown, hts⟩ (c_X4_finding l D ci am X kr q0 q1 q2 q3 q4 q5 iw kn y0 y1 y2 y3 y4 y5 y6 hI (-1000001) (0) (by omega) (by decide)) gX4_ahead_X4_finding rfl ⟨rfl, rfl⟩ (by decide +kernel) rfl ⟨Nat.le_of_ble_eq_true rfl, Nat.le_of_ble_eq_true rfl⟩ hE trivial hK hP (ci := 4) (q0 := 0) rfl rfl hl.1 rfl (Nat.le_of_ble_eq_true rfl) dX4_ahead_30 ⟨Nat.zero_le _, Nat.zero_le _⟩ hS (fun _ h => h) (fun H1 locs hz hfr hB hS => ?_)
    have hP := hB
    have hP : va_P D vwCl (wN ci am (toF X (inc X.2.2.2.1 0)) kr q0 q1 q2 q3 q4 q5 iw kn y0 y1 y2 y3 y4 y5 y6) H1 := hP
    generalize H1 = H at hP hS ⊢
    have hD : va_D (aM am) (wN ci am (toF X (inc X.2.2.2.1 0)) kr q0 q1 q2 q3 q4 q5 iw kn y0 y1 y2 y3 y4 y5 y6) := wN_D hI
    have hp : p_ahead X q n = (fnd 0, toF X (inc X.2.2.2.1 0)) := by first | (simp [p_ahead, bk, fl_eq, inP, c1]; done) | (simp [p_ahead, bk, fl_eq, inP, c1] <;> omega)
    refine nv_cv (show fnd 0 = (p_ahead X q n).1 from by rw [hp]) ?_
    exact mu_iret hx hb hr hlocks hS ((by rw [hp]; exact ⟨_, _, _, _, _, _, _, _, _, _, _, _, _, _, _, hkr, hP⟩)) dX4_ahead_33
  · obtain ⟨qn, h_qn, rfl⟩ := in_ex c1 (by omega)
    have t_qn : tn (nI qn) = qn := tn_nI (by omega)
    refine lv_iload_n hx hb dX4_ahead_8 rfl (lv_at hl 2 rfl) ?_
    refine lv_iconst (v := nI (0)) hx hb dX4_ahead_9 (by decide) ?_
    refine lv_bipush (v := nI (40)) hx hb dX4_ahead_10 (by decide) ?_
    refine ro_S (n := 3) (As := [.int (n), .int (nI 0), .int (nI 40)]) (rest := []) ⟨hx, hb, hml, hown, hts⟩ (c_X4_within l D ci (wN ci am X kr q0 q1 q2 q3 q4 q5 iw kn y0 y1 y2 y3 y4 y5 y6) (n) (nI (0)) (nI (40)) ) gX4_ahead_X4_within rfl ⟨rfl, rfl⟩ (by decide +kernel) rfl ⟨Nat.le_of_ble_eq_true rfl, Nat.le_of_ble_eq_true rfl⟩ hE trivial hK hP hl.1 rfl (Nat.le_of_ble_eq_true rfl) dX4_ahead_12 ⟨Nat.zero_le _, Nat.zero_le _⟩ ?_
    refine nv_cv (congrArg bI (wth_in n 40 (by decide))) ?_
    refine nv_ifeq_b (tgt := 27) hx hb dX4_ahead_15 (by decide) (fun c2 => ?_) (fun c2 => ?_)
    · refine lv_aload_n hx hb dX4_ahead_27 rfl (lv_at hl 0 rfl) ?_
      refine lv_ldc (v := -1000001) hx hb hown (hts (.constant RX4 72 (-1000001)) (List.mem_of_getElem? (i := 1) rfl)) dX4_ahead_28 ?_
      refine mu_V (n := 1) (As := [.int (-1000001)]) (rest := []) ⟨hx, hb, hml, hown, hts⟩ (c_X4_finding l D ci am X kr q0 q1 q2 q3 q4 q5 iw kn y0 y1 y2 y3 y4 y5 y6 hI (-1000001) (0) (by omega) (by decide)) gX4_ahead_X4_finding rfl ⟨rfl, rfl⟩ (by decide +kernel) rfl ⟨Nat.le_of_ble_eq_true rfl, Nat.le_of_ble_eq_true rfl⟩ hE trivial hK hP (ci := 4) (q0 := 0) rfl rfl hl.1 rfl (Nat.le_of_ble_eq_true rfl) dX4_ahead_30 ⟨Nat.zero_le _, Nat.zero_le _⟩ hS (fun _ h => h) (fun H1 locs hz hfr hB hS => ?_)
      have hP := hB
      have hP : va_P D vwCl (wN ci am (toF X (inc X.2.2.2.1 0)) kr q0 q1 q2 q3 q4 q5 iw kn y0 y1 y2 y3 y4 y5 y6) H1 := hP
      generalize H1 = H at hP hS ⊢
      have hD : va_D (aM am) (wN ci am (toF X (inc X.2.2.2.1 0)) kr q0 q1 q2 q3 q4 q5 iw kn y0 y1 y2 y3 y4 y5 y6) := wN_D hI
      have hp : p_ahead X (nI qn) n = (fnd 0, toF X (inc X.2.2.2.1 0)) := by first | (simp [p_ahead, bk, fl_eq, inP, c1, c2, t_qn]; done) | (simp [p_ahead, bk, fl_eq, inP, c1, c2, t_qn] <;> omega)
      refine nv_cv (show fnd 0 = (p_ahead X (nI qn) n).1 from by rw [hp]) ?_
      exact mu_iret hx hb hr hlocks hS ((by rw [hp]; exact ⟨_, _, _, _, _, _, _, _, _, _, _, _, _, _, _, hkr, hP⟩)) dX4_ahead_33
    · obtain ⟨nn, h_nn, rfl⟩ := in_ex c2 (by omega)
      have t_nn : tn (nI nn) = nn := tn_nI (by omega)
      refine lv_aload_n hx hb dX4_ahead_18 rfl (lv_at hl 0 rfl) ?_
      refine lv_iload_n hx hb dX4_ahead_19 rfl (lv_at hl 1 rfl) ?_
      refine lv_iload_n hx hb dX4_ahead_20 rfl (lv_at hl 2 rfl) ?_
      refine mu_V (n := 2) (As := [.int (nI qn), .int (nI nn)]) (rest := []) ⟨hx, hb, hml, hown, hts⟩ (c_X4_nerveBehind l D ci am X kr q0 q1 q2 q3 q4 q5 iw kn y0 y1 y2 y3 y4 y5 y6 hI (qn) (nn) hWF (by omega) (by omega) (by omega)) gX4_ahead_X4_nerveBehind rfl ⟨rfl, rfl⟩ (by decide +kernel) rfl ⟨Nat.le_of_ble_eq_true rfl, Nat.le_of_ble_eq_true rfl⟩ hE trivial hK hP (ci := 4) (q0 := 0) rfl rfl hl.1 rfl (Nat.le_of_ble_eq_true rfl) dX4_ahead_21 ⟨Nat.zero_le _, Nat.zero_le _⟩ hS (fun _ h => h) (fun H1 locs hz hfr hB hS => ?_)
      obtain ⟨y0_3, y1_4, hP⟩ := hB
      have hP : va_P D vwCl (wN ci am X kr q0 q1 q2 q3 q4 q5 iw kn y0_3 y1_4 y2 y3 y4 y5 y6) H1 := hP
      generalize H1 = H at hP hS ⊢
      have hD : va_D (aM am) (wN ci am X kr q0 q1 q2 q3 q4 q5 iw kn y0_3 y1_4 y2 y3 y4 y5 y6) := wN_D hI
      refine lv_goto (tgt := 33) hx hb dX4_ahead_24 (by decide) ?_
      have hp : p_ahead X (nI qn) (nI nn) = (nI (evCn X.1 nn 5 qn), X) := by first | (simp [p_ahead, bk, fl_eq, inP, c1, c2, t_qn, t_nn]; done) | (simp [p_ahead, bk, fl_eq, inP, c1, c2, t_qn, t_nn] <;> omega)
      refine nv_cv (show nI (evCn X.1 nn 5 qn) = (p_ahead X (nI qn) (nI nn)).1 from by rw [hp]) ?_
      exact mu_iret hx hb hr hlocks hS ((by rw [hp]; exact ⟨_, _, _, _, _, _, _, _, _, _, _, _, _, _, _, hkr, hP⟩)) dX4_ahead_33

set_option maxHeartbeats 4000000 in
set_option maxRecDepth 100000 in
/-- X4_broken -/
theorem c_X4_broken (l : Launch) (D : va_G) (ci : Nat → ClassId) (am : Nat → Nat) (X : AS) (kr : Nat → Int32) (q0 q1 q2 q3 q4 q5 : Int32) (iw : Bool) (kn : Nat → Option Nat) (y0 y1 y2 y3 y4 y5 y6 : Nat → Int32) (hI : injA am 16) (q : Int32) (hWX : WFX X) (hkr : kOK X kr) : Met l yX4_broken wsX4_broken ({ frames := 9, cells := 0, slots := 0, locals := 206 } : Room) (va_Pc [.ref (am 0), .int (q)] (ro_B D (tyL ci) (wN ci am X kr q0 q1 q2 q3 q4 q5 iw kn y0 y1 y2 y3 y4 y5 y6) (enT))) (mu_Q (aM am) (some (.int ((p_broken X q).1))) (fun H => ∃ (kr : Nat → Int32) (q0 : Int32) (q1 : Int32) (q2 : Int32) (q3 : Int32) (q4 : Int32) (q5 : Int32) (iw : Bool) (y0 : Nat → Int32) (y1 : Nat → Int32) (y2 : Nat → Int32) (y3 : Nat → Int32) (y4 : Nat → Int32) (y5 : Nat → Int32) (y6 : Nat → Int32), kOK (p_broken X q).2 kr ∧ va_P D vwCl (wN ci am ((p_broken X q).2) kr q0 q1 q2 q3 q4 q5 iw kn y0 y1 y2 y3 y4 y5 y6) H)) 0 0 (aM am) := by
  refine mu_Met (cc := cX4_broken) (maxL := 3) (ret := (some .int)) [(0, .ref (am 0)), (1, .int (q))] (wN_D hI) (by decide) rfl (Nat.le_of_ble_eq_true rfl) rfl ?_
  intro p e s m below meth c H locs hx hb hml hr hlocks hts hown hP hK hs0 hD hS ls hl
  have hown : s.vm.findClass RX4 = some m.cls := hown
  have hinX4 : ∀ w ∈ wsX40, w ∈ wsX4_broken := by decide +kernel
  have hE := hE_T
  have hWF := hWX.w
  have f_n := hWF.n
  have f_e := hWX.e
  have f_tl := hWX.t
  refine lv_aload_n hx hb dX4_broken_0 rfl (lv_at hl 0 rfl) ?_
  refine lv_iload_n hx hb dX4_broken_1 rfl (lv_at hl 1 rfl) ?_
  refine ro_V (n := 1) (As := [.int (q)]) (rest := []) ⟨hx, hb, hml, hown, hts⟩ (c_X4_isPlayer l D ci am X kr q0 q1 q2 q3 q4 q5 iw kn y0 y1 y2 y3 y4 y5 y6 (q) hWF) gX4_broken_X4_isPlayer rfl ⟨rfl, rfl⟩ (by decide +kernel) rfl ⟨Nat.le_of_ble_eq_true rfl, Nat.le_of_ble_eq_true rfl⟩ hE trivial hK hP (ci := 4) (q0 := 0) rfl rfl hl.1 rfl (Nat.le_of_ble_eq_true rfl) dX4_broken_2 ⟨Nat.zero_le _, Nat.zero_le _⟩ ?_
  refine nv_ifne_b (tgt := 15) hx hb dX4_broken_5 (by decide) (fun c1 => ?_) (fun c1 => ?_)
  · obtain ⟨qn, h_qn, rfl⟩ := in_ex c1 (by omega)
    have t_qn : tn (nI qn) = qn := tn_nI (by omega)
    refine lv_aload_n hx hb dX4_broken_15 rfl (lv_at hl 0 rfl) ?_
    refine va_get (D := D) (ci := 4) (v := .ref (am 1)) (C := RX4) (T := TX4) (N := 24) hx hb hts hinX4 hown hK hP 0 rfl rfl 0 (by decide) (hts (.fieldLink RX4 9 "OneShortModel" "now" "[I") (List.mem_of_getElem? (i := 2) rfl)) (fun _ h9 => h9) rfl dX4_broken_16 ?_
    refine lv_aload_n hx hb dX4_broken_19 rfl (lv_at hl 0 rfl) ?_
    refine va_get (D := D) (ci := 4) (v := .ref (am 3)) (C := RX4) (T := TX4) (N := 24) hx hb hts hinX4 hown hK hP 0 rfl rfl 2 (by decide) (hts (.fieldLink RX4 16 "OneShortModel" "aside" "[I") (List.mem_of_getElem? (i := 3) rfl)) (fun _ h9 => h9) rfl dX4_broken_20 ?_
    refine mu_S (n := 2) (As := [.ref (am 1), .ref (am 3)]) (rest := []) ⟨hx, hb, hml, hown, hts⟩ (c_X4_copyRow l D ci (am 1) (am 3) (pk X.1) (y0) (am_ne hI (by decide) (by decide) (by decide))) gX4_broken_X4_copyRow rfl ⟨rfl, rfl⟩ (by decide +kernel) rfl ⟨Nat.le_of_ble_eq_true rfl, Nat.le_of_ble_eq_true rfl⟩ hE trivial hK (va_P2 (k := 1) (k2 := 3) hP rfl rfl) hl.1 rfl (Nat.le_of_ble_eq_true rfl) dX4_broken_23 ⟨Nat.zero_le _, Nat.zero_le _⟩ hS (fun q h => h.elim (aM_m (k := 1) (by decide) q) (aM_m (k := 3) (by decide) q)) (fun H1 locs hz hfr hB hS => ?_)
    have hP : va_P D vwCl (wN ci am X kr q0 q1 q2 q3 q4 q5 iw kn (pk X.1) y1 y2 y3 y4 y5 y6) H1 := wN_c13 hI hP hfr hB
    generalize H1 = H at hP hS ⊢
    have hD : va_D (aM am) (wN ci am X kr q0 q1 q2 q3 q4 q5 iw kn (pk X.1) y1 y2 y3 y4 y5 y6) := wN_D hI
    refine lv_iconst (v := nI (0)) hx hb dX4_broken_26 (by decide) ?_
    refine lv_istore_n (lv' := [(2, .int (nI 0)), (0, .ref (am 0)), (1, .int (nI qn))]) hx hb dX4_broken_27 rfl hl (by decide) rfl (fun ls hl => ?_)
    have L28 : ∀ (k28 : Nat) (i : Nat), 40 - i < k28 → (i ≤ 40) → (∀ j, j < i → brk X.1 qn j = false) → ∀ (x2 : Int32), x2 = nI (i) → ∀ (y1 : Nat → Int32), ∀ (H : Heap) (locs : List Loc), va_P D vwCl (wN ci am (toS X (evMn X.1 i)) kr q0 q1 q2 q3 q4 q5 iw kn (pk X.1) y1 y2 y3 y4 y5 y6) H → va_S (aM am) s.heap H locs → ∀ ls : Array Slot, lv_has ls 3 [(2, .int (x2)), (0, .ref (am 0)), (1, .int (nI qn))] → W p l e (headSpec wsX4_broken ({ frames := 9, cells := 0, slots := 0, locals := 206 } : Room)).room s m ([.ref (am 0), .int (nI qn)] : List Value).toArray below meth c H locs 0 0 (MQ below (mu_Q (aM am) (some (.int ((p_broken X (nI qn)).1))) (fun H => ∃ (kr : Nat → Int32) (q0 : Int32) (q1 : Int32) (q2 : Int32) (q3 : Int32) (q4 : Int32) (q5 : Int32) (iw : Bool) (y0 : Nat → Int32) (y1 : Nat → Int32) (y2 : Nat → Int32) (y3 : Nat → Int32) (y4 : Nat → Int32) (y5 : Nat → Int32) (y6 : Nat → Int32), kOK (p_broken X (nI qn)).2 kr ∧ va_P D vwCl (wN ci am ((p_broken X (nI qn)).2) kr q0 q1 q2 q3 q4 q5 iw kn y0 y1 y2 y3 y4 y5 y6) H)) ([.ref (am 0), .int (nI qn)] : List Value).toArray s 0 0 (aM am)) (F0 m 28 ls []) := by
      intro k28
      induction k28 with
      | zero => intro i h0; exact absurd h0 (Nat.not_lt_zero _)
      | succ k28 ih28 =>
        intro i hk28 h_i h_u x2 e2 y1 H locs hP hS ls hl
        subst e2
        have hD : va_D (aM am) (wN ci am (toS X (evMn X.1 i)) kr q0 q1 q2 q3 q4 q5 iw kn (pk X.1) y1 y2 y3 y4 y5 y6) := wN_D hI
        have hWFi := WF_evMn hWF i (by omega)
        have f_8 := evMn_8 X.1 i
        have f_5 := (WF_evCn hWF i).f5 qn
        refine lv_iload_n hx hb dX4_broken_28 rfl (lv_at hl 0 rfl) ?_
        refine lv_bipush (v := nI (40)) hx hb dX4_broken_29 (by decide) ?_
        refine nv_icmp_ge (tgt := 53) hx hb (by omega) (by omega) dX4_broken_31 (by decide) (fun c2 => ?_) (fun c2 => ?_)
        · refine lv_aload_n hx hb dX4_broken_53 rfl (lv_at hl 1 rfl) ?_
          refine lv_aload_n hx hb dX4_broken_54 rfl (lv_at hl 1 rfl) ?_
          refine lv_aload_n hx hb dX4_broken_55 rfl (lv_at hl 1 rfl) ?_
          refine lv_iload_n hx hb dX4_broken_56 rfl (lv_at hl 2 rfl) ?_
          refine lv_iconst (v := nI (4)) hx hb dX4_broken_57 (by decide) ?_
          refine ro_V (n := 2) (As := [.int (nI qn), .int (nI 4)]) (rest := [.ref (am 0), .ref (am 0)]) ⟨hx, hb, hml, hown, hts⟩ (c_X4_playerIs l D ci am (toS X (evMn X.1 i)) kr q0 q1 q2 q3 q4 q5 iw kn (pk X.1) y1 y2 y3 y4 y5 y6 (qn) (4) hWFi (by omega) (by omega)) gX4_broken_X4_playerIs rfl ⟨rfl, rfl⟩ (by decide +kernel) rfl ⟨Nat.le_of_ble_eq_true rfl, Nat.le_of_ble_eq_true rfl⟩ hE trivial hK hP (ci := 4) (q0 := 0) rfl rfl hl.1 rfl (Nat.le_of_ble_eq_true rfl) dX4_broken_58 ⟨Nat.zero_le _, Nat.zero_le _⟩ ?_
          refine nv_cv (show nI ((toS X (evMn X.1 i)).1 (4 + 1) qn) = nI ((evMn X.1 i) 5 qn) from rfl) ?_
          have f3 := hWFi.f5 qn
          refine nv_cv (show nI ((evMn X.1 i) 5 qn) = nI (evCn X.1 i 5 qn) from congrArg nI (evMn_5 X.1 i qn)) ?_
          refine nv_ifne (tgt := 68) hx hb (by omega) dX4_broken_61 (by decide) (fun c4 => ?_) (fun c4 => ?_)
          · refine lv_iconst (v := -1) hx hb dX4_broken_68 (by decide) ?_
            refine mu_V (n := 1) (As := [.int (-1)]) (rest := [.ref (am 0)]) ⟨hx, hb, hml, hown, hts⟩ (c_X4_putBack l D ci am (toS X (evMn X.1 i)) kr q0 q1 q2 q3 q4 q5 iw kn (pk X.1) y1 y2 y3 y4 y5 y6 hI (-1) (X.1) (fun _ _ => rfl)) gX4_broken_X4_putBack rfl ⟨rfl, rfl⟩ (by decide +kernel) rfl ⟨Nat.le_of_ble_eq_true rfl, Nat.le_of_ble_eq_true rfl⟩ hE trivial hK hP (ci := 4) (q0 := 0) rfl rfl hl.1 rfl (Nat.le_of_ble_eq_true rfl) dX4_broken_69 ⟨Nat.zero_le _, Nat.zero_le _⟩ hS (fun _ h => h) (fun H1 locs hz hfr hB hS => ?_)
            have hP := hB
            have hP : va_P D vwCl (wN ci am (toS X X.1) kr q0 q1 q2 q3 q4 q5 iw kn (pk X.1) y1 y2 y3 y4 y5 y6) H1 := hP
            generalize H1 = H at hP hS ⊢
            have hD : va_D (aM am) (wN ci am (toS X X.1) kr q0 q1 q2 q3 q4 q5 iw kn (pk X.1) y1 y2 y3 y4 y5 y6) := wN_D hI
            refine nv_cv (show -1 = nI 0 - nI 1 from by decide) ?_
            refine mu_V (n := 1) (As := [.int (nI (0) - nI (1))]) (rest := []) ⟨hx, hb, hml, hown, hts⟩ (c_X4_orNone l D ci am (toS X X.1) kr q0 q1 q2 q3 q4 q5 iw kn (pk X.1) y1 y2 y3 y4 y5 y6 hI (0) (by omega)) gX4_broken_X4_orNone rfl ⟨rfl, rfl⟩ (by decide +kernel) rfl ⟨Nat.le_of_ble_eq_true rfl, Nat.le_of_ble_eq_true rfl⟩ hE trivial hK hP (ci := 4) (q0 := 0) rfl rfl hl.1 rfl (Nat.le_of_ble_eq_true rfl) dX4_broken_72 ⟨Nat.zero_le _, Nat.zero_le _⟩ hS (fun _ h => h) (fun H1 locs hz hfr hB hS => ?_)
            have hP := hB
            have hP : va_P D vwCl (wN ci am ((bk (toS X X.1) (decide (0 < 0)) 3 (nI (0 - 1), (toS X X.1))).2) kr q0 q1 q2 q3 q4 q5 iw kn (pk X.1) y1 y2 y3 y4 y5 y6) H1 := hP
            generalize H1 = H at hP hS ⊢
            have hD : va_D (aM am) (wN ci am ((bk (toS X X.1) (decide (0 < 0)) 3 (nI (0 - 1), (toS X X.1))).2) kr q0 q1 q2 q3 q4 q5 iw kn (pk X.1) y1 y2 y3 y4 y5 y6) := wN_D hI
            have hp : p_broken X (nI qn) = ((bk (toS X X.1) (decide (0 < 0)) 3 (nI (0 - 1), (toS X X.1))).1, (bk (toS X X.1) (decide (0 < 0)) 3 (nI (0 - 1), (toS X X.1))).2) := by first | (simp [p_broken, inP, bk, fl_eq, c1, c2, c4, t_qn]; done) | ((exfalso; omega); done) | ((have h9 := frst_eq (P := brk X.1 qn) (n := 41) (k := i) (by omega) (by simp [brk, c4]) h_u); simp [p_broken, inP, bk, fl_eq, toS, h9.1, h9.2, c1, c2, c4, t_qn]; done) | ((have h9 := any_no (P := brk X.1 qn) (n := 41) (fun j hj => by rcases (show j < i ∨ j = i by omega) with h8 | h8; exact h_u j h8; simp [brk, h8, c4])); simp [p_broken, inP, bk, fl_eq, toS, h9, c1, c2, c4, t_qn]; done)
            refine nv_cv (show (bk (toS X X.1) (decide (0 < 0)) 3 (nI (0 - 1), (toS X X.1))).1 = (p_broken X (nI qn)).1 from by rw [hp]) ?_
            exact mu_iret hx hb hr hlocks hS ((by rw [hp]; exact ⟨_, _, _, _, _, _, _, _, _, _, _, _, _, _, _, (by first | exact kOK_bk hkr hkr | exact hkr), hP⟩)) dX4_broken_75
          · refine lv_iload_n hx hb dX4_broken_64 rfl (lv_at hl 0 rfl) ?_
            refine lv_goto (tgt := 69) hx hb dX4_broken_65 (by decide) ?_
            refine mu_V (n := 1) (As := [.int (nI i)]) (rest := [.ref (am 0)]) ⟨hx, hb, hml, hown, hts⟩ (c_X4_putBack l D ci am (toS X (evMn X.1 i)) kr q0 q1 q2 q3 q4 q5 iw kn (pk X.1) y1 y2 y3 y4 y5 y6 hI (nI (i)) (X.1) (fun _ _ => rfl)) gX4_broken_X4_putBack rfl ⟨rfl, rfl⟩ (by decide +kernel) rfl ⟨Nat.le_of_ble_eq_true rfl, Nat.le_of_ble_eq_true rfl⟩ hE trivial hK hP (ci := 4) (q0 := 0) rfl rfl hl.1 rfl (Nat.le_of_ble_eq_true rfl) dX4_broken_69 ⟨Nat.zero_le _, Nat.zero_le _⟩ hS (fun _ h => h) (fun H1 locs hz hfr hB hS => ?_)
            have hP := hB
            have hP : va_P D vwCl (wN ci am (toS X X.1) kr q0 q1 q2 q3 q4 q5 iw kn (pk X.1) y1 y2 y3 y4 y5 y6) H1 := hP
            generalize H1 = H at hP hS ⊢
            have hD : va_D (aM am) (wN ci am (toS X X.1) kr q0 q1 q2 q3 q4 q5 iw kn (pk X.1) y1 y2 y3 y4 y5 y6) := wN_D hI
            refine nv_cv (show nI (i) = nI (i + 1) - nI 1 from (nI_pred _).symm) ?_
            refine mu_V (n := 1) (As := [.int (nI (i + 1) - nI (1))]) (rest := []) ⟨hx, hb, hml, hown, hts⟩ (c_X4_orNone l D ci am (toS X X.1) kr q0 q1 q2 q3 q4 q5 iw kn (pk X.1) y1 y2 y3 y4 y5 y6 hI (i + 1) (by omega)) gX4_broken_X4_orNone rfl ⟨rfl, rfl⟩ (by decide +kernel) rfl ⟨Nat.le_of_ble_eq_true rfl, Nat.le_of_ble_eq_true rfl⟩ hE trivial hK hP (ci := 4) (q0 := 0) rfl rfl hl.1 rfl (Nat.le_of_ble_eq_true rfl) dX4_broken_72 ⟨Nat.zero_le _, Nat.zero_le _⟩ hS (fun _ h => h) (fun H1 locs hz hfr hB hS => ?_)
            have hP := hB
            have hP : va_P D vwCl (wN ci am ((bk (toS X X.1) (decide (0 < (i + 1))) 3 (nI ((i + 1) - 1), (toS X X.1))).2) kr q0 q1 q2 q3 q4 q5 iw kn (pk X.1) y1 y2 y3 y4 y5 y6) H1 := hP
            generalize H1 = H at hP hS ⊢
            have hD : va_D (aM am) (wN ci am ((bk (toS X X.1) (decide (0 < (i + 1))) 3 (nI ((i + 1) - 1), (toS X X.1))).2) kr q0 q1 q2 q3 q4 q5 iw kn (pk X.1) y1 y2 y3 y4 y5 y6) := wN_D hI
            have hp : p_broken X (nI qn) = ((bk (toS X X.1) (decide (0 < (i + 1))) 3 (nI ((i + 1) - 1), (toS X X.1))).1, (bk (toS X X.1) (decide (0 < (i + 1))) 3 (nI ((i + 1) - 1), (toS X X.1))).2) := by first | (simp [p_broken, inP, bk, fl_eq, c1, c2, c4, t_qn]; done) | ((exfalso; omega); done) | ((have h9 := frst_eq (P := brk X.1 qn) (n := 41) (k := i) (by omega) (by simp [brk, c4]) h_u); simp [p_broken, inP, bk, fl_eq, toS, h9.1, h9.2, c1, c2, c4, t_qn]; done) | ((have h9 := any_no (P := brk X.1 qn) (n := 41) (fun j hj => by rcases (show j < i ∨ j = i by omega) with h8 | h8; exact h_u j h8; simp [brk, h8, c4])); simp [p_broken, inP, bk, fl_eq, toS, h9, c1, c2, c4, t_qn]; done)
            refine nv_cv (show (bk (toS X X.1) (decide (0 < (i + 1))) 3 (nI ((i + 1) - 1), (toS X X.1))).1 = (p_broken X (nI qn)).1 from by rw [hp]) ?_
            exact mu_iret hx hb hr hlocks hS ((by rw [hp]; exact ⟨_, _, _, _, _, _, _, _, _, _, _, _, _, _, _, (by first | exact kOK_bk hkr hkr | exact hkr), hP⟩)) dX4_broken_75
        · refine lv_aload_n hx hb dX4_broken_34 rfl (lv_at hl 1 rfl) ?_
          refine lv_iload_n hx hb dX4_broken_35 rfl (lv_at hl 2 rfl) ?_
          refine lv_iconst (v := nI (4)) hx hb dX4_broken_36 (by decide) ?_
          refine ro_V (n := 2) (As := [.int (nI qn), .int (nI 4)]) (rest := []) ⟨hx, hb, hml, hown, hts⟩ (c_X4_playerIs l D ci am (toS X (evMn X.1 i)) kr q0 q1 q2 q3 q4 q5 iw kn (pk X.1) y1 y2 y3 y4 y5 y6 (qn) (4) hWFi (by omega) (by omega)) gX4_broken_X4_playerIs rfl ⟨rfl, rfl⟩ (by decide +kernel) rfl ⟨Nat.le_of_ble_eq_true rfl, Nat.le_of_ble_eq_true rfl⟩ hE trivial hK hP (ci := 4) (q0 := 0) rfl rfl hl.1 rfl (Nat.le_of_ble_eq_true rfl) dX4_broken_37 ⟨Nat.zero_le _, Nat.zero_le _⟩ ?_
          refine nv_cv (show nI ((toS X (evMn X.1 i)).1 (4 + 1) qn) = nI ((evMn X.1 i) 5 qn) from rfl) ?_
          have f5 := hWFi.f5 qn
          refine nv_cv (show nI ((evMn X.1 i) 5 qn) = nI (evCn X.1 i 5 qn) from congrArg nI (evMn_5 X.1 i qn)) ?_
          refine nv_ifeq (tgt := 53) hx hb (by omega) dX4_broken_40 (by decide) (fun c6 => ?_) (fun c6 => ?_)
          · refine lv_aload_n hx hb dX4_broken_53 rfl (lv_at hl 1 rfl) ?_
            refine lv_aload_n hx hb dX4_broken_54 rfl (lv_at hl 1 rfl) ?_
            refine lv_aload_n hx hb dX4_broken_55 rfl (lv_at hl 1 rfl) ?_
            refine lv_iload_n hx hb dX4_broken_56 rfl (lv_at hl 2 rfl) ?_
            refine lv_iconst (v := nI (4)) hx hb dX4_broken_57 (by decide) ?_
            refine ro_V (n := 2) (As := [.int (nI qn), .int (nI 4)]) (rest := [.ref (am 0), .ref (am 0)]) ⟨hx, hb, hml, hown, hts⟩ (c_X4_playerIs l D ci am (toS X (evMn X.1 i)) kr q0 q1 q2 q3 q4 q5 iw kn (pk X.1) y1 y2 y3 y4 y5 y6 (qn) (4) hWFi (by omega) (by omega)) gX4_broken_X4_playerIs rfl ⟨rfl, rfl⟩ (by decide +kernel) rfl ⟨Nat.le_of_ble_eq_true rfl, Nat.le_of_ble_eq_true rfl⟩ hE trivial hK hP (ci := 4) (q0 := 0) rfl rfl hl.1 rfl (Nat.le_of_ble_eq_true rfl) dX4_broken_58 ⟨Nat.zero_le _, Nat.zero_le _⟩ ?_
            refine nv_cv (show nI ((toS X (evMn X.1 i)).1 (4 + 1) qn) = nI ((evMn X.1 i) 5 qn) from rfl) ?_
            have f7 := hWFi.f5 qn
            refine nv_cv (show nI ((evMn X.1 i) 5 qn) = nI (evCn X.1 i 5 qn) from congrArg nI (evMn_5 X.1 i qn)) ?_
            refine nv_ifne (tgt := 68) hx hb (by omega) dX4_broken_61 (by decide) (fun c8 => ?_) (fun c8 => ?_)
            · refine lv_iconst (v := -1) hx hb dX4_broken_68 (by decide) ?_
              refine mu_V (n := 1) (As := [.int (-1)]) (rest := [.ref (am 0)]) ⟨hx, hb, hml, hown, hts⟩ (c_X4_putBack l D ci am (toS X (evMn X.1 i)) kr q0 q1 q2 q3 q4 q5 iw kn (pk X.1) y1 y2 y3 y4 y5 y6 hI (-1) (X.1) (fun _ _ => rfl)) gX4_broken_X4_putBack rfl ⟨rfl, rfl⟩ (by decide +kernel) rfl ⟨Nat.le_of_ble_eq_true rfl, Nat.le_of_ble_eq_true rfl⟩ hE trivial hK hP (ci := 4) (q0 := 0) rfl rfl hl.1 rfl (Nat.le_of_ble_eq_true rfl) dX4_broken_69 ⟨Nat.zero_le _, Nat.zero_le _⟩ hS (fun _ h => h) (fun H1 locs hz hfr hB hS => ?_)
              have hP := hB
              have hP : va_P D vwCl (wN ci am (toS X X.1) kr q0 q1 q2 q3 q4 q5 iw kn (pk X.1) y1 y2 y3 y4 y5 y6) H1 := hP
              generalize H1 = H at hP hS ⊢
              have hD : va_D (aM am) (wN ci am (toS X X.1) kr q0 q1 q2 q3 q4 q5 iw kn (pk X.1) y1 y2 y3 y4 y5 y6) := wN_D hI
              refine nv_cv (show -1 = nI 0 - nI 1 from by decide) ?_
              refine mu_V (n := 1) (As := [.int (nI (0) - nI (1))]) (rest := []) ⟨hx, hb, hml, hown, hts⟩ (c_X4_orNone l D ci am (toS X X.1) kr q0 q1 q2 q3 q4 q5 iw kn (pk X.1) y1 y2 y3 y4 y5 y6 hI (0) (by omega)) gX4_broken_X4_orNone rfl ⟨rfl, rfl⟩ (by decide +kernel) rfl ⟨Nat.le_of_ble_eq_true rfl, Nat.le_of_ble_eq_true rfl⟩ hE trivial hK hP (ci := 4) (q0 := 0) rfl rfl hl.1 rfl (Nat.le_of_ble_eq_true rfl) dX4_broken_72 ⟨Nat.zero_le _, Nat.zero_le _⟩ hS (fun _ h => h) (fun H1 locs hz hfr hB hS => ?_)
              have hP := hB
              have hP : va_P D vwCl (wN ci am ((bk (toS X X.1) (decide (0 < 0)) 3 (nI (0 - 1), (toS X X.1))).2) kr q0 q1 q2 q3 q4 q5 iw kn (pk X.1) y1 y2 y3 y4 y5 y6) H1 := hP
              generalize H1 = H at hP hS ⊢
              have hD : va_D (aM am) (wN ci am ((bk (toS X X.1) (decide (0 < 0)) 3 (nI (0 - 1), (toS X X.1))).2) kr q0 q1 q2 q3 q4 q5 iw kn (pk X.1) y1 y2 y3 y4 y5 y6) := wN_D hI
              have hp : p_broken X (nI qn) = ((bk (toS X X.1) (decide (0 < 0)) 3 (nI (0 - 1), (toS X X.1))).1, (bk (toS X X.1) (decide (0 < 0)) 3 (nI (0 - 1), (toS X X.1))).2) := by first | (simp [p_broken, inP, bk, fl_eq, c1, c2, c6, c8, t_qn]; done) | ((exfalso; omega); done) | ((have h9 := frst_eq (P := brk X.1 qn) (n := 41) (k := i) (by omega) (by simp [brk, c8]) h_u); simp [p_broken, inP, bk, fl_eq, toS, h9.1, h9.2, c1, c2, c6, c8, t_qn]; done) | ((have h9 := any_no (P := brk X.1 qn) (n := 41) (fun j hj => by rcases (show j < i ∨ j = i by omega) with h8 | h8; exact h_u j h8; simp [brk, h8, c8])); simp [p_broken, inP, bk, fl_eq, toS, h9, c1, c2, c6, c8, t_qn]; done)
              refine nv_cv (show (bk (toS X X.1) (decide (0 < 0)) 3 (nI (0 - 1), (toS X X.1))).1 = (p_broken X (nI qn)).1 from by rw [hp]) ?_
              exact mu_iret hx hb hr hlocks hS ((by rw [hp]; exact ⟨_, _, _, _, _, _, _, _, _, _, _, _, _, _, _, (by first | exact kOK_bk hkr hkr | exact hkr), hP⟩)) dX4_broken_75
            · refine lv_iload_n hx hb dX4_broken_64 rfl (lv_at hl 0 rfl) ?_
              refine lv_goto (tgt := 69) hx hb dX4_broken_65 (by decide) ?_
              refine mu_V (n := 1) (As := [.int (nI i)]) (rest := [.ref (am 0)]) ⟨hx, hb, hml, hown, hts⟩ (c_X4_putBack l D ci am (toS X (evMn X.1 i)) kr q0 q1 q2 q3 q4 q5 iw kn (pk X.1) y1 y2 y3 y4 y5 y6 hI (nI (i)) (X.1) (fun _ _ => rfl)) gX4_broken_X4_putBack rfl ⟨rfl, rfl⟩ (by decide +kernel) rfl ⟨Nat.le_of_ble_eq_true rfl, Nat.le_of_ble_eq_true rfl⟩ hE trivial hK hP (ci := 4) (q0 := 0) rfl rfl hl.1 rfl (Nat.le_of_ble_eq_true rfl) dX4_broken_69 ⟨Nat.zero_le _, Nat.zero_le _⟩ hS (fun _ h => h) (fun H1 locs hz hfr hB hS => ?_)
              have hP := hB
              have hP : va_P D vwCl (wN ci am (toS X X.1) kr q0 q1 q2 q3 q4 q5 iw kn (pk X.1) y1 y2 y3 y4 y5 y6) H1 := hP
              generalize H1 = H at hP hS ⊢
              have hD : va_D (aM am) (wN ci am (toS X X.1) kr q0 q1 q2 q3 q4 q5 iw kn (pk X.1) y1 y2 y3 y4 y5 y6) := wN_D hI
              refine nv_cv (show nI (i) = nI (i + 1) - nI 1 from (nI_pred _).symm) ?_
              refine mu_V (n := 1) (As := [.int (nI (i + 1) - nI (1))]) (rest := []) ⟨hx, hb, hml, hown, hts⟩ (c_X4_orNone l D ci am (toS X X.1) kr q0 q1 q2 q3 q4 q5 iw kn (pk X.1) y1 y2 y3 y4 y5 y6 hI (i + 1) (by omega)) gX4_broken_X4_orNone rfl ⟨rfl, rfl⟩ (by decide +kernel) rfl ⟨Nat.le_of_ble_eq_true rfl, Nat.le_of_ble_eq_true rfl⟩ hE trivial hK hP (ci := 4) (q0 := 0) rfl rfl hl.1 rfl (Nat.le_of_ble_eq_true rfl) dX4_broken_72 ⟨Nat.zero_le _, Nat.zero_le _⟩ hS (fun _ h => h) (fun H1 locs hz hfr hB hS => ?_)
              have hP := hB
              have hP : va_P D vwCl (wN ci am ((bk (toS X X.1) (decide (0 < (i + 1))) 3 (nI ((i + 1) - 1), (toS X X.1))).2) kr q0 q1 q2 q3 q4 q5 iw kn (pk X.1) y1 y2 y3 y4 y5 y6) H1 := hP
              generalize H1 = H at hP hS ⊢
              have hD : va_D (aM am) (wN ci am ((bk (toS X X.1) (decide (0 < (i + 1))) 3 (nI ((i + 1) - 1), (toS X X.1))).2) kr q0 q1 q2 q3 q4 q5 iw kn (pk X.1) y1 y2 y3 y4 y5 y6) := wN_D hI
              have hp : p_broken X (nI qn) = ((bk (toS X X.1) (decide (0 < (i + 1))) 3 (nI ((i + 1) - 1), (toS X X.1))).1, (bk (toS X X.1) (decide (0 < (i + 1))) 3 (nI ((i + 1) - 1), (toS X X.1))).2) := by first | (simp [p_broken, inP, bk, fl_eq, c1, c2, c6, c8, t_qn]; done) | ((exfalso; omega); done) | ((have h9 := frst_eq (P := brk X.1 qn) (n := 41) (k := i) (by omega) (by simp [brk, c8]) h_u); simp [p_broken, inP, bk, fl_eq, toS, h9.1, h9.2, c1, c2, c6, c8, t_qn]; done) | ((have h9 := any_no (P := brk X.1 qn) (n := 41) (fun j hj => by rcases (show j < i ∨ j = i by omega) with h8 | h8; exact h_u j h8; simp [brk, h8, c8])); simp [p_broken, inP, bk, fl_eq, toS, h9, c1, c2, c6, c8, t_qn]; done)
              refine nv_cv (show (bk (toS X X.1) (decide (0 < (i + 1))) 3 (nI ((i + 1) - 1), (toS X X.1))).1 = (p_broken X (nI qn)).1 from by rw [hp]) ?_
              exact mu_iret hx hb hr hlocks hS ((by rw [hp]; exact ⟨_, _, _, _, _, _, _, _, _, _, _, _, _, _, _, (by first | exact kOK_bk hkr hkr | exact hkr), hP⟩)) dX4_broken_75
          · refine lv_aload_n hx hb dX4_broken_43 rfl (lv_at hl 1 rfl) ?_
            refine mu_V (n := 0) (As := []) (rest := []) ⟨hx, hb, hml, hown, hts⟩ (c_X4_evening l D ci am (toS X (evMn X.1 i)) kr q0 q1 q2 q3 q4 q5 iw kn (pk X.1) y1 y2 y3 y4 y5 y6 hI  hWFi (show evMn X.1 i 8 0 < 199999 by omega)) gX4_broken_X4_evening rfl ⟨rfl, rfl⟩ (by decide +kernel) rfl ⟨Nat.le_of_ble_eq_true rfl, Nat.le_of_ble_eq_true rfl⟩ hE trivial hK hP (ci := 4) (q0 := 0) rfl rfl hl.1 rfl (Nat.le_of_ble_eq_true rfl) dX4_broken_44 ⟨Nat.zero_le _, Nat.zero_le _⟩ hS (fun _ h => h) (fun H1 locs hz hfr hB hS => ?_)
            obtain ⟨y1_9, hP⟩ := hB
            have hP : va_P D vwCl (wN ci am (toS X (evM (evMn X.1 i))) kr q0 q1 q2 q3 q4 q5 iw kn (pk X.1) y1_9 y2 y3 y4 y5 y6) H1 := hP
            generalize H1 = H at hP hS ⊢
            have hD : va_D (aM am) (wN ci am (toS X (evM (evMn X.1 i))) kr q0 q1 q2 q3 q4 q5 iw kn (pk X.1) y1_9 y2 y3 y4 y5 y6) := wN_D hI
            refine nv_iinc1 (lv' := [(2, .int (nI (i + 1))), (0, .ref (am 0)), (1, .int (nI qn))]) hx hb dX4_broken_47 hl (k := 0) rfl (by decide) rfl (fun ls hl => ?_)
            refine lv_goto (tgt := 28) hx hb dX4_broken_50 (by decide) ?_
            exact ih28 (i + 1) (by omega) (by omega) (all_f h_u (by simp [brk, c6])) (nI (i + 1)) rfl (y1_9) _ _ (va_P.re (by rfl) hP) hS ls (lv_sub hl [0, 1, 2] rfl)
    exact L28 _ (0) (Nat.lt_succ_self _) (by omega) (fun _ h => absurd h (Nat.not_lt_zero _)) (nI (0)) rfl (y1) _ _ (va_P.re (by rfl) hP) hS ls (lv_sub hl [0, 1, 2] rfl)
  · refine lv_aload_n hx hb dX4_broken_8 rfl (lv_at hl 0 rfl) ?_
    refine lv_ldc (v := -1000001) hx hb hown (hts (.constant RX4 72 (-1000001)) (List.mem_of_getElem? (i := 1) rfl)) dX4_broken_9 ?_
    refine mu_V (n := 1) (As := [.int (-1000001)]) (rest := []) ⟨hx, hb, hml, hown, hts⟩ (c_X4_finding l D ci am X kr q0 q1 q2 q3 q4 q5 iw kn y0 y1 y2 y3 y4 y5 y6 hI (-1000001) (0) (by omega) (by decide)) gX4_broken_X4_finding rfl ⟨rfl, rfl⟩ (by decide +kernel) rfl ⟨Nat.le_of_ble_eq_true rfl, Nat.le_of_ble_eq_true rfl⟩ hE trivial hK hP (ci := 4) (q0 := 0) rfl rfl hl.1 rfl (Nat.le_of_ble_eq_true rfl) dX4_broken_11 ⟨Nat.zero_le _, Nat.zero_le _⟩ hS (fun _ h => h) (fun H1 locs hz hfr hB hS => ?_)
    have hP := hB
    have hP : va_P D vwCl (wN ci am (toF X (inc X.2.2.2.1 0)) kr q0 q1 q2 q3 q4 q5 iw kn y0 y1 y2 y3 y4 y5 y6) H1 := hP
    generalize H1 = H at hP hS ⊢
    have hD : va_D (aM am) (wN ci am (toF X (inc X.2.2.2.1 0)) kr q0 q1 q2 q3 q4 q5 iw kn y0 y1 y2 y3 y4 y5 y6) := wN_D hI
    have hp : p_broken X q = (fnd 0, toF X (inc X.2.2.2.1 0)) := by first | (simp [p_broken, inP, bk, fl_eq, c1]; done) | ((exfalso; omega); done) | ((have h9 := frst_eq (P := brk X.1 qn) (n := 41) (k := i) (by omega) (by simp [brk, c1]) h_u); simp [p_broken, inP, bk, fl_eq, toS, h9.1, h9.2, c1]; done) | ((have h9 := any_no (P := brk X.1 qn) (n := 41) (fun j hj => by rcases (show j < i ∨ j = i by omega) with h8 | h8; exact h_u j h8; simp [brk, h8, c1])); simp [p_broken, inP, bk, fl_eq, toS, h9, c1]; done)
    refine nv_cv (show fnd 0 = (p_broken X q).1 from by rw [hp]) ?_
    exact mu_iret hx hb hr hlocks hS ((by rw [hp]; exact ⟨_, _, _, _, _, _, _, _, _, _, _, _, _, _, _, (by first | exact kOK_bk hkr hkr | exact hkr), hP⟩)) dX4_broken_14

set_option maxHeartbeats 4000000 in
set_option maxRecDepth 100000 in
/-- X4_settles -/
theorem c_X4_settles (l : Launch) (D : va_G) (ci : Nat → ClassId) (am : Nat → Nat) (X : AS) (kr : Nat → Int32) (q0 q1 q2 q3 q4 q5 : Int32) (iw : Bool) (kn : Nat → Option Nat) (y0 y1 y2 y3 y4 y5 y6 : Nat → Int32) (hI : injA am 16)  (hWX : WFX X) (hkr : kOK X kr) : Met l yX4_settles wsX4_settles ({ frames := 10, cells := 0, slots := 0, locals := 228 } : Room) (va_Pc [.ref (am 0)] (ro_B D (tyL ci) (wN ci am X kr q0 q1 q2 q3 q4 q5 iw kn y0 y1 y2 y3 y4 y5 y6) (enT))) (mu_Q (aM am) (some (.int ((p_settles X).1))) (fun H => ∃ (kr : Nat → Int32) (q0 : Int32) (q1 : Int32) (q2 : Int32) (q3 : Int32) (q4 : Int32) (q5 : Int32) (iw : Bool) (y0 : Nat → Int32) (y1 : Nat → Int32) (y2 : Nat → Int32) (y3 : Nat → Int32) (y4 : Nat → Int32) (y5 : Nat → Int32) (y6 : Nat → Int32), kOK (p_settles X).2 kr ∧ va_P D vwCl (wN ci am ((p_settles X).2) kr q0 q1 q2 q3 q4 q5 iw kn y0 y1 y2 y3 y4 y5 y6) H)) 0 0 (aM am) := by
  refine mu_Met (cc := cX4_settles) (maxL := 2) (ret := (some .int)) [(0, .ref (am 0))] (wN_D hI) (by decide) rfl (Nat.le_of_ble_eq_true rfl) rfl ?_
  intro p e s m below meth c H locs hx hb hml hr hlocks hts hown hP hK hs0 hD hS ls hl
  have hown : s.vm.findClass RX4 = some m.cls := hown
  have hinX4 : ∀ w ∈ wsX40, w ∈ wsX4_settles := by decide +kernel
  have hE := hE_T
  have hWF := hWX.w
  have f_n := hWF.n
  have f_e := hWX.e
  have f_tl := hWX.t
  refine lv_aload_n hx hb dX4_settles_0 rfl (lv_at hl 0 rfl) ?_
  refine va_get (D := D) (ci := 4) (v := .ref (am 1)) (C := RX4) (T := TX4) (N := 24) hx hb hts hinX4 hown hK hP 0 rfl rfl 0 (by decide) (hts (.fieldLink RX4 9 "OneShortModel" "now" "[I") (List.mem_of_getElem? (i := 1) rfl)) (fun _ h9 => h9) rfl dX4_settles_1 ?_
  refine lv_aload_n hx hb dX4_settles_4 rfl (lv_at hl 0 rfl) ?_
  refine va_get (D := D) (ci := 4) (v := .ref (am 3)) (C := RX4) (T := TX4) (N := 24) hx hb hts hinX4 hown hK hP 0 rfl rfl 2 (by decide) (hts (.fieldLink RX4 16 "OneShortModel" "aside" "[I") (List.mem_of_getElem? (i := 2) rfl)) (fun _ h9 => h9) rfl dX4_settles_5 ?_
  refine mu_S (n := 2) (As := [.ref (am 1), .ref (am 3)]) (rest := []) ⟨hx, hb, hml, hown, hts⟩ (c_X4_copyRow l D ci (am 1) (am 3) (pk X.1) (y0) (am_ne hI (by decide) (by decide) (by decide))) gX4_settles_X4_copyRow rfl ⟨rfl, rfl⟩ (by decide +kernel) rfl ⟨Nat.le_of_ble_eq_true rfl, Nat.le_of_ble_eq_true rfl⟩ hE trivial hK (va_P2 (k := 1) (k2 := 3) hP rfl rfl) hl.1 rfl (Nat.le_of_ble_eq_true rfl) dX4_settles_8 ⟨Nat.zero_le _, Nat.zero_le _⟩ hS (fun q h => h.elim (aM_m (k := 1) (by decide) q) (aM_m (k := 3) (by decide) q)) (fun H1 locs hz hfr hB hS => ?_)
  have hP : va_P D vwCl (wN ci am X kr q0 q1 q2 q3 q4 q5 iw kn (pk X.1) y1 y2 y3 y4 y5 y6) H1 := wN_c13 hI hP hfr hB
  generalize H1 = H at hP hS ⊢
  have hD : va_D (aM am) (wN ci am X kr q0 q1 q2 q3 q4 q5 iw kn (pk X.1) y1 y2 y3 y4 y5 y6) := wN_D hI
  refine lv_iconst (v := nI (0)) hx hb dX4_settles_11 (by decide) ?_
  refine lv_istore_n (lv' := [(1, .int (nI 0)), (0, .ref (am 0))]) hx hb dX4_settles_12 rfl hl (by decide) rfl (fun ls hl => ?_)
  have L13 : ∀ (k13 : Nat) (i : Nat), 41 - i < k13 → (i ≤ 41) → (∀ j, j < i → stl X.1 j = false) → ∀ (x1 : Int32), x1 = nI (i) → ∀ (y1 : Nat → Int32) (y3 : Nat → Int32), ∀ (H : Heap) (locs : List Loc), va_P D vwCl (wN ci am (toS X (evMn X.1 i)) kr q0 q1 q2 q3 q4 q5 iw kn (pk X.1) y1 y2 y3 y4 y5 y6) H → va_S (aM am) s.heap H locs → ∀ ls : Array Slot, lv_has ls 2 [(1, .int (x1)), (0, .ref (am 0))] → W p l e (headSpec wsX4_settles ({ frames := 10, cells := 0, slots := 0, locals := 228 } : Room)).room s m ([.ref (am 0)] : List Value).toArray below meth c H locs 0 0 (MQ below (mu_Q (aM am) (some (.int ((p_settles X).1))) (fun H => ∃ (kr : Nat → Int32) (q0 : Int32) (q1 : Int32) (q2 : Int32) (q3 : Int32) (q4 : Int32) (q5 : Int32) (iw : Bool) (y0 : Nat → Int32) (y1 : Nat → Int32) (y2 : Nat → Int32) (y3 : Nat → Int32) (y4 : Nat → Int32) (y5 : Nat → Int32) (y6 : Nat → Int32), kOK (p_settles X).2 kr ∧ va_P D vwCl (wN ci am ((p_settles X).2) kr q0 q1 q2 q3 q4 q5 iw kn y0 y1 y2 y3 y4 y5 y6) H)) ([.ref (am 0)] : List Value).toArray s 0 0 (aM am)) (F0 m 13 ls []) := by
    intro k13
    induction k13 with
    | zero => intro i h0; exact absurd h0 (Nat.not_lt_zero _)
    | succ k13 ih13 =>
      intro i hk13 h_i h_u x1 e1 y1 y3 H locs hP hS ls hl
      subst e1
      have hD : va_D (aM am) (wN ci am (toS X (evMn X.1 i)) kr q0 q1 q2 q3 q4 q5 iw kn (pk X.1) y1 y2 y3 y4 y5 y6) := wN_D hI
      have hWFi := WF_evMn hWF i (by omega)
      have f_8 := evMn_8 X.1 i
      refine lv_iload_n hx hb dX4_settles_13 rfl (lv_at hl 0 rfl) ?_
      refine lv_bipush (v := nI (40)) hx hb dX4_settles_14 (by decide) ?_
      refine nv_icmp_gt (tgt := 32) hx hb (by omega) (by omega) dX4_settles_16 (by decide) (fun c1 => ?_) (fun c1 => ?_)
      · refine lv_aload_n hx hb dX4_settles_32 rfl (lv_at hl 1 rfl) ?_
        refine lv_aload_n hx hb dX4_settles_33 rfl (lv_at hl 1 rfl) ?_
        refine lv_iload_n hx hb dX4_settles_34 rfl (lv_at hl 0 rfl) ?_
        refine lv_bipush (v := nI (40)) hx hb dX4_settles_35 (by decide) ?_
        refine nv_icmp_gt (tgt := 44) hx hb (by omega) (by omega) dX4_settles_37 (by decide) (fun c2 => ?_) (fun c2 => ?_)
        · refine lv_iconst (v := -1) hx hb dX4_settles_44 (by decide) ?_
          refine mu_V (n := 1) (As := [.int (-1)]) (rest := [.ref (am 0)]) ⟨hx, hb, hml, hown, hts⟩ (c_X4_putBack l D ci am (toS X (evMn X.1 i)) kr q0 q1 q2 q3 q4 q5 iw kn (pk X.1) y1 y2 y3 y4 y5 y6 hI (-1) (X.1) (fun _ _ => rfl)) gX4_settles_X4_putBack rfl ⟨rfl, rfl⟩ (by decide +kernel) rfl ⟨Nat.le_of_ble_eq_true rfl, Nat.le_of_ble_eq_true rfl⟩ hE trivial hK hP (ci := 4) (q0 := 0) rfl rfl hl.1 rfl (Nat.le_of_ble_eq_true rfl) dX4_settles_45 ⟨Nat.zero_le _, Nat.zero_le _⟩ hS (fun _ h => h) (fun H1 locs hz hfr hB hS => ?_)
          have hP := hB
          have hP : va_P D vwCl (wN ci am (toS X X.1) kr q0 q1 q2 q3 q4 q5 iw kn (pk X.1) y1 y2 y3 y4 y5 y6) H1 := hP
          generalize H1 = H at hP hS ⊢
          have hD : va_D (aM am) (wN ci am (toS X X.1) kr q0 q1 q2 q3 q4 q5 iw kn (pk X.1) y1 y2 y3 y4 y5 y6) := wN_D hI
          refine nv_cv (show -1 = nI 0 - nI 1 from by decide) ?_
          refine mu_V (n := 1) (As := [.int (nI (0) - nI (1))]) (rest := []) ⟨hx, hb, hml, hown, hts⟩ (c_X4_orNone l D ci am (toS X X.1) kr q0 q1 q2 q3 q4 q5 iw kn (pk X.1) y1 y2 y3 y4 y5 y6 hI (0) (by omega)) gX4_settles_X4_orNone rfl ⟨rfl, rfl⟩ (by decide +kernel) rfl ⟨Nat.le_of_ble_eq_true rfl, Nat.le_of_ble_eq_true rfl⟩ hE trivial hK hP (ci := 4) (q0 := 0) rfl rfl hl.1 rfl (Nat.le_of_ble_eq_true rfl) dX4_settles_48 ⟨Nat.zero_le _, Nat.zero_le _⟩ hS (fun _ h => h) (fun H1 locs hz hfr hB hS => ?_)
          have hP := hB
          have hP : va_P D vwCl (wN ci am ((bk (toS X X.1) (decide (0 < 0)) 3 (nI (0 - 1), (toS X X.1))).2) kr q0 q1 q2 q3 q4 q5 iw kn (pk X.1) y1 y2 y3 y4 y5 y6) H1 := hP
          generalize H1 = H at hP hS ⊢
          have hD : va_D (aM am) (wN ci am ((bk (toS X X.1) (decide (0 < 0)) 3 (nI (0 - 1), (toS X X.1))).2) kr q0 q1 q2 q3 q4 q5 iw kn (pk X.1) y1 y2 y3 y4 y5 y6) := wN_D hI
          have hp : p_settles X = ((bk (toS X X.1) (decide (0 < 0)) 3 (nI (0 - 1), (toS X X.1))).1, (bk (toS X X.1) (decide (0 < 0)) 3 (nI (0 - 1), (toS X X.1))).2) := by first | ((exfalso; omega); done) | ((have h9 := frst_eq (P := stl X.1) (n := 41) (k := i) (by omega) (by rw [stl_M]; first | exact c1 | simp [c1, c2]) h_u); simp [p_settles, bk, fl_eq, toS, h9.1, h9.2, c1, c2]; done) | ((have h9 := any_no (P := stl X.1) (n := 41) (fun j hj => h_u j (by omega))); simp [p_settles, bk, fl_eq, toS, h9, c1, c2]; done)
          refine nv_cv (show (bk (toS X X.1) (decide (0 < 0)) 3 (nI (0 - 1), (toS X X.1))).1 = (p_settles X).1 from by rw [hp]) ?_
          exact mu_iret hx hb hr hlocks hS ((by rw [hp]; exact ⟨_, _, _, _, _, _, _, _, _, _, _, _, _, _, _, (by first | exact kOK_bk hkr hkr | exact hkr), hP⟩)) dX4_settles_51
        · refine lv_iload_n hx hb dX4_settles_40 rfl (lv_at hl 0 rfl) ?_
          refine lv_goto (tgt := 45) hx hb dX4_settles_41 (by decide) ?_
          refine mu_V (n := 1) (As := [.int (nI i)]) (rest := [.ref (am 0)]) ⟨hx, hb, hml, hown, hts⟩ (c_X4_putBack l D ci am (toS X (evMn X.1 i)) kr q0 q1 q2 q3 q4 q5 iw kn (pk X.1) y1 y2 y3 y4 y5 y6 hI (nI (i)) (X.1) (fun _ _ => rfl)) gX4_settles_X4_putBack rfl ⟨rfl, rfl⟩ (by decide +kernel) rfl ⟨Nat.le_of_ble_eq_true rfl, Nat.le_of_ble_eq_true rfl⟩ hE trivial hK hP (ci := 4) (q0 := 0) rfl rfl hl.1 rfl (Nat.le_of_ble_eq_true rfl) dX4_settles_45 ⟨Nat.zero_le _, Nat.zero_le _⟩ hS (fun _ h => h) (fun H1 locs hz hfr hB hS => ?_)
          have hP := hB
          have hP : va_P D vwCl (wN ci am (toS X X.1) kr q0 q1 q2 q3 q4 q5 iw kn (pk X.1) y1 y2 y3 y4 y5 y6) H1 := hP
          generalize H1 = H at hP hS ⊢
          have hD : va_D (aM am) (wN ci am (toS X X.1) kr q0 q1 q2 q3 q4 q5 iw kn (pk X.1) y1 y2 y3 y4 y5 y6) := wN_D hI
          refine nv_cv (show nI (i) = nI (i + 1) - nI 1 from (nI_pred _).symm) ?_
          refine mu_V (n := 1) (As := [.int (nI (i + 1) - nI (1))]) (rest := []) ⟨hx, hb, hml, hown, hts⟩ (c_X4_orNone l D ci am (toS X X.1) kr q0 q1 q2 q3 q4 q5 iw kn (pk X.1) y1 y2 y3 y4 y5 y6 hI (i + 1) (by omega)) gX4_settles_X4_orNone rfl ⟨rfl, rfl⟩ (by decide +kernel) rfl ⟨Nat.le_of_ble_eq_true rfl, Nat.le_of_ble_eq_true rfl⟩ hE trivial hK hP (ci := 4) (q0 := 0) rfl rfl hl.1 rfl (Nat.le_of_ble_eq_true rfl) dX4_settles_48 ⟨Nat.zero_le _, Nat.zero_le _⟩ hS (fun _ h => h) (fun H1 locs hz hfr hB hS => ?_)
          have hP := hB
          have hP : va_P D vwCl (wN ci am ((bk (toS X X.1) (decide (0 < (i + 1))) 3 (nI ((i + 1) - 1), (toS X X.1))).2) kr q0 q1 q2 q3 q4 q5 iw kn (pk X.1) y1 y2 y3 y4 y5 y6) H1 := hP
          generalize H1 = H at hP hS ⊢
          have hD : va_D (aM am) (wN ci am ((bk (toS X X.1) (decide (0 < (i + 1))) 3 (nI ((i + 1) - 1), (toS X X.1))).2) kr q0 q1 q2 q3 q4 q5 iw kn (pk X.1) y1 y2 y3 y4 y5 y6) := wN_D hI
          have hp : p_settles X = ((bk (toS X X.1) (decide (0 < (i + 1))) 3 (nI ((i + 1) - 1), (toS X X.1))).1, (bk (toS X X.1) (decide (0 < (i + 1))) 3 (nI ((i + 1) - 1), (toS X X.1))).2) := by first | ((exfalso; omega); done) | ((have h9 := frst_eq (P := stl X.1) (n := 41) (k := i) (by omega) (by rw [stl_M]; first | exact c1 | simp [c1, c2]) h_u); simp [p_settles, bk, fl_eq, toS, h9.1, h9.2, c1, c2]; done) | ((have h9 := any_no (P := stl X.1) (n := 41) (fun j hj => h_u j (by omega))); simp [p_settles, bk, fl_eq, toS, h9, c1, c2]; done)
          refine nv_cv (show (bk (toS X X.1) (decide (0 < (i + 1))) 3 (nI ((i + 1) - 1), (toS X X.1))).1 = (p_settles X).1 from by rw [hp]) ?_
          exact mu_iret hx hb hr hlocks hS ((by rw [hp]; exact ⟨_, _, _, _, _, _, _, _, _, _, _, _, _, _, _, (by first | exact kOK_bk hkr hkr | exact hkr), hP⟩)) dX4_settles_51
      · refine lv_aload_n hx hb dX4_settles_19 rfl (lv_at hl 1 rfl) ?_
        refine mu_V (n := 0) (As := []) (rest := []) ⟨hx, hb, hml, hown, hts⟩ (c_X4_isLikeBehind l D ci am (toS X (evMn X.1 i)) kr q0 q1 q2 q3 q4 q5 iw kn (pk X.1) y1 y2 y3 y4 y5 y6 hI  hWFi (show evMn X.1 i 8 0 < 199999 by omega)) gX4_settles_X4_isLikeBehind rfl ⟨rfl, rfl⟩ (by decide +kernel) rfl ⟨Nat.le_of_ble_eq_true rfl, Nat.le_of_ble_eq_true rfl⟩ hE trivial hK hP (ci := 4) (q0 := 0) rfl rfl hl.1 rfl (Nat.le_of_ble_eq_true rfl) dX4_settles_20 ⟨Nat.zero_le _, Nat.zero_le _⟩ hS (fun _ h => h) (fun H1 locs hz hfr hB hS => ?_)
        obtain ⟨y1_3, y3_4, hP⟩ := hB
        have hP : va_P D vwCl (wN ci am (toS X (evM (evMn X.1 i))) kr q0 q1 q2 q3 q4 q5 iw kn (pk X.1) y1_3 y2 y3_4 y4 y5 y6) H1 := hP
        generalize H1 = H at hP hS ⊢
        have hD : va_D (aM am) (wN ci am (toS X (evM (evMn X.1 i))) kr q0 q1 q2 q3 q4 q5 iw kn (pk X.1) y1_3 y2 y3_4 y4 y5 y6) := wN_D hI
        refine nv_cv (show bI (!chg (toS X (evMn X.1 i)).1) = bI (!chg (evMn X.1 i)) from rfl) ?_
        refine nv_ifne_b (tgt := 32) hx hb dX4_settles_23 (by decide) (fun c5 => ?_) (fun c5 => ?_)
        · refine lv_aload_n hx hb dX4_settles_32 rfl (lv_at hl 1 rfl) ?_
          refine lv_aload_n hx hb dX4_settles_33 rfl (lv_at hl 1 rfl) ?_
          refine lv_iload_n hx hb dX4_settles_34 rfl (lv_at hl 0 rfl) ?_
          refine lv_bipush (v := nI (40)) hx hb dX4_settles_35 (by decide) ?_
          refine nv_icmp_gt (tgt := 44) hx hb (by omega) (by omega) dX4_settles_37 (by decide) (fun c6 => ?_) (fun c6 => ?_)
          · refine lv_iconst (v := -1) hx hb dX4_settles_44 (by decide) ?_
            refine mu_V (n := 1) (As := [.int (-1)]) (rest := [.ref (am 0)]) ⟨hx, hb, hml, hown, hts⟩ (c_X4_putBack l D ci am (toS X (evM (evMn X.1 i))) kr q0 q1 q2 q3 q4 q5 iw kn (pk X.1) y1_3 y2 y3_4 y4 y5 y6 hI (-1) (X.1) (fun _ _ => rfl)) gX4_settles_X4_putBack rfl ⟨rfl, rfl⟩ (by decide +kernel) rfl ⟨Nat.le_of_ble_eq_true rfl, Nat.le_of_ble_eq_true rfl⟩ hE trivial hK hP (ci := 4) (q0 := 0) rfl rfl hl.1 rfl (Nat.le_of_ble_eq_true rfl) dX4_settles_45 ⟨Nat.zero_le _, Nat.zero_le _⟩ hS (fun _ h => h) (fun H1 locs hz hfr hB hS => ?_)
            have hP := hB
            have hP : va_P D vwCl (wN ci am (toS X X.1) kr q0 q1 q2 q3 q4 q5 iw kn (pk X.1) y1_3 y2 y3_4 y4 y5 y6) H1 := hP
            generalize H1 = H at hP hS ⊢
            have hD : va_D (aM am) (wN ci am (toS X X.1) kr q0 q1 q2 q3 q4 q5 iw kn (pk X.1) y1_3 y2 y3_4 y4 y5 y6) := wN_D hI
            refine nv_cv (show -1 = nI 0 - nI 1 from by decide) ?_
            refine mu_V (n := 1) (As := [.int (nI (0) - nI (1))]) (rest := []) ⟨hx, hb, hml, hown, hts⟩ (c_X4_orNone l D ci am (toS X X.1) kr q0 q1 q2 q3 q4 q5 iw kn (pk X.1) y1_3 y2 y3_4 y4 y5 y6 hI (0) (by omega)) gX4_settles_X4_orNone rfl ⟨rfl, rfl⟩ (by decide +kernel) rfl ⟨Nat.le_of_ble_eq_true rfl, Nat.le_of_ble_eq_true rfl⟩ hE trivial hK hP (ci := 4) (q0 := 0) rfl rfl hl.1 rfl (Nat.le_of_ble_eq_true rfl) dX4_settles_48 ⟨Nat.zero_le _, Nat.zero_le _⟩ hS (fun _ h => h) (fun H1 locs hz hfr hB hS => ?_)
            have hP := hB
            have hP : va_P D vwCl (wN ci am ((bk (toS X X.1) (decide (0 < 0)) 3 (nI (0 - 1), (toS X X.1))).2) kr q0 q1 q2 q3 q4 q5 iw kn (pk X.1) y1_3 y2 y3_4 y4 y5 y6) H1 := hP
            generalize H1 = H at hP hS ⊢
            have hD : va_D (aM am) (wN ci am ((bk (toS X X.1) (decide (0 < 0)) 3 (nI (0 - 1), (toS X X.1))).2) kr q0 q1 q2 q3 q4 q5 iw kn (pk X.1) y1_3 y2 y3_4 y4 y5 y6) := wN_D hI
            have hp : p_settles X = ((bk (toS X X.1) (decide (0 < 0)) 3 (nI (0 - 1), (toS X X.1))).1, (bk (toS X X.1) (decide (0 < 0)) 3 (nI (0 - 1), (toS X X.1))).2) := by first | ((exfalso; omega); done) | ((have h9 := frst_eq (P := stl X.1) (n := 41) (k := i) (by omega) (by rw [stl_M]; first | exact c5 | simp [c1, c5, c6]) h_u); simp [p_settles, bk, fl_eq, toS, h9.1, h9.2, c1, c5, c6]; done) | ((have h9 := any_no (P := stl X.1) (n := 41) (fun j hj => h_u j (by omega))); simp [p_settles, bk, fl_eq, toS, h9, c1, c5, c6]; done)
            refine nv_cv (show (bk (toS X X.1) (decide (0 < 0)) 3 (nI (0 - 1), (toS X X.1))).1 = (p_settles X).1 from by rw [hp]) ?_
            exact mu_iret hx hb hr hlocks hS ((by rw [hp]; exact ⟨_, _, _, _, _, _, _, _, _, _, _, _, _, _, _, (by first | exact kOK_bk hkr hkr | exact hkr), hP⟩)) dX4_settles_51
          · refine lv_iload_n hx hb dX4_settles_40 rfl (lv_at hl 0 rfl) ?_
            refine lv_goto (tgt := 45) hx hb dX4_settles_41 (by decide) ?_
            refine mu_V (n := 1) (As := [.int (nI i)]) (rest := [.ref (am 0)]) ⟨hx, hb, hml, hown, hts⟩ (c_X4_putBack l D ci am (toS X (evM (evMn X.1 i))) kr q0 q1 q2 q3 q4 q5 iw kn (pk X.1) y1_3 y2 y3_4 y4 y5 y6 hI (nI (i)) (X.1) (fun _ _ => rfl)) gX4_settles_X4_putBack rfl ⟨rfl, rfl⟩ (by decide +kernel) rfl ⟨Nat.le_of_ble_eq_true rfl, Nat.le_of_ble_eq_true rfl⟩ hE trivial hK hP (ci := 4) (q0 := 0) rfl rfl hl.1 rfl (Nat.le_of_ble_eq_true rfl) dX4_settles_45 ⟨Nat.zero_le _, Nat.zero_le _⟩ hS (fun _ h => h) (fun H1 locs hz hfr hB hS => ?_)
            have hP := hB
            have hP : va_P D vwCl (wN ci am (toS X X.1) kr q0 q1 q2 q3 q4 q5 iw kn (pk X.1) y1_3 y2 y3_4 y4 y5 y6) H1 := hP
            generalize H1 = H at hP hS ⊢
            have hD : va_D (aM am) (wN ci am (toS X X.1) kr q0 q1 q2 q3 q4 q5 iw kn (pk X.1) y1_3 y2 y3_4 y4 y5 y6) := wN_D hI
            refine nv_cv (show nI (i) = nI (i + 1) - nI 1 from (nI_pred _).symm) ?_
            refine mu_V (n := 1) (As := [.int (nI (i + 1) - nI (1))]) (rest := []) ⟨hx, hb, hml, hown, hts⟩ (c_X4_orNone l D ci am (toS X X.1) kr q0 q1 q2 q3 q4 q5 iw kn (pk X.1) y1_3 y2 y3_4 y4 y5 y6 hI (i + 1) (by omega)) gX4_settles_X4_orNone rfl ⟨rfl, rfl⟩ (by decide +kernel) rfl ⟨Nat.le_of_ble_eq_true rfl, Nat.le_of_ble_eq_true rfl⟩ hE trivial hK hP (ci := 4) (q0 := 0) rfl rfl hl.1 rfl (Nat.le_of_ble_eq_true rfl) dX4_settles_48 ⟨Nat.zero_le _, Nat.zero_le _⟩ hS (fun _ h => h) (fun H1 locs hz hfr hB hS => ?_)
            have hP := hB
            have hP : va_P D vwCl (wN ci am ((bk (toS X X.1) (decide (0 < (i + 1))) 3 (nI ((i + 1) - 1), (toS X X.1))).2) kr q0 q1 q2 q3 q4 q5 iw kn (pk X.1) y1_3 y2 y3_4 y4 y5 y6) H1 := hP
            generalize H1 = H at hP hS ⊢
            have hD : va_D (aM am) (wN ci am ((bk (toS X X.1) (decide (0 < (i + 1))) 3 (nI ((i + 1) - 1), (toS X X.1))).2) kr q0 q1 q2 q3 q4 q5 iw kn (pk X.1) y1_3 y2 y3_4 y4 y5 y6) := wN_D hI
            have hp : p_settles X = ((bk (toS X X.1) (decide (0 < (i + 1))) 3 (nI ((i + 1) - 1), (toS X X.1))).1, (bk (toS X X.1) (decide (0 < (i + 1))) 3 (nI ((i + 1) - 1), (toS X X.1))).2) := by first | ((exfalso; omega); done) | ((have h9 := frst_eq (P := stl X.1) (n := 41) (k := i) (by omega) (by rw [stl_M]; first | exact c5 | simp [c1, c5, c6]) h_u); simp [p_settles, bk, fl_eq, toS, h9.1, h9.2, c1, c5, c6]; done) | ((have h9 := any_no (P := stl X.1) (n := 41) (fun j hj => h_u j (by omega))); simp [p_settles, bk, fl_eq, toS, h9, c1, c5, c6]; done)
            refine nv_cv (show (bk (toS X X.1) (decide (0 < (i + 1))) 3 (nI ((i + 1) - 1), (toS X X.1))).1 = (p_settles X).1 from by rw [hp]) ?_
            exact mu_iret hx hb hr hlocks hS ((by rw [hp]; exact ⟨_, _, _, _, _, _, _, _, _, _, _, _, _, _, _, (by first | exact kOK_bk hkr hkr | exact hkr), hP⟩)) dX4_settles_51
        · refine nv_iinc1 (lv' := [(1, .int (nI (i + 1))), (0, .ref (am 0))]) hx hb dX4_settles_26 hl (k := 0) rfl (by decide) rfl (fun ls hl => ?_)
          refine lv_goto (tgt := 13) hx hb dX4_settles_29 (by decide) ?_
          exact ih13 (i + 1) (by omega) (by omega) (all_f h_u (by rw [stl_M]; exact c5)) (nI (i + 1)) rfl (y1_3) (y3_4) _ _ (va_P.re (by rfl) hP) hS ls (lv_sub hl [0, 1] rfl)
  exact L13 _ (0) (Nat.lt_succ_self _) (by omega) (fun _ h => absurd h (Nat.not_lt_zero _)) (nI (0)) rfl (y1) (y3) _ _ (va_P.re (by rfl) hP) hS ls (lv_sub hl [0, 1] rfl)
