/-! walks laid by program -/
set_option maxHeartbeats 4000000 in
set_option maxRecDepth 100000 in
/-- X4_lacks -/
theorem c_X4_lacks (l : Launch) (D : va_G) (ci : Nat → ClassId) (am : Nat → Nat) (X : AS) (kr : Nat → Int32) (q0 q1 q2 q3 q4 q5 : Int32) (iw : Bool) (kn : Nat → Option Nat) (y0 y1 y2 y3 y4 y5 y6 : Nat → Int32) (x : Int32) (hWF : WF X.1) (hWX : WFX X) : Met l yX4_lacks wsX4_lacks ({ frames := 2, cells := 0, slots := 0, locals := 42 } : Room) (va_Pc [.ref (am 0), .int (x)] (ro_B D (tyL ci) (wN ci am X kr q0 q1 q2 q3 q4 q5 iw kn y0 y1 y2 y3 y4 y5 y6) (enT))) (ro_Q (some (.int (lkm (lackN X x))))) 0 0 (fun _ => False) := by
  refine ro_Met (cc := cX4_lacks) (maxL := 2) (ret := (some .int)) [(0, .ref (am 0)), (1, .int (x))] (by decide) rfl (Nat.le_of_ble_eq_true rfl) rfl ?_
  intro p e s m below meth c hx hb hml hr hlocks hts hown hP hK hs ls hl
  have hown : s.vm.findClass RX4 = some m.cls := hown
  have hinX4 : ∀ w ∈ wsX40, w ∈ wsX4_lacks := by decide +kernel
  have hE := hE_T
  have f_n := hWF.n
  refine lv_iload_n hx hb dX4_lacks_0 rfl (lv_at hl 1 rfl) ?_
  refine ro_S (n := 1) (As := [.int (x)]) (rest := []) ⟨hx, hb, hml, hown, hts⟩ (c_X4_isSheet l D ci (wN ci am X kr q0 q1 q2 q3 q4 q5 iw kn y0 y1 y2 y3 y4 y5 y6) (x) ) gX4_lacks_X4_isSheet rfl ⟨rfl, rfl⟩ (by decide +kernel) rfl ⟨Nat.le_of_ble_eq_true rfl, Nat.le_of_ble_eq_true rfl⟩ hE hs hK hP hl.1 rfl (Nat.le_of_ble_eq_true rfl) dX4_lacks_1 ⟨Nat.zero_le _, Nat.zero_le _⟩ ?_
  refine nv_ifne_b (tgt := 12) hx hb dX4_lacks_4 (by decide) (fun c1 => ?_) (fun c1 => ?_)
  · obtain ⟨xn, h_xn, rfl⟩ := in_ex c1 (by omega)
    have t_xn : tn (nI xn) = xn := tn_nI (by omega)
    have f2 := hWX.sl xn
    have f3 := sb_lt hWX xn
    refine lv_aload_n hx hb dX4_lacks_12 rfl (lv_at hl 0 rfl) ?_
    refine va_get (D := D) (ci := 4) (v := .ref (am 12)) (C := RX4) (T := TX4) (N := 24) hx hb hts hinX4 hown hK hP 0 rfl rfl 20 (by decide) (hts (.fieldLink RX4 60 "OneShortModel" "widths" "[I") (List.mem_of_getElem? (i := 2) rfl)) (fun _ h9 => h9) rfl dX4_lacks_13 ?_
    refine lv_iload_n hx hb dX4_lacks_16 rfl (lv_at hl 1 rfl) ?_
    refine nv_iald (v := nI (X.2.2.2.2.2.2.1 (xn))) hx hb hK hP 12 0 rfl rfl (by omega) (by decide) rfl dX4_lacks_17 ?_
    refine nv_ifne (tgt := 26) hx hb (by omega) dX4_lacks_18 (by decide) (fun c4 => ?_) (fun c4 => ?_)
    · refine lv_iconst (v := nI (0)) hx hb dX4_lacks_26 (by decide) ?_
      refine nv_cv (show nI (0) = lkm (lackN X (nI xn)) from by first | (simp [lackN, lkm, fnd_0, fnd_5, c1, c4, t_xn]; done) | (simp [lackN, lkm, fnd_0, fnd_5, c1, c4, t_xn]; rfl)) ?_
      exact ro_iret hx hb hr hlocks dX4_lacks_27
    · refine lv_ldc (v := -1000006) hx hb hown (hts (.constant RX4 232 (-1000006)) (List.mem_of_getElem? (i := 3) rfl)) dX4_lacks_21 ?_
      refine lv_goto (tgt := 27) hx hb dX4_lacks_23 (by decide) ?_
      refine nv_cv (show -1000006 = lkm (lackN X (nI xn)) from by first | (simp [lackN, lkm, fnd_0, fnd_5, c1, c4, t_xn]; done) | (simp [lackN, lkm, fnd_0, fnd_5, c1, c4, t_xn]; rfl)) ?_
      exact ro_iret hx hb hr hlocks dX4_lacks_27
  · refine lv_ldc (v := -1000001) hx hb hown (hts (.constant RX4 72 (-1000001)) (List.mem_of_getElem? (i := 1) rfl)) dX4_lacks_7 ?_
    refine lv_goto (tgt := 27) hx hb dX4_lacks_9 (by decide) ?_
    refine nv_cv (show -1000001 = lkm (lackN X x) from by first | (simp [lackN, lkm, fnd_0, fnd_5, c1]; done) | (simp [lackN, lkm, fnd_0, fnd_5, c1]; rfl)) ?_
    exact ro_iret hx hb hr hlocks dX4_lacks_27

set_option maxHeartbeats 4000000 in
set_option maxRecDepth 100000 in
/-- X4_wentSo -/
theorem c_X4_wentSo (l : Launch) (D : va_G) (ci : Nat → ClassId) (am : Nat → Nat) (X : AS) (kr : Nat → Int32) (q0 q1 q2 q3 q4 q5 : Int32) (iw : Bool) (kn : Nat → Option Nat) (y0 y1 y2 y3 y4 y5 y6 : Nat → Int32) (hI : injA am 16) (k u : Nat) (hWF : WF X.1) (h_k : k < 4) (h_u : u < 8) (h_8 : X.1 8 0 ≤ 99999) (h_l : X.2.2.2.2.2.2.2.1 k ≤ 40) : Met l yX4_wentSo wsX4_wentSo ({ frames := 9, cells := 0, slots := 0, locals := 206 } : Room) (va_Pc [.ref (am 0), .int (nI k), .int (nI u)] (ro_B D (tyL ci) (wN ci am X kr q0 q1 q2 q3 q4 q5 iw kn y0 y1 y2 y3 y4 y5 y6) (enT))) (mu_Q (aM am) (some (.int (bI (goA X.1 (X.2.2.2.2.2.2.2.1 k) (X.2.2.2.2.2.2.2.2 k) u)))) (fun H => ∃ (y0 : Nat → Int32) (y1 : Nat → Int32), va_P D vwCl (wN ci am X kr q0 q1 q2 q3 q4 q5 iw kn y0 y1 y2 y3 y4 y5 y6) H)) 0 0 (aM am) := by
  refine mu_Met (cc := cX4_wentSo) (maxL := 6) (ret := (some .boolean)) [(0, .ref (am 0)), (1, .int (nI k)), (2, .int (nI u))] (wN_D hI) (by decide) rfl (Nat.le_of_ble_eq_true rfl) rfl ?_
  intro p e s m below meth c H locs hx hb hml hr hlocks hts hown hP hK hs0 hD hS ls hl
  have hown : s.vm.findClass RX4 = some m.cls := hown
  have hinX4 : ∀ w ∈ wsX40, w ∈ wsX4_wentSo := by decide +kernel
  have hE := hE_T
  have f_n := hWF.n
  refine lv_aload_n hx hb dX4_wentSo_0 rfl (lv_at hl 0 rfl) ?_
  refine va_get (D := D) (ci := 4) (v := .ref (am 1)) (C := RX4) (T := TX4) (N := 24) hx hb hts hinX4 hown hK hP 0 rfl rfl 0 (by decide) (hts (.fieldLink RX4 9 "OneShortModel" "now" "[I") (List.mem_of_getElem? (i := 1) rfl)) (fun _ h9 => h9) rfl dX4_wentSo_1 ?_
  refine lv_aload_n hx hb dX4_wentSo_4 rfl (lv_at hl 0 rfl) ?_
  refine va_get (D := D) (ci := 4) (v := .ref (am 3)) (C := RX4) (T := TX4) (N := 24) hx hb hts hinX4 hown hK hP 0 rfl rfl 2 (by decide) (hts (.fieldLink RX4 16 "OneShortModel" "aside" "[I") (List.mem_of_getElem? (i := 2) rfl)) (fun _ h9 => h9) rfl dX4_wentSo_5 ?_
  refine mu_S (n := 2) (As := [.ref (am 1), .ref (am 3)]) (rest := []) ⟨hx, hb, hml, hown, hts⟩ (c_X4_copyRow l D ci (am 1) (am 3) (pk X.1) (y0) (am_ne hI (by decide) (by decide) (by decide))) gX4_wentSo_X4_copyRow rfl ⟨rfl, rfl⟩ (by decide +kernel) rfl ⟨Nat.le_of_ble_eq_true rfl, Nat.le_of_ble_eq_true rfl⟩ hE trivial hK (va_P2 (k := 1) (k2 := 3) hP rfl rfl) hl.1 rfl (Nat.le_of_ble_eq_true rfl) dX4_wentSo_8 ⟨Nat.zero_le _, Nat.zero_le _⟩ hS (fun q h => h.elim (aM_m (k := 1) (by decide) q) (aM_m (k := 3) (by decide) q)) (fun H1 locs hz hfr hB hS => ?_)
  have hP : va_P D vwCl (wN ci am X kr q0 q1 q2 q3 q4 q5 iw kn (pk X.1) y1 y2 y3 y4 y5 y6) H1 := wN_c13 hI hP hfr hB
  generalize H1 = H at hP hS ⊢
  have hD : va_D (aM am) (wN ci am X kr q0 q1 q2 q3 q4 q5 iw kn (pk X.1) y1 y2 y3 y4 y5 y6) := wN_D hI
  refine lv_iconst (v := nI (1)) hx hb dX4_wentSo_11 (by decide) ?_
  refine lv_istore_n (lv' := [(3, .int (nI 1)), (0, .ref (am 0)), (1, .int (nI k)), (2, .int (nI u))]) hx hb dX4_wentSo_12 rfl hl (by decide) rfl (fun ls hl => ?_)
  refine lv_iconst (v := nI (0)) hx hb dX4_wentSo_13 (by decide) ?_
  refine lv_istore (lv' := [(4, .int (nI 0)), (3, .int (nI 1)), (0, .ref (am 0)), (1, .int (nI k)), (2, .int (nI u))]) hx hb dX4_wentSo_14 hl (by decide) rfl (fun ls hl => ?_)
  have L16 : ∀ (k16 : Nat) (i : Nat), X.2.2.2.2.2.2.2.1 k - i < k16 → (i ≤ X.2.2.2.2.2.2.2.1 k) → ∀ (x3 : Int32), ∀ (x4 : Int32), x3 = bI (!anyTo (badA X.1 (X.2.2.2.2.2.2.2.2 k) u) (i)) → x4 = nI (i) → ∀ (y1 : Nat → Int32), ∀ (H : Heap) (locs : List Loc), va_P D vwCl (wN ci am (toS X (evMn X.1 i)) kr q0 q1 q2 q3 q4 q5 iw kn (pk X.1) y1 y2 y3 y4 y5 y6) H → va_S (aM am) s.heap H locs → ∀ ls : Array Slot, lv_has ls 6 [(3, .int (x3)), (4, .int (x4)), (0, .ref (am 0)), (1, .int (nI k)), (2, .int (nI u))] → W p l e (headSpec wsX4_wentSo ({ frames := 9, cells := 0, slots := 0, locals := 206 } : Room)).room s m ([.ref (am 0), .int (nI k), .int (nI u)] : List Value).toArray below meth c H locs 0 0 (MQ below (mu_Q (aM am) (some (.int (bI (goA X.1 (X.2.2.2.2.2.2.2.1 k) (X.2.2.2.2.2.2.2.2 k) u)))) (fun H => ∃ (y0 : Nat → Int32) (y1 : Nat → Int32), va_P D vwCl (wN ci am X kr q0 q1 q2 q3 q4 q5 iw kn y0 y1 y2 y3 y4 y5 y6) H)) ([.ref (am 0), .int (nI k), .int (nI u)] : List Value).toArray s 0 0 (aM am)) (F0 m 16 ls []) := by
    intro k16
    induction k16 with
    | zero => intro i h0; exact absurd h0 (Nat.not_lt_zero _)
    | succ k16 ih16 =>
      intro i hk16 h_i x3 x4 e3 e4 y1 H locs hP hS ls hl
      subst e3
      subst e4
      have hD : va_D (aM am) (wN ci am (toS X (evMn X.1 i)) kr q0 q1 q2 q3 q4 q5 iw kn (pk X.1) y1 y2 y3 y4 y5 y6) := wN_D hI
      have hWFi := WF_evMn hWF i (by omega)
      have f_8 := evMn_8 X.1 i
      have f_5 := (WF_evCn hWF i).f5 u
      refine lv_iload hx hb dX4_wentSo_16 (lv_at hl 1 rfl) ?_
      refine lv_aload_n hx hb dX4_wentSo_18 rfl (lv_at hl 2 rfl) ?_
      refine va_get (D := D) (ci := 4) (v := .ref (am 13)) (C := RX4) (T := TX4) (N := 24) hx hb hts hinX4 hown hK hP 0 rfl rfl 21 (by decide) (hts (.fieldLink RX4 63 "OneShortModel" "sizes" "[I") (List.mem_of_getElem? (i := 3) rfl)) (fun _ h9 => h9) rfl dX4_wentSo_19 ?_
      refine lv_iload_n hx hb dX4_wentSo_22 rfl (lv_at hl 3 rfl) ?_
      refine nv_iald (v := nI (X.2.2.2.2.2.2.2.1 (k))) hx hb hK hP 13 0 rfl rfl (by omega) (by decide) rfl dX4_wentSo_23 ?_
      refine nv_icmp_ge (tgt := 78) hx hb (by omega) (by omega) dX4_wentSo_24 (by decide) (fun c1 => ?_) (fun c1 => ?_)
      · refine lv_aload_n hx hb dX4_wentSo_78 rfl (lv_at hl 2 rfl) ?_
        refine va_get (D := D) (ci := 4) (v := .ref (am 3)) (C := RX4) (T := TX4) (N := 24) hx hb hts hinX4 hown hK hP 0 rfl rfl 2 (by decide) (hts (.fieldLink RX4 16 "OneShortModel" "aside" "[I") (List.mem_of_getElem? (i := 2) rfl)) (fun _ h9 => h9) rfl dX4_wentSo_79 ?_
        refine lv_aload_n hx hb dX4_wentSo_82 rfl (lv_at hl 2 rfl) ?_
        refine va_get (D := D) (ci := 4) (v := .ref (am 1)) (C := RX4) (T := TX4) (N := 24) hx hb hts hinX4 hown hK hP 0 rfl rfl 0 (by decide) (hts (.fieldLink RX4 9 "OneShortModel" "now" "[I") (List.mem_of_getElem? (i := 1) rfl)) (fun _ h9 => h9) rfl dX4_wentSo_83 ?_
        refine mu_S (n := 2) (As := [.ref (am 3), .ref (am 1)]) (rest := []) ⟨hx, hb, hml, hown, hts⟩ (c_X4_copyRow l D ci (am 3) (am 1) ((pk X.1)) (pk (evMn X.1 i)) (am_ne hI (by decide) (by decide) (by decide))) gX4_wentSo_X4_copyRow rfl ⟨rfl, rfl⟩ (by decide +kernel) rfl ⟨Nat.le_of_ble_eq_true rfl, Nat.le_of_ble_eq_true rfl⟩ hE trivial hK (va_P2 (k := 3) (k2 := 1) hP rfl rfl) hl.1 rfl (Nat.le_of_ble_eq_true rfl) dX4_wentSo_86 ⟨Nat.zero_le _, Nat.zero_le _⟩ hS (fun q h => h.elim (aM_m (k := 3) (by decide) q) (aM_m (k := 1) (by decide) q)) (fun H1 locs hz hfr hB hS => ?_)
        have hP : va_P D vwCl (wN ci am (toS X X.1) kr q0 q1 q2 q3 q4 q5 iw kn (pk X.1) y1 y2 y3 y4 y5 y6) H1 := wN_c31 (X := toS X (evMn X.1 i)) (S0 := X.1) (fun _ _ => rfl) hI hP hfr hB
        generalize H1 = H at hP hS ⊢
        have hD : va_D (aM am) (wN ci am (toS X X.1) kr q0 q1 q2 q3 q4 q5 iw kn (pk X.1) y1 y2 y3 y4 y5 y6) := wN_D hI
        refine lv_iload_n hx hb dX4_wentSo_89 rfl (lv_at hl 0 rfl) ?_
        refine nv_cv (show bI (!anyTo (badA X.1 (X.2.2.2.2.2.2.2.2 k) u) (i)) = bI (goA X.1 (X.2.2.2.2.2.2.2.1 k) (X.2.2.2.2.2.2.2.2 k) u) from congrArg bI (goA_end h_i (by first | exact Or.inr rfl | exact Or.inl (by omega)))) ?_
        exact mu_zret hx hb hr hlocks hS (⟨_, _, hP⟩) dX4_wentSo_90
      · refine lv_iload_n hx hb dX4_wentSo_27 rfl (lv_at hl 0 rfl) ?_
        refine nv_ifeq_b (tgt := 78) hx hb dX4_wentSo_28 (by decide) (fun c2 => ?_) (fun c2 => ?_)
        · refine lv_aload_n hx hb dX4_wentSo_78 rfl (lv_at hl 2 rfl) ?_
          refine va_get (D := D) (ci := 4) (v := .ref (am 3)) (C := RX4) (T := TX4) (N := 24) hx hb hts hinX4 hown hK hP 0 rfl rfl 2 (by decide) (hts (.fieldLink RX4 16 "OneShortModel" "aside" "[I") (List.mem_of_getElem? (i := 2) rfl)) (fun _ h9 => h9) rfl dX4_wentSo_79 ?_
          refine lv_aload_n hx hb dX4_wentSo_82 rfl (lv_at hl 2 rfl) ?_
          refine va_get (D := D) (ci := 4) (v := .ref (am 1)) (C := RX4) (T := TX4) (N := 24) hx hb hts hinX4 hown hK hP 0 rfl rfl 0 (by decide) (hts (.fieldLink RX4 9 "OneShortModel" "now" "[I") (List.mem_of_getElem? (i := 1) rfl)) (fun _ h9 => h9) rfl dX4_wentSo_83 ?_
          refine mu_S (n := 2) (As := [.ref (am 3), .ref (am 1)]) (rest := []) ⟨hx, hb, hml, hown, hts⟩ (c_X4_copyRow l D ci (am 3) (am 1) ((pk X.1)) (pk (evMn X.1 i)) (am_ne hI (by decide) (by decide) (by decide))) gX4_wentSo_X4_copyRow rfl ⟨rfl, rfl⟩ (by decide +kernel) rfl ⟨Nat.le_of_ble_eq_true rfl, Nat.le_of_ble_eq_true rfl⟩ hE trivial hK (va_P2 (k := 3) (k2 := 1) hP rfl rfl) hl.1 rfl (Nat.le_of_ble_eq_true rfl) dX4_wentSo_86 ⟨Nat.zero_le _, Nat.zero_le _⟩ hS (fun q h => h.elim (aM_m (k := 3) (by decide) q) (aM_m (k := 1) (by decide) q)) (fun H1 locs hz hfr hB hS => ?_)
          have hP : va_P D vwCl (wN ci am (toS X X.1) kr q0 q1 q2 q3 q4 q5 iw kn (pk X.1) y1 y2 y3 y4 y5 y6) H1 := wN_c31 (X := toS X (evMn X.1 i)) (S0 := X.1) (fun _ _ => rfl) hI hP hfr hB
          generalize H1 = H at hP hS ⊢
          have hD : va_D (aM am) (wN ci am (toS X X.1) kr q0 q1 q2 q3 q4 q5 iw kn (pk X.1) y1 y2 y3 y4 y5 y6) := wN_D hI
          refine lv_iload_n hx hb dX4_wentSo_89 rfl (lv_at hl 0 rfl) ?_
          refine nv_cv (show bI (!anyTo (badA X.1 (X.2.2.2.2.2.2.2.2 k) u) (i)) = bI (goA X.1 (X.2.2.2.2.2.2.2.1 k) (X.2.2.2.2.2.2.2.2 k) u) from congrArg bI (goA_end h_i (by first | exact Or.inr c2 | exact Or.inl (by omega)))) ?_
          exact mu_zret hx hb hr hlocks hS (⟨_, _, hP⟩) dX4_wentSo_90
        · refine lv_aload_n hx hb dX4_wentSo_31 rfl (lv_at hl 2 rfl) ?_
          refine va_get (D := D) (ci := 4) (v := .ref (am 14)) (C := RX4) (T := TX4) (N := 24) hx hb hts hinX4 hown hK hP 0 rfl rfl 22 (by decide) (hts (.fieldLink RX4 66 "OneShortModel" "numbers" "[I") (List.mem_of_getElem? (i := 4) rfl)) (fun _ h9 => h9) rfl dX4_wentSo_32 ?_
          refine lv_bipush (v := nI (40)) hx hb dX4_wentSo_35 (by decide) ?_
          refine lv_iload_n hx hb dX4_wentSo_37 rfl (lv_at hl 3 rfl) ?_
          refine nv_imul hx hb dX4_wentSo_38 ?_
          refine lv_iload hx hb dX4_wentSo_39 (lv_at hl 1 rfl) ?_
          refine nv_iadd hx hb dX4_wentSo_41 ?_
          refine nv_iald (v := X.2.2.2.2.2.2.2.2 k i) hx hb hK hP 14 0 rfl rfl (by omega) (by decide) (sn_at X.2.2.2.2.2.2.2.2 k (by omega)) dX4_wentSo_42 ?_
          refine lv_istore (lv' := [(5, .int (X.2.2.2.2.2.2.2.2 k i)), (3, .int (bI (!anyTo (badA X.1 (X.2.2.2.2.2.2.2.2 k) u) (i)))), (4, .int (nI i)), (0, .ref (am 0)), (1, .int (nI k)), (2, .int (nI u))]) hx hb dX4_wentSo_43 hl (by decide) rfl (fun ls hl => ?_)
          refine lv_iload hx hb dX4_wentSo_45 (lv_at hl 0 rfl) ?_
          refine lv_iconst (v := -1) hx hb dX4_wentSo_47 (by decide) ?_
          refine lv_icmp_eq (tgt := 62) hx hb dX4_wentSo_48 (by decide) (fun c3 => ?_) (fun c3 => ?_)
          · refine lv_iconst (v := nI (1)) hx hb dX4_wentSo_62 (by decide) ?_
            refine lv_goto (tgt := 67) hx hb dX4_wentSo_63 (by decide) ?_
            refine lv_istore_n (lv' := [(3, .int (nI 1)), (5, .int (X.2.2.2.2.2.2.2.2 k i)), (4, .int (nI i)), (0, .ref (am 0)), (1, .int (nI k)), (2, .int (nI u))]) hx hb dX4_wentSo_67 rfl hl (by decide) rfl (fun ls hl => ?_)
            refine lv_aload_n hx hb dX4_wentSo_68 rfl (lv_at hl 3 rfl) ?_
            refine mu_V (n := 0) (As := []) (rest := []) ⟨hx, hb, hml, hown, hts⟩ (c_X4_evening l D ci am (toS X (evMn X.1 i)) kr q0 q1 q2 q3 q4 q5 iw kn (pk X.1) y1 y2 y3 y4 y5 y6 hI  hWFi (show evMn X.1 i 8 0 < 199999 by omega)) gX4_wentSo_X4_evening rfl ⟨rfl, rfl⟩ (by decide +kernel) rfl ⟨Nat.le_of_ble_eq_true rfl, Nat.le_of_ble_eq_true rfl⟩ hE trivial hK hP (ci := 4) (q0 := 0) rfl rfl hl.1 rfl (Nat.le_of_ble_eq_true rfl) dX4_wentSo_69 ⟨Nat.zero_le _, Nat.zero_le _⟩ hS (fun _ h => h) (fun H1 locs hz hfr hB hS => ?_)
            obtain ⟨y1_4, hP⟩ := hB
            have hP : va_P D vwCl (wN ci am (toS X (evM (evMn X.1 i))) kr q0 q1 q2 q3 q4 q5 iw kn (pk X.1) y1_4 y2 y3 y4 y5 y6) H1 := hP
            generalize H1 = H at hP hS ⊢
            have hD : va_D (aM am) (wN ci am (toS X (evM (evMn X.1 i))) kr q0 q1 q2 q3 q4 q5 iw kn (pk X.1) y1_4 y2 y3 y4 y5 y6) := wN_D hI
            refine nv_iinc1 (lv' := [(4, .int (nI (i + 1))), (3, .int (nI 1)), (5, .int (X.2.2.2.2.2.2.2.2 k i)), (0, .ref (am 0)), (1, .int (nI k)), (2, .int (nI u))]) hx hb dX4_wentSo_72 hl (k := 2) rfl (by decide) rfl (fun ls hl => ?_)
            refine lv_goto (tgt := 16) hx hb dX4_wentSo_75 (by decide) ?_
            exact ih16 (i + 1) (by omega) (by omega) (nI (1)) (nI (i + 1)) (by first | exact nv_t (bad_step c2 (badA_1 c3)) | exact nv_t (bad_step c2 (badA_2 rfl)) | exact nv_f (bad_stop (badA_t c3 rfl))) rfl (y1_4) _ _ (va_P.re (by rfl) hP) hS ls (lv_sub hl [1, 0, 3, 4, 5] rfl)
          · refine lv_iload hx hb dX4_wentSo_51 (lv_at hl 0 rfl) ?_
            refine lv_aload_n hx hb dX4_wentSo_53 rfl (lv_at hl 3 rfl) ?_
            refine lv_iload_n hx hb dX4_wentSo_54 rfl (lv_at hl 5 rfl) ?_
            refine lv_iconst (v := nI (4)) hx hb dX4_wentSo_55 (by decide) ?_
            refine ro_V (n := 2) (As := [.int (nI u), .int (nI 4)]) (rest := [.int (X.2.2.2.2.2.2.2.2 k i)]) ⟨hx, hb, hml, hown, hts⟩ (c_X4_playerIs l D ci am (toS X (evMn X.1 i)) kr q0 q1 q2 q3 q4 q5 iw kn (pk X.1) y1 y2 y3 y4 y5 y6 (u) (4) hWFi (by omega) (by omega)) gX4_wentSo_X4_playerIs rfl ⟨rfl, rfl⟩ (by decide +kernel) rfl ⟨Nat.le_of_ble_eq_true rfl, Nat.le_of_ble_eq_true rfl⟩ hE trivial hK hP (ci := 4) (q0 := 0) rfl rfl hl.1 rfl (Nat.le_of_ble_eq_true rfl) dX4_wentSo_56 ⟨Nat.zero_le _, Nat.zero_le _⟩ ?_
            refine nv_cv (show nI ((toS X (evMn X.1 i)).1 (4 + 1) u) = nI ((evMn X.1 i) 5 u) from rfl) ?_
            have f5 := hWFi.f5 u
            refine nv_cv (show nI ((evMn X.1 i) 5 u) = nI (evCn X.1 i 5 u) from congrArg nI (evMn_5 X.1 i u)) ?_
            refine lv_icmp_ne (tgt := 66) hx hb dX4_wentSo_59 (by decide) (fun c6 => ?_) (fun c6 => ?_)
            · refine lv_iconst (v := nI (0)) hx hb dX4_wentSo_66 (by decide) ?_
              refine lv_istore_n (lv' := [(3, .int (nI 0)), (5, .int (X.2.2.2.2.2.2.2.2 k i)), (4, .int (nI i)), (0, .ref (am 0)), (1, .int (nI k)), (2, .int (nI u))]) hx hb dX4_wentSo_67 rfl hl (by decide) rfl (fun ls hl => ?_)
              refine lv_aload_n hx hb dX4_wentSo_68 rfl (lv_at hl 3 rfl) ?_
              refine mu_V (n := 0) (As := []) (rest := []) ⟨hx, hb, hml, hown, hts⟩ (c_X4_evening l D ci am (toS X (evMn X.1 i)) kr q0 q1 q2 q3 q4 q5 iw kn (pk X.1) y1 y2 y3 y4 y5 y6 hI  hWFi (show evMn X.1 i 8 0 < 199999 by omega)) gX4_wentSo_X4_evening rfl ⟨rfl, rfl⟩ (by decide +kernel) rfl ⟨Nat.le_of_ble_eq_true rfl, Nat.le_of_ble_eq_true rfl⟩ hE trivial hK hP (ci := 4) (q0 := 0) rfl rfl hl.1 rfl (Nat.le_of_ble_eq_true rfl) dX4_wentSo_69 ⟨Nat.zero_le _, Nat.zero_le _⟩ hS (fun _ h => h) (fun H1 locs hz hfr hB hS => ?_)
              obtain ⟨y1_7, hP⟩ := hB
              have hP : va_P D vwCl (wN ci am (toS X (evM (evMn X.1 i))) kr q0 q1 q2 q3 q4 q5 iw kn (pk X.1) y1_7 y2 y3 y4 y5 y6) H1 := hP
              generalize H1 = H at hP hS ⊢
              have hD : va_D (aM am) (wN ci am (toS X (evM (evMn X.1 i))) kr q0 q1 q2 q3 q4 q5 iw kn (pk X.1) y1_7 y2 y3 y4 y5 y6) := wN_D hI
              refine nv_iinc1 (lv' := [(4, .int (nI (i + 1))), (3, .int (nI 0)), (5, .int (X.2.2.2.2.2.2.2.2 k i)), (0, .ref (am 0)), (1, .int (nI k)), (2, .int (nI u))]) hx hb dX4_wentSo_72 hl (k := 2) rfl (by decide) rfl (fun ls hl => ?_)
              refine lv_goto (tgt := 16) hx hb dX4_wentSo_75 (by decide) ?_
              exact ih16 (i + 1) (by omega) (by omega) (nI (0)) (nI (i + 1)) (by first | exact nv_t (bad_step c2 (badA_1 c3)) | exact nv_t (bad_step c2 (badA_2 c6)) | exact nv_f (bad_stop (badA_t c3 c6))) rfl (y1_7) _ _ (va_P.re (by rfl) hP) hS ls (lv_sub hl [1, 0, 3, 4, 5] rfl)
            · refine lv_iconst (v := nI (1)) hx hb dX4_wentSo_62 (by decide) ?_
              refine lv_goto (tgt := 67) hx hb dX4_wentSo_63 (by decide) ?_
              refine lv_istore_n (lv' := [(3, .int (nI 1)), (5, .int (X.2.2.2.2.2.2.2.2 k i)), (4, .int (nI i)), (0, .ref (am 0)), (1, .int (nI k)), (2, .int (nI u))]) hx hb dX4_wentSo_67 rfl hl (by decide) rfl (fun ls hl => ?_)
              refine lv_aload_n hx hb dX4_wentSo_68 rfl (lv_at hl 3 rfl) ?_
              refine mu_V (n := 0) (As := []) (rest := []) ⟨hx, hb, hml, hown, hts⟩ (c_X4_evening l D ci am (toS X (evMn X.1 i)) kr q0 q1 q2 q3 q4 q5 iw kn (pk X.1) y1 y2 y3 y4 y5 y6 hI  hWFi (show evMn X.1 i 8 0 < 199999 by omega)) gX4_wentSo_X4_evening rfl ⟨rfl, rfl⟩ (by decide +kernel) rfl ⟨Nat.le_of_ble_eq_true rfl, Nat.le_of_ble_eq_true rfl⟩ hE trivial hK hP (ci := 4) (q0 := 0) rfl rfl hl.1 rfl (Nat.le_of_ble_eq_true rfl) dX4_wentSo_69 ⟨Nat.zero_le _, Nat.zero_le _⟩ hS (fun _ h => h) (fun H1 locs hz hfr hB hS => ?_)
              obtain ⟨y1_8, hP⟩ := hB
              have hP : va_P D vwCl (wN ci am (toS X (evM (evMn X.1 i))) kr q0 q1 q2 q3 q4 q5 iw kn (pk X.1) y1_8 y2 y3 y4 y5 y6) H1 := hP
              generalize H1 = H at hP hS ⊢
              have hD : va_D (aM am) (wN ci am (toS X (evM (evMn X.1 i))) kr q0 q1 q2 q3 q4 q5 iw kn (pk X.1) y1_8 y2 y3 y4 y5 y6) := wN_D hI
              refine nv_iinc1 (lv' := [(4, .int (nI (i + 1))), (3, .int (nI 1)), (5, .int (X.2.2.2.2.2.2.2.2 k i)), (0, .ref (am 0)), (1, .int (nI k)), (2, .int (nI u))]) hx hb dX4_wentSo_72 hl (k := 2) rfl (by decide) rfl (fun ls hl => ?_)
              refine lv_goto (tgt := 16) hx hb dX4_wentSo_75 (by decide) ?_
              exact ih16 (i + 1) (by omega) (by omega) (nI (1)) (nI (i + 1)) (by first | exact nv_t (bad_step c2 (badA_1 c3)) | exact nv_t (bad_step c2 (badA_2 c6)) | exact nv_f (bad_stop (badA_t c3 c6))) rfl (y1_8) _ _ (va_P.re (by rfl) hP) hS ls (lv_sub hl [1, 0, 3, 4, 5] rfl)
  exact L16 _ (0) (Nat.lt_succ_self _) (by omega) (nI (1)) (nI (0)) (nv_t rfl) rfl (y1) _ _ (va_P.re (by rfl) hP) hS ls (lv_sub hl [1, 0, 2, 3, 4] rfl)

set_option maxHeartbeats 4000000 in
set_option maxRecDepth 100000 in
/-- X4_fitting -/
theorem c_X4_fitting_part (l : Launch) (D : va_G) (ci : Nat → ClassId) (am : Nat → Nat) (X : AS) (kr : Nat → Int32) (q0 q1 q2 q3 q4 q5 : Int32) (iw : Bool) (kn : Nat → Option Nat) (y0 y1 y2 y3 y4 y5 y6 : Nat → Int32) (hI : injA am 16) (k u : Nat) (hWF : WF X.1) (h_k : k < 4) (h_u : u < 8) (h_8 : X.1 8 0 ≤ 99999) (h_l : X.2.2.2.2.2.2.2.1 k ≤ 40) : Met l yX4_fitting wsX4_fitting ({ frames := 10, cells := 0, slots := 0, locals := 231 } : Room) (va_Pc [.ref (am 0), .int (nI k), .int (nI u), .int (nI 2), .int (nI 6)] (ro_B D (tyL ci) (wN ci am X kr q0 q1 q2 q3 q4 q5 iw kn y0 y1 y2 y3 y4 y5 y6) (enT))) (mu_Q (aM am) (some (.int (nI (setTo (fun v => goA (st X.1 3 u v) (X.2.2.2.2.2.2.2.1 k) (X.2.2.2.2.2.2.2.2 k) u) 6)))) (fun H => ∃ (y0 : Nat → Int32) (y1 : Nat → Int32), va_P D vwCl (wN ci am X kr q0 q1 q2 q3 q4 q5 iw kn y0 y1 y2 y3 y4 y5 y6) H)) 0 0 (aM am) := by
  refine mu_Met (cc := cX4_fitting) (maxL := 8) (ret := (some .int)) [(0, .ref (am 0)), (1, .int (nI k)), (2, .int (nI u)), (3, .int (nI 2)), (4, .int (nI 6))] (wN_D hI) (by decide) rfl (Nat.le_of_ble_eq_true rfl) rfl ?_
  intro p e s m below meth c H locs hx hb hml hr hlocks hts hown hP hK hs0 hD hS ls hl
  have hown : s.vm.findClass RX4 = some m.cls := hown
  have hinX4 : ∀ w ∈ wsX40, w ∈ wsX4_fitting := by decide +kernel
  have hE := hE_T
  have f_n := hWF.n
  refine lv_aload_n hx hb dX4_fitting_0 rfl (lv_at hl 0 rfl) ?_
  refine lv_iload_n hx hb dX4_fitting_1 rfl (lv_at hl 2 rfl) ?_
  refine lv_iload_n hx hb dX4_fitting_2 rfl (lv_at hl 3 rfl) ?_
  refine ro_V (n := 2) (As := [.int (nI u), .int (nI 2)]) (rest := []) ⟨hx, hb, hml, hown, hts⟩ (c_X4_playerIs l D ci am X kr q0 q1 q2 q3 q4 q5 iw kn y0 y1 y2 y3 y4 y5 y6 (u) (2) hWF (by omega) (by omega)) gX4_fitting_X4_playerIs rfl ⟨rfl, rfl⟩ (by decide +kernel) rfl ⟨Nat.le_of_ble_eq_true rfl, Nat.le_of_ble_eq_true rfl⟩ hE trivial hK hP (ci := 4) (q0 := 0) rfl rfl hl.1 rfl (Nat.le_of_ble_eq_true rfl) dX4_fitting_3 ⟨Nat.zero_le _, Nat.zero_le _⟩ ?_
  refine nv_cv (show nI (X.1 (2 + 1) u) = nI (X.1 3 u) from rfl) ?_
  have f1 := hWF.f3 u
  refine lv_istore (lv' := [(5, .int (nI (X.1 3 u))), (0, .ref (am 0)), (1, .int (nI k)), (2, .int (nI u)), (3, .int (nI 2)), (4, .int (nI 6))]) hx hb dX4_fitting_6 hl (by decide) rfl (fun ls hl => ?_)
  refine lv_iconst (v := nI (0)) hx hb dX4_fitting_8 (by decide) ?_
  refine lv_istore (lv' := [(6, .int (nI 0)), (5, .int (nI (X.1 3 u))), (0, .ref (am 0)), (1, .int (nI k)), (2, .int (nI u)), (3, .int (nI 2)), (4, .int (nI 6))]) hx hb dX4_fitting_9 hl (by decide) rfl (fun ls hl => ?_)
  refine lv_iconst (v := nI (0)) hx hb dX4_fitting_11 (by decide) ?_
  refine lv_istore (lv' := [(7, .int (nI 0)), (6, .int (nI 0)), (5, .int (nI (X.1 3 u))), (0, .ref (am 0)), (1, .int (nI k)), (2, .int (nI u)), (3, .int (nI 2)), (4, .int (nI 6))]) hx hb dX4_fitting_12 hl (by decide) rfl (fun ls hl => ?_)
  have L14 : ∀ (k14 : Nat) (i : Nat), 6 - i < k14 → (i ≤ 6) → ∀ (x6 : Int32), ∀ (x7 : Int32), x6 = nI (setTo (fun v => goA (st X.1 3 u v) (X.2.2.2.2.2.2.2.1 k) (X.2.2.2.2.2.2.2.2 k) u) (i)) → x7 = nI (i) → ∀ (y0 : Nat → Int32) (y1 : Nat → Int32), ∀ (H : Heap) (locs : List Loc), va_P D vwCl (wN ci am (toS X (bT X.1 3 u i)) kr q0 q1 q2 q3 q4 q5 iw kn y0 y1 y2 y3 y4 y5 y6) H → va_S (aM am) s.heap H locs → ∀ ls : Array Slot, lv_has ls 8 [(6, .int (x6)), (7, .int (x7)), (5, .int (nI (X.1 3 u))), (0, .ref (am 0)), (1, .int (nI k)), (2, .int (nI u)), (3, .int (nI 2)), (4, .int (nI 6))] → W p l e (headSpec wsX4_fitting ({ frames := 10, cells := 0, slots := 0, locals := 231 } : Room)).room s m ([.ref (am 0), .int (nI k), .int (nI u), .int (nI 2), .int (nI 6)] : List Value).toArray below meth c H locs 0 0 (MQ below (mu_Q (aM am) (some (.int (nI (setTo (fun v => goA (st X.1 3 u v) (X.2.2.2.2.2.2.2.1 k) (X.2.2.2.2.2.2.2.2 k) u) 6)))) (fun H => ∃ (y0 : Nat → Int32) (y1 : Nat → Int32), va_P D vwCl (wN ci am X kr q0 q1 q2 q3 q4 q5 iw kn y0 y1 y2 y3 y4 y5 y6) H)) ([.ref (am 0), .int (nI k), .int (nI u), .int (nI 2), .int (nI 6)] : List Value).toArray s 0 0 (aM am)) (F0 m 14 ls []) := by
    intro k14
    induction k14 with
    | zero => intro i h0; exact absurd h0 (Nat.not_lt_zero _)
    | succ k14 ih14 =>
      intro i hk14 h_i x6 x7 e6 e7 y0 y1 H locs hP hS ls hl
      subst e6
      subst e7
      have hD : va_D (aM am) (wN ci am (toS X (bT X.1 3 u i)) kr q0 q1 q2 q3 q4 q5 iw kn y0 y1 y2 y3 y4 y5 y6) := wN_D hI
      refine lv_iload hx hb dX4_fitting_14 (lv_at hl 1 rfl) ?_
      refine lv_iload hx hb dX4_fitting_16 (lv_at hl 7 rfl) ?_
      refine nv_icmp_ge (tgt := 61) hx hb (by omega) (by omega) dX4_fitting_18 (by decide) (fun c2 => ?_) (fun c2 => ?_)
      · refine lv_aload_n hx hb dX4_fitting_61 rfl (lv_at hl 3 rfl) ?_
        refine va_get (D := D) (ci := 4) (v := .ref (am 1)) (C := RX4) (T := TX4) (N := 24) hx hb hts hinX4 hown hK hP 0 rfl rfl 0 (by decide) (hts (.fieldLink RX4 9 "OneShortModel" "now" "[I") (List.mem_of_getElem? (i := 1) rfl)) (fun _ h9 => h9) rfl dX4_fitting_62 ?_
        refine lv_iload_n hx hb dX4_fitting_65 rfl (lv_at hl 5 rfl) ?_
        refine lv_iload_n hx hb dX4_fitting_66 rfl (lv_at hl 6 rfl) ?_
        refine ro_S (n := 2) (As := [.int (nI u), .int (nI 2)]) (rest := [.ref (am 1)]) ⟨hx, hb, hml, hown, hts⟩ (c_X4_at l D ci (wN ci am (toS X (bT X.1 3 u i)) kr q0 q1 q2 q3 q4 q5 iw kn y0 y1 y2 y3 y4 y5 y6) (u) (2) ) gX4_fitting_X4_at rfl ⟨rfl, rfl⟩ (by decide +kernel) rfl ⟨Nat.le_of_ble_eq_true rfl, Nat.le_of_ble_eq_true rfl⟩ hE trivial hK hP hl.1 rfl (Nat.le_of_ble_eq_true rfl) dX4_fitting_67 ⟨Nat.zero_le _, Nat.zero_le _⟩ ?_
        refine lv_iload hx hb dX4_fitting_70 (lv_at hl 2 rfl) ?_
        refine nv_iast hx hb hK hP hD hS 1 0 rfl rfl (by omega) (by decide) dX4_fitting_72 (fun H locs hP hD hS => ?_)
        have hP : va_P D vwCl (wN ci am (toS X (st (bT X.1 3 u i) 3 u (X.1 3 u))) kr q0 q1 q2 q3 q4 q5 iw kn y0 y1 y2 y3 y4 y5 y6) H := va_P.re (wN_now ci am (toS X (bT X.1 3 u i)) kr q0 q1 q2 q3 q4 q5 iw kn y0 y1 y2 y3 y4 y5 y6 (25 + 5 * u + 2) (nI (X.1 3 u)) (pku_f (bT X.1 3 u i) u (by omega))) hP
        have hD : va_D (aM am) (wN ci am (toS X (st (bT X.1 3 u i) 3 u (X.1 3 u))) kr q0 q1 q2 q3 q4 q5 iw kn y0 y1 y2 y3 y4 y5 y6) := wN_D hI
        refine lv_iload hx hb dX4_fitting_73 (lv_at hl 0 rfl) ?_
        refine nv_cv (show nI (setTo (fun v => goA (st X.1 3 u v) (X.2.2.2.2.2.2.2.1 k) (X.2.2.2.2.2.2.2.2 k) u) (i)) = nI (setTo (fun v => goA (st X.1 3 u v) (X.2.2.2.2.2.2.2.1 k) (X.2.2.2.2.2.2.2.2 k) u) 6) from nv_e (by rw [show i = 6 by omega])) ?_
        exact mu_iret hx hb hr hlocks hS ((by rw [bT_st, st_self] at hP; exact ⟨_, _, hP⟩)) dX4_fitting_75
      · refine lv_aload_n hx hb dX4_fitting_21 rfl (lv_at hl 3 rfl) ?_
        refine va_get (D := D) (ci := 4) (v := .ref (am 1)) (C := RX4) (T := TX4) (N := 24) hx hb hts hinX4 hown hK hP 0 rfl rfl 0 (by decide) (hts (.fieldLink RX4 9 "OneShortModel" "now" "[I") (List.mem_of_getElem? (i := 1) rfl)) (fun _ h9 => h9) rfl dX4_fitting_22 ?_
        refine lv_iload_n hx hb dX4_fitting_25 rfl (lv_at hl 5 rfl) ?_
        refine lv_iload_n hx hb dX4_fitting_26 rfl (lv_at hl 6 rfl) ?_
        refine ro_S (n := 2) (As := [.int (nI u), .int (nI 2)]) (rest := [.ref (am 1)]) ⟨hx, hb, hml, hown, hts⟩ (c_X4_at l D ci (wN ci am (toS X (bT X.1 3 u i)) kr q0 q1 q2 q3 q4 q5 iw kn y0 y1 y2 y3 y4 y5 y6) (u) (2) ) gX4_fitting_X4_at rfl ⟨rfl, rfl⟩ (by decide +kernel) rfl ⟨Nat.le_of_ble_eq_true rfl, Nat.le_of_ble_eq_true rfl⟩ hE trivial hK hP hl.1 rfl (Nat.le_of_ble_eq_true rfl) dX4_fitting_27 ⟨Nat.zero_le _, Nat.zero_le _⟩ ?_
        refine lv_iload hx hb dX4_fitting_30 (lv_at hl 1 rfl) ?_
        refine nv_iast hx hb hK hP hD hS 1 0 rfl rfl (by omega) (by decide) dX4_fitting_32 (fun H locs hP hD hS => ?_)
        have hP : va_P D vwCl (wN ci am (toS X (st (bT X.1 3 u i) 3 u i)) kr q0 q1 q2 q3 q4 q5 iw kn y0 y1 y2 y3 y4 y5 y6) H := va_P.re (wN_now ci am (toS X (bT X.1 3 u i)) kr q0 q1 q2 q3 q4 q5 iw kn y0 y1 y2 y3 y4 y5 y6 (25 + 5 * u + 2) (nI (i)) (pku_f (bT X.1 3 u i) u (by omega))) hP
        have hD : va_D (aM am) (wN ci am (toS X (st (bT X.1 3 u i) 3 u i)) kr q0 q1 q2 q3 q4 q5 iw kn y0 y1 y2 y3 y4 y5 y6) := wN_D hI
        refine lv_iload hx hb dX4_fitting_33 (lv_at hl 0 rfl) ?_
        refine lv_aload_n hx hb dX4_fitting_35 rfl (lv_at hl 3 rfl) ?_
        refine lv_iload_n hx hb dX4_fitting_36 rfl (lv_at hl 4 rfl) ?_
        refine lv_iload_n hx hb dX4_fitting_37 rfl (lv_at hl 5 rfl) ?_
        refine mu_V (n := 2) (As := [.int (nI k), .int (nI u)]) (rest := [.int (nI (setTo (fun v => goA (st X.1 3 u v) (X.2.2.2.2.2.2.2.1 k) (X.2.2.2.2.2.2.2.2 k) u) (i)))]) ⟨hx, hb, hml, hown, hts⟩ (c_X4_wentSo l D ci am (toS X (st (bT X.1 3 u i) 3 u i)) kr q0 q1 q2 q3 q4 q5 iw kn y0 y1 y2 y3 y4 y5 y6 hI (k) (u) (by rw [bT_st]; exact WF_st3 hWF u (by omega)) (by omega) (by omega) (by rw [bT_st]; exact h_8) h_l) gX4_fitting_X4_wentSo rfl ⟨rfl, rfl⟩ (by decide +kernel) rfl ⟨Nat.le_of_ble_eq_true rfl, Nat.le_of_ble_eq_true rfl⟩ hE trivial hK hP (ci := 4) (q0 := 0) rfl rfl hl.1 rfl (Nat.le_of_ble_eq_true rfl) dX4_fitting_38 ⟨Nat.zero_le _, Nat.zero_le _⟩ hS (fun _ h => h) (fun H1 locs hz hfr hB hS => ?_)
        obtain ⟨y0_3, y1_4, hP⟩ := hB
        have hP : va_P D vwCl (wN ci am (toS X (st (bT X.1 3 u i) 3 u i)) kr q0 q1 q2 q3 q4 q5 iw kn y0_3 y1_4 y2 y3 y4 y5 y6) H1 := hP
        generalize H1 = H at hP hS ⊢
        have hD : va_D (aM am) (wN ci am (toS X (st (bT X.1 3 u i) 3 u i)) kr q0 q1 q2 q3 q4 q5 iw kn y0_3 y1_4 y2 y3 y4 y5 y6) := wN_D hI
        refine nv_cv (show bI (goA (toS X (st (bT X.1 3 u i) 3 u i)).1 ((toS X (st (bT X.1 3 u i) 3 u i)).2.2.2.2.2.2.2.1 k) ((toS X (st (bT X.1 3 u i) 3 u i)).2.2.2.2.2.2.2.2 k) u) = bI (goA (st (bT X.1 3 u i) 3 u i) ((toS X (st (bT X.1 3 u i) 3 u i)).2.2.2.2.2.2.2.1 k) ((toS X (st (bT X.1 3 u i) 3 u i)).2.2.2.2.2.2.2.2 k) u) from rfl) ?_
        refine nv_cv (show bI (goA (st (bT X.1 3 u i) 3 u i) ((toS X (st (bT X.1 3 u i) 3 u i)).2.2.2.2.2.2.2.1 k) ((toS X (st (bT X.1 3 u i) 3 u i)).2.2.2.2.2.2.2.2 k) u) = bI (goA (st X.1 3 u i) (X.2.2.2.2.2.2.2.1 k) (X.2.2.2.2.2.2.2.2 k) u) from congrArg bI (by rw [bT_st]; rfl)) ?_
        refine nv_ifeq_b (tgt := 51) hx hb dX4_fitting_41 (by decide) (fun c5 => ?_) (fun c5 => ?_)
        · refine lv_iconst (v := nI (0)) hx hb dX4_fitting_51 (by decide) ?_
          refine nv_ior hx hb dX4_fitting_52 ?_
          refine lv_istore (lv' := [(6, .int (nI ((setTo (fun v => goA (st X.1 3 u v) (X.2.2.2.2.2.2.2.1 k) (X.2.2.2.2.2.2.2.2 k) u) (i) ||| 0)))), (7, .int (nI i)), (5, .int (nI (X.1 3 u))), (0, .ref (am 0)), (1, .int (nI k)), (2, .int (nI u)), (3, .int (nI 2)), (4, .int (nI 6))]) hx hb dX4_fitting_53 hl (by decide) rfl (fun ls hl => ?_)
          refine nv_iinc1 (lv' := [(7, .int (nI (i + 1))), (6, .int (nI ((setTo (fun v => goA (st X.1 3 u v) (X.2.2.2.2.2.2.2.1 k) (X.2.2.2.2.2.2.2.2 k) u) (i) ||| 0)))), (5, .int (nI (X.1 3 u))), (0, .ref (am 0)), (1, .int (nI k)), (2, .int (nI u)), (3, .int (nI 2)), (4, .int (nI 6))]) hx hb dX4_fitting_55 hl (k := 1) rfl (by decide) rfl (fun ls hl => ?_)
          refine lv_goto (tgt := 14) hx hb dX4_fitting_58 (by decide) ?_
          exact ih14 (i + 1) (by omega) (by omega) (nI ((setTo (fun v => goA (st X.1 3 u v) (X.2.2.2.2.2.2.2.1 k) (X.2.2.2.2.2.2.2.2 k) u) (i) ||| 0))) (nI (i + 1)) (nv_e (by first | exact setTo_t c5 | exact setTo_f0 c5)) rfl (y0_3) (y1_4) _ _ (va_P.re (by rw [bT_st]; rfl) hP) hS ls (lv_sub hl [1, 0, 2, 3, 4, 5, 6, 7] rfl)
        · refine lv_iconst (v := nI (1)) hx hb dX4_fitting_44 (by decide) ?_
          refine lv_iload hx hb dX4_fitting_45 (lv_at hl 1 rfl) ?_
          refine nv_ishl hx hb (by omega) dX4_fitting_47 ?_
          refine lv_goto (tgt := 52) hx hb dX4_fitting_48 (by decide) ?_
          refine nv_ior hx hb dX4_fitting_52 ?_
          refine lv_istore (lv' := [(6, .int (nI ((setTo (fun v => goA (st X.1 3 u v) (X.2.2.2.2.2.2.2.1 k) (X.2.2.2.2.2.2.2.2 k) u) (i) ||| (1 * 2 ^ (i)))))), (7, .int (nI i)), (5, .int (nI (X.1 3 u))), (0, .ref (am 0)), (1, .int (nI k)), (2, .int (nI u)), (3, .int (nI 2)), (4, .int (nI 6))]) hx hb dX4_fitting_53 hl (by decide) rfl (fun ls hl => ?_)
          refine nv_iinc1 (lv' := [(7, .int (nI (i + 1))), (6, .int (nI ((setTo (fun v => goA (st X.1 3 u v) (X.2.2.2.2.2.2.2.1 k) (X.2.2.2.2.2.2.2.2 k) u) (i) ||| (1 * 2 ^ (i)))))), (5, .int (nI (X.1 3 u))), (0, .ref (am 0)), (1, .int (nI k)), (2, .int (nI u)), (3, .int (nI 2)), (4, .int (nI 6))]) hx hb dX4_fitting_55 hl (k := 1) rfl (by decide) rfl (fun ls hl => ?_)
          refine lv_goto (tgt := 14) hx hb dX4_fitting_58 (by decide) ?_
          exact ih14 (i + 1) (by omega) (by omega) (nI ((setTo (fun v => goA (st X.1 3 u v) (X.2.2.2.2.2.2.2.1 k) (X.2.2.2.2.2.2.2.2 k) u) (i) ||| (1 * 2 ^ (i))))) (nI (i + 1)) (nv_e (by first | exact setTo_t c5 | exact setTo_f0 c5)) rfl (y0_3) (y1_4) _ _ (va_P.re (by rw [bT_st]; rfl) hP) hS ls (lv_sub hl [1, 0, 2, 3, 4, 5, 6, 7] rfl)
  exact L14 _ (0) (Nat.lt_succ_self _) (by omega) (nI (0)) (nI (0)) rfl rfl (y0) (y1) _ _ (va_P.re (by rfl) hP) hS ls (lv_sub hl [1, 0, 2, 3, 4, 5, 6, 7] rfl)

set_option maxHeartbeats 4000000 in
set_option maxRecDepth 100000 in
/-- X4_fitting -/
theorem c_X4_fitting_kind (l : Launch) (D : va_G) (ci : Nat → ClassId) (am : Nat → Nat) (X : AS) (kr : Nat → Int32) (q0 q1 q2 q3 q4 q5 : Int32) (iw : Bool) (kn : Nat → Option Nat) (y0 y1 y2 y3 y4 y5 y6 : Nat → Int32) (hI : injA am 16) (k u : Nat) (hWF : WF X.1) (h_k : k < 4) (h_u : u < 8) (h_8 : X.1 8 0 ≤ 99999) (h_l : X.2.2.2.2.2.2.2.1 k ≤ 40) : Met l yX4_fitting wsX4_fitting ({ frames := 10, cells := 0, slots := 0, locals := 231 } : Room) (va_Pc [.ref (am 0), .int (nI k), .int (nI u), .int (nI 0), .int (nI 7)] (ro_B D (tyL ci) (wN ci am X kr q0 q1 q2 q3 q4 q5 iw kn y0 y1 y2 y3 y4 y5 y6) (enT))) (mu_Q (aM am) (some (.int (nI (setTo (fun v => goA (st X.1 1 u v) (X.2.2.2.2.2.2.2.1 k) (X.2.2.2.2.2.2.2.2 k) u) 7)))) (fun H => ∃ (y0 : Nat → Int32) (y1 : Nat → Int32), va_P D vwCl (wN ci am X kr q0 q1 q2 q3 q4 q5 iw kn y0 y1 y2 y3 y4 y5 y6) H)) 0 0 (aM am) := by
  refine mu_Met (cc := cX4_fitting) (maxL := 8) (ret := (some .int)) [(0, .ref (am 0)), (1, .int (nI k)), (2, .int (nI u)), (3, .int (nI 0)), (4, .int (nI 7))] (wN_D hI) (by decide) rfl (Nat.le_of_ble_eq_true rfl) rfl ?_
  intro p e s m below meth c H locs hx hb hml hr hlocks hts hown hP hK hs0 hD hS ls hl
  have hown : s.vm.findClass RX4 = some m.cls := hown
  have hinX4 : ∀ w ∈ wsX40, w ∈ wsX4_fitting := by decide +kernel
  have hE := hE_T
  have f_n := hWF.n
  refine lv_aload_n hx hb dX4_fitting_0 rfl (lv_at hl 0 rfl) ?_
  refine lv_iload_n hx hb dX4_fitting_1 rfl (lv_at hl 2 rfl) ?_
  refine lv_iload_n hx hb dX4_fitting_2 rfl (lv_at hl 3 rfl) ?_
  refine ro_V (n := 2) (As := [.int (nI u), .int (nI 0)]) (rest := []) ⟨hx, hb, hml, hown, hts⟩ (c_X4_playerIs l D ci am X kr q0 q1 q2 q3 q4 q5 iw kn y0 y1 y2 y3 y4 y5 y6 (u) (0) hWF (by omega) (by omega)) gX4_fitting_X4_playerIs rfl ⟨rfl, rfl⟩ (by decide +kernel) rfl ⟨Nat.le_of_ble_eq_true rfl, Nat.le_of_ble_eq_true rfl⟩ hE trivial hK hP (ci := 4) (q0 := 0) rfl rfl hl.1 rfl (Nat.le_of_ble_eq_true rfl) dX4_fitting_3 ⟨Nat.zero_le _, Nat.zero_le _⟩ ?_
  refine nv_cv (show nI (X.1 (0 + 1) u) = nI (X.1 1 u) from rfl) ?_
  have f1 := hWF.f1 u
  refine lv_istore (lv' := [(5, .int (nI (X.1 1 u))), (0, .ref (am 0)), (1, .int (nI k)), (2, .int (nI u)), (3, .int (nI 0)), (4, .int (nI 7))]) hx hb dX4_fitting_6 hl (by decide) rfl (fun ls hl => ?_)
  refine lv_iconst (v := nI (0)) hx hb dX4_fitting_8 (by decide) ?_
  refine lv_istore (lv' := [(6, .int (nI 0)), (5, .int (nI (X.1 1 u))), (0, .ref (am 0)), (1, .int (nI k)), (2, .int (nI u)), (3, .int (nI 0)), (4, .int (nI 7))]) hx hb dX4_fitting_9 hl (by decide) rfl (fun ls hl => ?_)
  refine lv_iconst (v := nI (0)) hx hb dX4_fitting_11 (by decide) ?_
  refine lv_istore (lv' := [(7, .int (nI 0)), (6, .int (nI 0)), (5, .int (nI (X.1 1 u))), (0, .ref (am 0)), (1, .int (nI k)), (2, .int (nI u)), (3, .int (nI 0)), (4, .int (nI 7))]) hx hb dX4_fitting_12 hl (by decide) rfl (fun ls hl => ?_)
  have L14 : ∀ (k14 : Nat) (i : Nat), 7 - i < k14 → (i ≤ 7) → ∀ (x6 : Int32), ∀ (x7 : Int32), x6 = nI (setTo (fun v => goA (st X.1 1 u v) (X.2.2.2.2.2.2.2.1 k) (X.2.2.2.2.2.2.2.2 k) u) (i)) → x7 = nI (i) → ∀ (y0 : Nat → Int32) (y1 : Nat → Int32), ∀ (H : Heap) (locs : List Loc), va_P D vwCl (wN ci am (toS X (bT X.1 1 u i)) kr q0 q1 q2 q3 q4 q5 iw kn y0 y1 y2 y3 y4 y5 y6) H → va_S (aM am) s.heap H locs → ∀ ls : Array Slot, lv_has ls 8 [(6, .int (x6)), (7, .int (x7)), (5, .int (nI (X.1 1 u))), (0, .ref (am 0)), (1, .int (nI k)), (2, .int (nI u)), (3, .int (nI 0)), (4, .int (nI 7))] → W p l e (headSpec wsX4_fitting ({ frames := 10, cells := 0, slots := 0, locals := 231 } : Room)).room s m ([.ref (am 0), .int (nI k), .int (nI u), .int (nI 0), .int (nI 7)] : List Value).toArray below meth c H locs 0 0 (MQ below (mu_Q (aM am) (some (.int (nI (setTo (fun v => goA (st X.1 1 u v) (X.2.2.2.2.2.2.2.1 k) (X.2.2.2.2.2.2.2.2 k) u) 7)))) (fun H => ∃ (y0 : Nat → Int32) (y1 : Nat → Int32), va_P D vwCl (wN ci am X kr q0 q1 q2 q3 q4 q5 iw kn y0 y1 y2 y3 y4 y5 y6) H)) ([.ref (am 0), .int (nI k), .int (nI u), .int (nI 0), .int (nI 7)] : List Value).toArray s 0 0 (aM am)) (F0 m 14 ls []) := by
    intro k14
    induction k14 with
    | zero => intro i h0; exact absurd h0 (Nat.not_lt_zero _)
    | succ k14 ih14 =>
      intro i hk14 h_i x6 x7 e6 e7 y0 y1 H locs hP hS ls hl
      subst e6
      subst e7
      have hD : va_D (aM am) (wN ci am (toS X (bT X.1 1 u i)) kr q0 q1 q2 q3 q4 q5 iw kn y0 y1 y2 y3 y4 y5 y6) := wN_D hI
      refine lv_iload hx hb dX4_fitting_14 (lv_at hl 1 rfl) ?_
      refine lv_iload hx hb dX4_fitting_16 (lv_at hl 7 rfl) ?_
      refine nv_icmp_ge (tgt := 61) hx hb (by omega) (by omega) dX4_fitting_18 (by decide) (fun c2 => ?_) (fun c2 => ?_)
      · refine lv_aload_n hx hb dX4_fitting_61 rfl (lv_at hl 3 rfl) ?_
        refine va_get (D := D) (ci := 4) (v := .ref (am 1)) (C := RX4) (T := TX4) (N := 24) hx hb hts hinX4 hown hK hP 0 rfl rfl 0 (by decide) (hts (.fieldLink RX4 9 "OneShortModel" "now" "[I") (List.mem_of_getElem? (i := 1) rfl)) (fun _ h9 => h9) rfl dX4_fitting_62 ?_
        refine lv_iload_n hx hb dX4_fitting_65 rfl (lv_at hl 5 rfl) ?_
        refine lv_iload_n hx hb dX4_fitting_66 rfl (lv_at hl 6 rfl) ?_
        refine ro_S (n := 2) (As := [.int (nI u), .int (nI 0)]) (rest := [.ref (am 1)]) ⟨hx, hb, hml, hown, hts⟩ (c_X4_at l D ci (wN ci am (toS X (bT X.1 1 u i)) kr q0 q1 q2 q3 q4 q5 iw kn y0 y1 y2 y3 y4 y5 y6) (u) (0) ) gX4_fitting_X4_at rfl ⟨rfl, rfl⟩ (by decide +kernel) rfl ⟨Nat.le_of_ble_eq_true rfl, Nat.le_of_ble_eq_true rfl⟩ hE trivial hK hP hl.1 rfl (Nat.le_of_ble_eq_true rfl) dX4_fitting_67 ⟨Nat.zero_le _, Nat.zero_le _⟩ ?_
        refine lv_iload hx hb dX4_fitting_70 (lv_at hl 2 rfl) ?_
        refine nv_iast hx hb hK hP hD hS 1 0 rfl rfl (by omega) (by decide) dX4_fitting_72 (fun H locs hP hD hS => ?_)
        have hP : va_P D vwCl (wN ci am (toS X (st (bT X.1 1 u i) 1 u (X.1 1 u))) kr q0 q1 q2 q3 q4 q5 iw kn y0 y1 y2 y3 y4 y5 y6) H := va_P.re (wN_now ci am (toS X (bT X.1 1 u i)) kr q0 q1 q2 q3 q4 q5 iw kn y0 y1 y2 y3 y4 y5 y6 (25 + 5 * u + 0) (nI (X.1 1 u)) (pku_f (bT X.1 1 u i) u (by omega))) hP
        have hD : va_D (aM am) (wN ci am (toS X (st (bT X.1 1 u i) 1 u (X.1 1 u))) kr q0 q1 q2 q3 q4 q5 iw kn y0 y1 y2 y3 y4 y5 y6) := wN_D hI
        refine lv_iload hx hb dX4_fitting_73 (lv_at hl 0 rfl) ?_
        refine nv_cv (show nI (setTo (fun v => goA (st X.1 1 u v) (X.2.2.2.2.2.2.2.1 k) (X.2.2.2.2.2.2.2.2 k) u) (i)) = nI (setTo (fun v => goA (st X.1 1 u v) (X.2.2.2.2.2.2.2.1 k) (X.2.2.2.2.2.2.2.2 k) u) 7) from nv_e (by rw [show i = 7 by omega])) ?_
        exact mu_iret hx hb hr hlocks hS ((by rw [bT_st, st_self] at hP; exact ⟨_, _, hP⟩)) dX4_fitting_75
      · refine lv_aload_n hx hb dX4_fitting_21 rfl (lv_at hl 3 rfl) ?_
        refine va_get (D := D) (ci := 4) (v := .ref (am 1)) (C := RX4) (T := TX4) (N := 24) hx hb hts hinX4 hown hK hP 0 rfl rfl 0 (by decide) (hts (.fieldLink RX4 9 "OneShortModel" "now" "[I") (List.mem_of_getElem? (i := 1) rfl)) (fun _ h9 => h9) rfl dX4_fitting_22 ?_
        refine lv_iload_n hx hb dX4_fitting_25 rfl (lv_at hl 5 rfl) ?_
        refine lv_iload_n hx hb dX4_fitting_26 rfl (lv_at hl 6 rfl) ?_
        refine ro_S (n := 2) (As := [.int (nI u), .int (nI 0)]) (rest := [.ref (am 1)]) ⟨hx, hb, hml, hown, hts⟩ (c_X4_at l D ci (wN ci am (toS X (bT X.1 1 u i)) kr q0 q1 q2 q3 q4 q5 iw kn y0 y1 y2 y3 y4 y5 y6) (u) (0) ) gX4_fitting_X4_at rfl ⟨rfl, rfl⟩ (by decide +kernel) rfl ⟨Nat.le_of_ble_eq_true rfl, Nat.le_of_ble_eq_true rfl⟩ hE trivial hK hP hl.1 rfl (Nat.le_of_ble_eq_true rfl) dX4_fitting_27 ⟨Nat.zero_le _, Nat.zero_le _⟩ ?_
        refine lv_iload hx hb dX4_fitting_30 (lv_at hl 1 rfl) ?_
        refine nv_iast hx hb hK hP hD hS 1 0 rfl rfl (by omega) (by decide) dX4_fitting_32 (fun H locs hP hD hS => ?_)
        have hP : va_P D vwCl (wN ci am (toS X (st (bT X.1 1 u i) 1 u i)) kr q0 q1 q2 q3 q4 q5 iw kn y0 y1 y2 y3 y4 y5 y6) H := va_P.re (wN_now ci am (toS X (bT X.1 1 u i)) kr q0 q1 q2 q3 q4 q5 iw kn y0 y1 y2 y3 y4 y5 y6 (25 + 5 * u + 0) (nI (i)) (pku_f (bT X.1 1 u i) u (by omega))) hP
        have hD : va_D (aM am) (wN ci am (toS X (st (bT X.1 1 u i) 1 u i)) kr q0 q1 q2 q3 q4 q5 iw kn y0 y1 y2 y3 y4 y5 y6) := wN_D hI
        refine lv_iload hx hb dX4_fitting_33 (lv_at hl 0 rfl) ?_
        refine lv_aload_n hx hb dX4_fitting_35 rfl (lv_at hl 3 rfl) ?_
        refine lv_iload_n hx hb dX4_fitting_36 rfl (lv_at hl 4 rfl) ?_
        refine lv_iload_n hx hb dX4_fitting_37 rfl (lv_at hl 5 rfl) ?_
        refine mu_V (n := 2) (As := [.int (nI k), .int (nI u)]) (rest := [.int (nI (setTo (fun v => goA (st X.1 1 u v) (X.2.2.2.2.2.2.2.1 k) (X.2.2.2.2.2.2.2.2 k) u) (i)))]) ⟨hx, hb, hml, hown, hts⟩ (c_X4_wentSo l D ci am (toS X (st (bT X.1 1 u i) 1 u i)) kr q0 q1 q2 q3 q4 q5 iw kn y0 y1 y2 y3 y4 y5 y6 hI (k) (u) (by rw [bT_st]; exact WF_st1 hWF u (by omega)) (by omega) (by omega) (by rw [bT_st]; exact h_8) h_l) gX4_fitting_X4_wentSo rfl ⟨rfl, rfl⟩ (by decide +kernel) rfl ⟨Nat.le_of_ble_eq_true rfl, Nat.le_of_ble_eq_true rfl⟩ hE trivial hK hP (ci := 4) (q0 := 0) rfl rfl hl.1 rfl (Nat.le_of_ble_eq_true rfl) dX4_fitting_38 ⟨Nat.zero_le _, Nat.zero_le _⟩ hS (fun _ h => h) (fun H1 locs hz hfr hB hS => ?_)
        obtain ⟨y0_3, y1_4, hP⟩ := hB
        have hP : va_P D vwCl (wN ci am (toS X (st (bT X.1 1 u i) 1 u i)) kr q0 q1 q2 q3 q4 q5 iw kn y0_3 y1_4 y2 y3 y4 y5 y6) H1 := hP
        generalize H1 = H at hP hS ⊢
        have hD : va_D (aM am) (wN ci am (toS X (st (bT X.1 1 u i) 1 u i)) kr q0 q1 q2 q3 q4 q5 iw kn y0_3 y1_4 y2 y3 y4 y5 y6) := wN_D hI
        refine nv_cv (show bI (goA (toS X (st (bT X.1 1 u i) 1 u i)).1 ((toS X (st (bT X.1 1 u i) 1 u i)).2.2.2.2.2.2.2.1 k) ((toS X (st (bT X.1 1 u i) 1 u i)).2.2.2.2.2.2.2.2 k) u) = bI (goA (st (bT X.1 1 u i) 1 u i) ((toS X (st (bT X.1 1 u i) 1 u i)).2.2.2.2.2.2.2.1 k) ((toS X (st (bT X.1 1 u i) 1 u i)).2.2.2.2.2.2.2.2 k) u) from rfl) ?_
        refine nv_cv (show bI (goA (st (bT X.1 1 u i) 1 u i) ((toS X (st (bT X.1 1 u i) 1 u i)).2.2.2.2.2.2.2.1 k) ((toS X (st (bT X.1 1 u i) 1 u i)).2.2.2.2.2.2.2.2 k) u) = bI (goA (st X.1 1 u i) (X.2.2.2.2.2.2.2.1 k) (X.2.2.2.2.2.2.2.2 k) u) from congrArg bI (by rw [bT_st]; rfl)) ?_
        refine nv_ifeq_b (tgt := 51) hx hb dX4_fitting_41 (by decide) (fun c5 => ?_) (fun c5 => ?_)
        · refine lv_iconst (v := nI (0)) hx hb dX4_fitting_51 (by decide) ?_
          refine nv_ior hx hb dX4_fitting_52 ?_
          refine lv_istore (lv' := [(6, .int (nI ((setTo (fun v => goA (st X.1 1 u v) (X.2.2.2.2.2.2.2.1 k) (X.2.2.2.2.2.2.2.2 k) u) (i) ||| 0)))), (7, .int (nI i)), (5, .int (nI (X.1 1 u))), (0, .ref (am 0)), (1, .int (nI k)), (2, .int (nI u)), (3, .int (nI 0)), (4, .int (nI 7))]) hx hb dX4_fitting_53 hl (by decide) rfl (fun ls hl => ?_)
          refine nv_iinc1 (lv' := [(7, .int (nI (i + 1))), (6, .int (nI ((setTo (fun v => goA (st X.1 1 u v) (X.2.2.2.2.2.2.2.1 k) (X.2.2.2.2.2.2.2.2 k) u) (i) ||| 0)))), (5, .int (nI (X.1 1 u))), (0, .ref (am 0)), (1, .int (nI k)), (2, .int (nI u)), (3, .int (nI 0)), (4, .int (nI 7))]) hx hb dX4_fitting_55 hl (k := 1) rfl (by decide) rfl (fun ls hl => ?_)
          refine lv_goto (tgt := 14) hx hb dX4_fitting_58 (by decide) ?_
          exact ih14 (i + 1) (by omega) (by omega) (nI ((setTo (fun v => goA (st X.1 1 u v) (X.2.2.2.2.2.2.2.1 k) (X.2.2.2.2.2.2.2.2 k) u) (i) ||| 0))) (nI (i + 1)) (nv_e (by first | exact setTo_t c5 | exact setTo_f0 c5)) rfl (y0_3) (y1_4) _ _ (va_P.re (by rw [bT_st]; rfl) hP) hS ls (lv_sub hl [1, 0, 2, 3, 4, 5, 6, 7] rfl)
        · refine lv_iconst (v := nI (1)) hx hb dX4_fitting_44 (by decide) ?_
          refine lv_iload hx hb dX4_fitting_45 (lv_at hl 1 rfl) ?_
          refine nv_ishl hx hb (by omega) dX4_fitting_47 ?_
          refine lv_goto (tgt := 52) hx hb dX4_fitting_48 (by decide) ?_
          refine nv_ior hx hb dX4_fitting_52 ?_
          refine lv_istore (lv' := [(6, .int (nI ((setTo (fun v => goA (st X.1 1 u v) (X.2.2.2.2.2.2.2.1 k) (X.2.2.2.2.2.2.2.2 k) u) (i) ||| (1 * 2 ^ (i)))))), (7, .int (nI i)), (5, .int (nI (X.1 1 u))), (0, .ref (am 0)), (1, .int (nI k)), (2, .int (nI u)), (3, .int (nI 0)), (4, .int (nI 7))]) hx hb dX4_fitting_53 hl (by decide) rfl (fun ls hl => ?_)
          refine nv_iinc1 (lv' := [(7, .int (nI (i + 1))), (6, .int (nI ((setTo (fun v => goA (st X.1 1 u v) (X.2.2.2.2.2.2.2.1 k) (X.2.2.2.2.2.2.2.2 k) u) (i) ||| (1 * 2 ^ (i)))))), (5, .int (nI (X.1 1 u))), (0, .ref (am 0)), (1, .int (nI k)), (2, .int (nI u)), (3, .int (nI 0)), (4, .int (nI 7))]) hx hb dX4_fitting_55 hl (k := 1) rfl (by decide) rfl (fun ls hl => ?_)
          refine lv_goto (tgt := 14) hx hb dX4_fitting_58 (by decide) ?_
          exact ih14 (i + 1) (by omega) (by omega) (nI ((setTo (fun v => goA (st X.1 1 u v) (X.2.2.2.2.2.2.2.1 k) (X.2.2.2.2.2.2.2.2 k) u) (i) ||| (1 * 2 ^ (i))))) (nI (i + 1)) (nv_e (by first | exact setTo_t c5 | exact setTo_f0 c5)) rfl (y0_3) (y1_4) _ _ (va_P.re (by rw [bT_st]; rfl) hP) hS ls (lv_sub hl [1, 0, 2, 3, 4, 5, 6, 7] rfl)
  exact L14 _ (0) (Nat.lt_succ_self _) (by omega) (nI (0)) (nI (0)) rfl rfl (y0) (y1) _ _ (va_P.re (by rfl) hP) hS ls (lv_sub hl [1, 0, 2, 3, 4, 5, 6, 7] rfl)

set_option maxHeartbeats 4000000 in
set_option maxRecDepth 100000 in
/-- X4_fits -/
theorem c_X4_fits (l : Launch) (D : va_G) (ci : Nat → ClassId) (am : Nat → Nat) (X : AS) (kr : Nat → Int32) (q0 q1 q2 q3 q4 q5 : Int32) (iw : Bool) (kn : Nat → Option Nat) (y0 y1 y2 y3 y4 y5 y6 : Nat → Int32) (hI : injA am 16) (s_ q : Int32) (hWX : WFX X) (hkr : kOK X kr) : Met l yX4_fits wsX4_fits ({ frames := 11, cells := 0, slots := 0, locals := 258 } : Room) (va_Pc [.ref (am 0), .int (s_), .int (q)] (ro_B D (tyL ci) (wN ci am X kr q0 q1 q2 q3 q4 q5 iw kn y0 y1 y2 y3 y4 y5 y6) (enT))) (mu_Q (aM am) (some (.int ((p_fits X s_ q).1))) (fun H => ∃ (kr : Nat → Int32) (q0 : Int32) (q1 : Int32) (q2 : Int32) (q3 : Int32) (q4 : Int32) (q5 : Int32) (iw : Bool) (y0 : Nat → Int32) (y1 : Nat → Int32) (y2 : Nat → Int32) (y3 : Nat → Int32) (y4 : Nat → Int32) (y5 : Nat → Int32) (y6 : Nat → Int32), kOK (p_fits X s_ q).2 kr ∧ va_P D vwCl (wN ci am ((p_fits X s_ q).2) kr q0 q1 q2 q3 q4 q5 iw kn y0 y1 y2 y3 y4 y5 y6) H)) 0 0 (aM am) := by
  refine mu_Met (cc := cX4_fits) (maxL := 3) (ret := (some .int)) [(0, .ref (am 0)), (1, .int (s_)), (2, .int (q))] (wN_D hI) (by decide) rfl (Nat.le_of_ble_eq_true rfl) rfl ?_
  intro p e s m below meth c H locs hx hb hml hr hlocks hts hown hP hK hs0 hD hS ls hl
  have hown : s.vm.findClass RX4 = some m.cls := hown
  have hE := hE_T
  have hWF := hWX.w
  have f_n := hWF.n
  have f_e := hWX.e
  have f_tl := hWX.t
  refine lv_aload_n hx hb dX4_fits_0 rfl (lv_at hl 0 rfl) ?_
  refine lv_iload_n hx hb dX4_fits_1 rfl (lv_at hl 1 rfl) ?_
  refine ro_V (n := 1) (As := [.int (s_)]) (rest := []) ⟨hx, hb, hml, hown, hts⟩ (c_X4_lacks l D ci am X kr q0 q1 q2 q3 q4 q5 iw kn y0 y1 y2 y3 y4 y5 y6 (s_) hWF hWX) gX4_fits_X4_lacks rfl ⟨rfl, rfl⟩ (by decide +kernel) rfl ⟨Nat.le_of_ble_eq_true rfl, Nat.le_of_ble_eq_true rfl⟩ hE trivial hK hP (ci := 4) (q0 := 0) rfl rfl hl.1 rfl (Nat.le_of_ble_eq_true rfl) dX4_fits_2 ⟨Nat.zero_le _, Nat.zero_le _⟩ ?_
  refine lv_if_ne (tgt := 16) hx hb dX4_fits_5 (by decide) (fun c1 => ?_) (fun c1 => ?_)
  · have lq2 := lkm_ne c1
    have f3 := lack_lt lq2
    refine lv_aload_n hx hb dX4_fits_16 rfl (lv_at hl 0 rfl) ?_
    refine lv_aload_n hx hb dX4_fits_17 rfl (lv_at hl 0 rfl) ?_
    refine lv_iload_n hx hb dX4_fits_18 rfl (lv_at hl 1 rfl) ?_
    refine ro_V (n := 1) (As := [.int (s_)]) (rest := [.ref (am 0)]) ⟨hx, hb, hml, hown, hts⟩ (c_X4_lacks l D ci am X kr q0 q1 q2 q3 q4 q5 iw kn y0 y1 y2 y3 y4 y5 y6 (s_) hWF hWX) gX4_fits_X4_lacks rfl ⟨rfl, rfl⟩ (by decide +kernel) rfl ⟨Nat.le_of_ble_eq_true rfl, Nat.le_of_ble_eq_true rfl⟩ hE trivial hK hP (ci := 4) (q0 := 0) rfl rfl hl.1 rfl (Nat.le_of_ble_eq_true rfl) dX4_fits_19 ⟨Nat.zero_le _, Nat.zero_le _⟩ ?_
    refine lv_if_eq (tgt := 33) hx hb dX4_fits_22 (by decide) (fun c4 => ?_) (fun c4 => ?_)
    · exact absurd c4 c1
    · have lq5 := lkm_ne c4
      have f6 := lack_lt lq5
      refine lv_aload_n hx hb dX4_fits_25 rfl (lv_at hl 0 rfl) ?_
      refine lv_iload_n hx hb dX4_fits_26 rfl (lv_at hl 1 rfl) ?_
      refine ro_V (n := 1) (As := [.int (s_)]) (rest := [.ref (am 0)]) ⟨hx, hb, hml, hown, hts⟩ (c_X4_lacks l D ci am X kr q0 q1 q2 q3 q4 q5 iw kn y0 y1 y2 y3 y4 y5 y6 (s_) hWF hWX) gX4_fits_X4_lacks rfl ⟨rfl, rfl⟩ (by decide +kernel) rfl ⟨Nat.le_of_ble_eq_true rfl, Nat.le_of_ble_eq_true rfl⟩ hE trivial hK hP (ci := 4) (q0 := 0) rfl rfl hl.1 rfl (Nat.le_of_ble_eq_true rfl) dX4_fits_27 ⟨Nat.zero_le _, Nat.zero_le _⟩ ?_
      refine lv_goto (tgt := 35) hx hb dX4_fits_30 (by decide) ?_
      refine mu_V (n := 1) (As := [.int (lkm (lackN X s_))]) (rest := []) ⟨hx, hb, hml, hown, hts⟩ (c_X4_finding l D ci am X kr q0 q1 q2 q3 q4 q5 iw kn y0 y1 y2 y3 y4 y5 y6 hI (lkm (lackN X s_)) (lackN X s_) (by omega) (lkm_f lq5)) gX4_fits_X4_finding rfl ⟨rfl, rfl⟩ (by decide +kernel) rfl ⟨Nat.le_of_ble_eq_true rfl, Nat.le_of_ble_eq_true rfl⟩ hE trivial hK hP (ci := 4) (q0 := 0) rfl rfl hl.1 rfl (Nat.le_of_ble_eq_true rfl) dX4_fits_35 ⟨Nat.zero_le _, Nat.zero_le _⟩ hS (fun _ h => h) (fun H1 locs hz hfr hB hS => ?_)
      have hP := hB
      have hP : va_P D vwCl (wN ci am (toF X (inc X.2.2.2.1 (lackN X s_))) kr q0 q1 q2 q3 q4 q5 iw kn y0 y1 y2 y3 y4 y5 y6) H1 := hP
      generalize H1 = H at hP hS ⊢
      have hD : va_D (aM am) (wN ci am (toF X (inc X.2.2.2.1 (lackN X s_))) kr q0 q1 q2 q3 q4 q5 iw kn y0 y1 y2 y3 y4 y5 y6) := wN_D hI
      have hp : p_fits X s_ q = (fnd (lackN X s_), toF X (inc X.2.2.2.1 (lackN X s_))) := by simp [p_fits, p_fitg, bk, fl_eq, inP, c1, c4, lq2, lq5]
      refine nv_cv (show fnd (lackN X s_) = (p_fits X s_ q).1 from by rw [hp]) ?_
      exact mu_iret hx hb hr hlocks hS ((by rw [hp]; exact ⟨_, _, _, _, _, _, _, _, _, _, _, _, _, _, _, hkr, hP⟩)) dX4_fits_38
  · have lq7 := lkm_eq c1
    obtain ⟨s_n, h_s_n, h_bs_, rfl⟩ := lack_ok lq7
    have t_s_n : tn (nI s_n) = s_n := tn_nI (by omega)
    have f8 := hWX.sl s_n
    have f9 := sb_lt hWX s_n
    refine lv_aload_n hx hb dX4_fits_8 rfl (lv_at hl 0 rfl) ?_
    refine lv_iload_n hx hb dX4_fits_9 rfl (lv_at hl 2 rfl) ?_
    refine ro_V (n := 1) (As := [.int (q)]) (rest := []) ⟨hx, hb, hml, hown, hts⟩ (c_X4_isPlayer l D ci am X kr q0 q1 q2 q3 q4 q5 iw kn y0 y1 y2 y3 y4 y5 y6 (q) hWF) gX4_fits_X4_isPlayer rfl ⟨rfl, rfl⟩ (by decide +kernel) rfl ⟨Nat.le_of_ble_eq_true rfl, Nat.le_of_ble_eq_true rfl⟩ hE trivial hK hP (ci := 4) (q0 := 0) rfl rfl hl.1 rfl (Nat.le_of_ble_eq_true rfl) dX4_fits_10 ⟨Nat.zero_le _, Nat.zero_le _⟩ ?_
    refine nv_ifne_b (tgt := 39) hx hb dX4_fits_13 (by decide) (fun c10 => ?_) (fun c10 => ?_)
    · obtain ⟨qn, h_qn, rfl⟩ := in_ex c10 (by omega)
      have t_qn : tn (nI qn) = qn := tn_nI (by omega)
      refine lv_aload_n hx hb dX4_fits_39 rfl (lv_at hl 0 rfl) ?_
      refine lv_iload_n hx hb dX4_fits_40 rfl (lv_at hl 1 rfl) ?_
      refine lv_iload_n hx hb dX4_fits_41 rfl (lv_at hl 2 rfl) ?_
      refine lv_iconst (v := nI (2)) hx hb dX4_fits_42 (by decide) ?_
      refine lv_bipush (v := nI (6)) hx hb dX4_fits_43 (by decide) ?_
      refine mu_V (n := 4) (As := [.int (nI s_n), .int (nI qn), .int (nI 2), .int (nI 6)]) (rest := []) ⟨hx, hb, hml, hown, hts⟩ (c_X4_fitting_part l D ci am X kr q0 q1 q2 q3 q4 q5 iw kn y0 y1 y2 y3 y4 y5 y6 hI (s_n) (qn) hWF (by omega) (by omega) (by omega) (by omega)) gX4_fits_X4_fitting rfl ⟨rfl, rfl⟩ (by decide +kernel) rfl ⟨Nat.le_of_ble_eq_true rfl, Nat.le_of_ble_eq_true rfl⟩ hE trivial hK hP (ci := 4) (q0 := 0) rfl rfl hl.1 rfl (Nat.le_of_ble_eq_true rfl) dX4_fits_45 ⟨Nat.zero_le _, Nat.zero_le _⟩ hS (fun _ h => h) (fun H1 locs hz hfr hB hS => ?_)
      obtain ⟨y0_11, y1_12, hP⟩ := hB
      have hP : va_P D vwCl (wN ci am X kr q0 q1 q2 q3 q4 q5 iw kn y0_11 y1_12 y2 y3 y4 y5 y6) H1 := hP
      generalize H1 = H at hP hS ⊢
      have hD : va_D (aM am) (wN ci am X kr q0 q1 q2 q3 q4 q5 iw kn y0_11 y1_12 y2 y3 y4 y5 y6) := wN_D hI
      have hp : p_fits X (nI s_n) (nI qn) = (nI (setTo (fun v => goA (st X.1 3 qn v) (X.2.2.2.2.2.2.2.1 s_n) (X.2.2.2.2.2.2.2.2 s_n) qn) 6), X) := by simp [p_fits, p_fitg, bk, fl_eq, inP, Nat.lt_irrefl, c10, lq7, t_s_n, h_bs_, t_qn]
      refine nv_cv (show nI (setTo (fun v => goA (st X.1 3 qn v) (X.2.2.2.2.2.2.2.1 s_n) (X.2.2.2.2.2.2.2.2 s_n) qn) 6) = (p_fits X (nI s_n) (nI qn)).1 from by rw [hp]) ?_
      exact mu_iret hx hb hr hlocks hS ((by rw [hp]; exact ⟨_, _, _, _, _, _, _, _, _, _, _, _, _, _, _, hkr, hP⟩)) dX4_fits_48
    · refine lv_aload_n hx hb dX4_fits_16 rfl (lv_at hl 0 rfl) ?_
      refine lv_aload_n hx hb dX4_fits_17 rfl (lv_at hl 0 rfl) ?_
      refine lv_iload_n hx hb dX4_fits_18 rfl (lv_at hl 1 rfl) ?_
      refine ro_V (n := 1) (As := [.int (nI s_n)]) (rest := [.ref (am 0)]) ⟨hx, hb, hml, hown, hts⟩ (c_X4_lacks l D ci am X kr q0 q1 q2 q3 q4 q5 iw kn y0 y1 y2 y3 y4 y5 y6 (nI (s_n)) hWF hWX) gX4_fits_X4_lacks rfl ⟨rfl, rfl⟩ (by decide +kernel) rfl ⟨Nat.le_of_ble_eq_true rfl, Nat.le_of_ble_eq_true rfl⟩ hE trivial hK hP (ci := 4) (q0 := 0) rfl rfl hl.1 rfl (Nat.le_of_ble_eq_true rfl) dX4_fits_19 ⟨Nat.zero_le _, Nat.zero_le _⟩ ?_
      refine nv_cv (show lkm (lackN X (nI (s_n))) = nI (0) from lkm_7 lq7) ?_
      refine lv_if_eq (tgt := 33) hx hb dX4_fits_22 (by decide) (fun _ => ?_) (fun h => absurd (by decide) h)
      refine lv_ldc (v := -1000001) hx hb hown (hts (.constant RX4 72 (-1000001)) (List.mem_of_getElem? (i := 1) rfl)) dX4_fits_33 ?_
      refine mu_V (n := 1) (As := [.int (-1000001)]) (rest := []) ⟨hx, hb, hml, hown, hts⟩ (c_X4_finding l D ci am X kr q0 q1 q2 q3 q4 q5 iw kn y0 y1 y2 y3 y4 y5 y6 hI (-1000001) (0) (by omega) (by decide)) gX4_fits_X4_finding rfl ⟨rfl, rfl⟩ (by decide +kernel) rfl ⟨Nat.le_of_ble_eq_true rfl, Nat.le_of_ble_eq_true rfl⟩ hE trivial hK hP (ci := 4) (q0 := 0) rfl rfl hl.1 rfl (Nat.le_of_ble_eq_true rfl) dX4_fits_35 ⟨Nat.zero_le _, Nat.zero_le _⟩ hS (fun _ h => h) (fun H1 locs hz hfr hB hS => ?_)
      have hP := hB
      have hP : va_P D vwCl (wN ci am (toF X (inc X.2.2.2.1 0)) kr q0 q1 q2 q3 q4 q5 iw kn y0 y1 y2 y3 y4 y5 y6) H1 := hP
      generalize H1 = H at hP hS ⊢
      have hD : va_D (aM am) (wN ci am (toF X (inc X.2.2.2.1 0)) kr q0 q1 q2 q3 q4 q5 iw kn y0 y1 y2 y3 y4 y5 y6) := wN_D hI
      have hp : p_fits X (nI s_n) q = (fnd 0, toF X (inc X.2.2.2.1 0)) := by simp [p_fits, p_fitg, bk, fl_eq, inP, Nat.lt_irrefl, c10, lq7, t_s_n, h_bs_]
      refine nv_cv (show fnd 0 = (p_fits X (nI s_n) q).1 from by rw [hp]) ?_
      exact mu_iret hx hb hr hlocks hS ((by rw [hp]; exact ⟨_, _, _, _, _, _, _, _, _, _, _, _, _, _, _, hkr, hP⟩)) dX4_fits_38

set_option maxHeartbeats 4000000 in
set_option maxRecDepth 100000 in
/-- X4_kinds -/
theorem c_X4_kinds (l : Launch) (D : va_G) (ci : Nat → ClassId) (am : Nat → Nat) (X : AS) (kr : Nat → Int32) (q0 q1 q2 q3 q4 q5 : Int32) (iw : Bool) (kn : Nat → Option Nat) (y0 y1 y2 y3 y4 y5 y6 : Nat → Int32) (hI : injA am 16) (s_ q : Int32) (hWX : WFX X) (hkr : kOK X kr) : Met l yX4_kinds wsX4_kinds ({ frames := 11, cells := 0, slots := 0, locals := 258 } : Room) (va_Pc [.ref (am 0), .int (s_), .int (q)] (ro_B D (tyL ci) (wN ci am X kr q0 q1 q2 q3 q4 q5 iw kn y0 y1 y2 y3 y4 y5 y6) (enT))) (mu_Q (aM am) (some (.int ((p_kinds X s_ q).1))) (fun H => ∃ (kr : Nat → Int32) (q0 : Int32) (q1 : Int32) (q2 : Int32) (q3 : Int32) (q4 : Int32) (q5 : Int32) (iw : Bool) (y0 : Nat → Int32) (y1 : Nat → Int32) (y2 : Nat → Int32) (y3 : Nat → Int32) (y4 : Nat → Int32) (y5 : Nat → Int32) (y6 : Nat → Int32), kOK (p_kinds X s_ q).2 kr ∧ va_P D vwCl (wN ci am ((p_kinds X s_ q).2) kr q0 q1 q2 q3 q4 q5 iw kn y0 y1 y2 y3 y4 y5 y6) H)) 0 0 (aM am) := by
  refine mu_Met (cc := cX4_kinds) (maxL := 3) (ret := (some .int)) [(0, .ref (am 0)), (1, .int (s_)), (2, .int (q))] (wN_D hI) (by decide) rfl (Nat.le_of_ble_eq_true rfl) rfl ?_
  intro p e s m below meth c H locs hx hb hml hr hlocks hts hown hP hK hs0 hD hS ls hl
  have hown : s.vm.findClass RX4 = some m.cls := hown
  have hE := hE_T
  have hWF := hWX.w
  have f_n := hWF.n
  have f_e := hWX.e
  have f_tl := hWX.t
  refine lv_aload_n hx hb dX4_kinds_0 rfl (lv_at hl 0 rfl) ?_
  refine lv_iload_n hx hb dX4_kinds_1 rfl (lv_at hl 1 rfl) ?_
  refine ro_V (n := 1) (As := [.int (s_)]) (rest := []) ⟨hx, hb, hml, hown, hts⟩ (c_X4_lacks l D ci am X kr q0 q1 q2 q3 q4 q5 iw kn y0 y1 y2 y3 y4 y5 y6 (s_) hWF hWX) gX4_kinds_X4_lacks rfl ⟨rfl, rfl⟩ (by decide +kernel) rfl ⟨Nat.le_of_ble_eq_true rfl, Nat.le_of_ble_eq_true rfl⟩ hE trivial hK hP (ci := 4) (q0 := 0) rfl rfl hl.1 rfl (Nat.le_of_ble_eq_true rfl) dX4_kinds_2 ⟨Nat.zero_le _, Nat.zero_le _⟩ ?_
  refine lv_if_ne (tgt := 16) hx hb dX4_kinds_5 (by decide) (fun c1 => ?_) (fun c1 => ?_)
  · have lq2 := lkm_ne c1
    have f3 := lack_lt lq2
    refine lv_aload_n hx hb dX4_kinds_16 rfl (lv_at hl 0 rfl) ?_
    refine lv_aload_n hx hb dX4_kinds_17 rfl (lv_at hl 0 rfl) ?_
    refine lv_iload_n hx hb dX4_kinds_18 rfl (lv_at hl 1 rfl) ?_
    refine ro_V (n := 1) (As := [.int (s_)]) (rest := [.ref (am 0)]) ⟨hx, hb, hml, hown, hts⟩ (c_X4_lacks l D ci am X kr q0 q1 q2 q3 q4 q5 iw kn y0 y1 y2 y3 y4 y5 y6 (s_) hWF hWX) gX4_kinds_X4_lacks rfl ⟨rfl, rfl⟩ (by decide +kernel) rfl ⟨Nat.le_of_ble_eq_true rfl, Nat.le_of_ble_eq_true rfl⟩ hE trivial hK hP (ci := 4) (q0 := 0) rfl rfl hl.1 rfl (Nat.le_of_ble_eq_true rfl) dX4_kinds_19 ⟨Nat.zero_le _, Nat.zero_le _⟩ ?_
    refine lv_if_eq (tgt := 33) hx hb dX4_kinds_22 (by decide) (fun c4 => ?_) (fun c4 => ?_)
    · exact absurd c4 c1
    · have lq5 := lkm_ne c4
      have f6 := lack_lt lq5
      refine lv_aload_n hx hb dX4_kinds_25 rfl (lv_at hl 0 rfl) ?_
      refine lv_iload_n hx hb dX4_kinds_26 rfl (lv_at hl 1 rfl) ?_
      refine ro_V (n := 1) (As := [.int (s_)]) (rest := [.ref (am 0)]) ⟨hx, hb, hml, hown, hts⟩ (c_X4_lacks l D ci am X kr q0 q1 q2 q3 q4 q5 iw kn y0 y1 y2 y3 y4 y5 y6 (s_) hWF hWX) gX4_kinds_X4_lacks rfl ⟨rfl, rfl⟩ (by decide +kernel) rfl ⟨Nat.le_of_ble_eq_true rfl, Nat.le_of_ble_eq_true rfl⟩ hE trivial hK hP (ci := 4) (q0 := 0) rfl rfl hl.1 rfl (Nat.le_of_ble_eq_true rfl) dX4_kinds_27 ⟨Nat.zero_le _, Nat.zero_le _⟩ ?_
      refine lv_goto (tgt := 35) hx hb dX4_kinds_30 (by decide) ?_
      refine mu_V (n := 1) (As := [.int (lkm (lackN X s_))]) (rest := []) ⟨hx, hb, hml, hown, hts⟩ (c_X4_finding l D ci am X kr q0 q1 q2 q3 q4 q5 iw kn y0 y1 y2 y3 y4 y5 y6 hI (lkm (lackN X s_)) (lackN X s_) (by omega) (lkm_f lq5)) gX4_kinds_X4_finding rfl ⟨rfl, rfl⟩ (by decide +kernel) rfl ⟨Nat.le_of_ble_eq_true rfl, Nat.le_of_ble_eq_true rfl⟩ hE trivial hK hP (ci := 4) (q0 := 0) rfl rfl hl.1 rfl (Nat.le_of_ble_eq_true rfl) dX4_kinds_35 ⟨Nat.zero_le _, Nat.zero_le _⟩ hS (fun _ h => h) (fun H1 locs hz hfr hB hS => ?_)
      have hP := hB
      have hP : va_P D vwCl (wN ci am (toF X (inc X.2.2.2.1 (lackN X s_))) kr q0 q1 q2 q3 q4 q5 iw kn y0 y1 y2 y3 y4 y5 y6) H1 := hP
      generalize H1 = H at hP hS ⊢
      have hD : va_D (aM am) (wN ci am (toF X (inc X.2.2.2.1 (lackN X s_))) kr q0 q1 q2 q3 q4 q5 iw kn y0 y1 y2 y3 y4 y5 y6) := wN_D hI
      have hp : p_kinds X s_ q = (fnd (lackN X s_), toF X (inc X.2.2.2.1 (lackN X s_))) := by simp [p_kinds, p_fitg, bk, fl_eq, inP, c1, c4, lq2, lq5]
      refine nv_cv (show fnd (lackN X s_) = (p_kinds X s_ q).1 from by rw [hp]) ?_
      exact mu_iret hx hb hr hlocks hS ((by rw [hp]; exact ⟨_, _, _, _, _, _, _, _, _, _, _, _, _, _, _, hkr, hP⟩)) dX4_kinds_38
  · have lq7 := lkm_eq c1
    obtain ⟨s_n, h_s_n, h_bs_, rfl⟩ := lack_ok lq7
    have t_s_n : tn (nI s_n) = s_n := tn_nI (by omega)
    have f8 := hWX.sl s_n
    have f9 := sb_lt hWX s_n
    refine lv_aload_n hx hb dX4_kinds_8 rfl (lv_at hl 0 rfl) ?_
    refine lv_iload_n hx hb dX4_kinds_9 rfl (lv_at hl 2 rfl) ?_
    refine ro_V (n := 1) (As := [.int (q)]) (rest := []) ⟨hx, hb, hml, hown, hts⟩ (c_X4_isPlayer l D ci am X kr q0 q1 q2 q3 q4 q5 iw kn y0 y1 y2 y3 y4 y5 y6 (q) hWF) gX4_kinds_X4_isPlayer rfl ⟨rfl, rfl⟩ (by decide +kernel) rfl ⟨Nat.le_of_ble_eq_true rfl, Nat.le_of_ble_eq_true rfl⟩ hE trivial hK hP (ci := 4) (q0 := 0) rfl rfl hl.1 rfl (Nat.le_of_ble_eq_true rfl) dX4_kinds_10 ⟨Nat.zero_le _, Nat.zero_le _⟩ ?_
    refine nv_ifne_b (tgt := 39) hx hb dX4_kinds_13 (by decide) (fun c10 => ?_) (fun c10 => ?_)
    · obtain ⟨qn, h_qn, rfl⟩ := in_ex c10 (by omega)
      have t_qn : tn (nI qn) = qn := tn_nI (by omega)
      refine lv_aload_n hx hb dX4_kinds_39 rfl (lv_at hl 0 rfl) ?_
      refine lv_iload_n hx hb dX4_kinds_40 rfl (lv_at hl 1 rfl) ?_
      refine lv_iload_n hx hb dX4_kinds_41 rfl (lv_at hl 2 rfl) ?_
      refine lv_iconst (v := nI (0)) hx hb dX4_kinds_42 (by decide) ?_
      refine lv_bipush (v := nI (7)) hx hb dX4_kinds_43 (by decide) ?_
      refine mu_V (n := 4) (As := [.int (nI s_n), .int (nI qn), .int (nI 0), .int (nI 7)]) (rest := []) ⟨hx, hb, hml, hown, hts⟩ (c_X4_fitting_kind l D ci am X kr q0 q1 q2 q3 q4 q5 iw kn y0 y1 y2 y3 y4 y5 y6 hI (s_n) (qn) hWF (by omega) (by omega) (by omega) (by omega)) gX4_kinds_X4_fitting rfl ⟨rfl, rfl⟩ (by decide +kernel) rfl ⟨Nat.le_of_ble_eq_true rfl, Nat.le_of_ble_eq_true rfl⟩ hE trivial hK hP (ci := 4) (q0 := 0) rfl rfl hl.1 rfl (Nat.le_of_ble_eq_true rfl) dX4_kinds_45 ⟨Nat.zero_le _, Nat.zero_le _⟩ hS (fun _ h => h) (fun H1 locs hz hfr hB hS => ?_)
      obtain ⟨y0_11, y1_12, hP⟩ := hB
      have hP : va_P D vwCl (wN ci am X kr q0 q1 q2 q3 q4 q5 iw kn y0_11 y1_12 y2 y3 y4 y5 y6) H1 := hP
      generalize H1 = H at hP hS ⊢
      have hD : va_D (aM am) (wN ci am X kr q0 q1 q2 q3 q4 q5 iw kn y0_11 y1_12 y2 y3 y4 y5 y6) := wN_D hI
      have hp : p_kinds X (nI s_n) (nI qn) = (nI (setTo (fun v => goA (st X.1 1 qn v) (X.2.2.2.2.2.2.2.1 s_n) (X.2.2.2.2.2.2.2.2 s_n) qn) 7), X) := by simp [p_kinds, p_fitg, bk, fl_eq, inP, Nat.lt_irrefl, c10, lq7, t_s_n, h_bs_, t_qn]
      refine nv_cv (show nI (setTo (fun v => goA (st X.1 1 qn v) (X.2.2.2.2.2.2.2.1 s_n) (X.2.2.2.2.2.2.2.2 s_n) qn) 7) = (p_kinds X (nI s_n) (nI qn)).1 from by rw [hp]) ?_
      exact mu_iret hx hb hr hlocks hS ((by rw [hp]; exact ⟨_, _, _, _, _, _, _, _, _, _, _, _, _, _, _, hkr, hP⟩)) dX4_kinds_48
    · refine lv_aload_n hx hb dX4_kinds_16 rfl (lv_at hl 0 rfl) ?_
      refine lv_aload_n hx hb dX4_kinds_17 rfl (lv_at hl 0 rfl) ?_
      refine lv_iload_n hx hb dX4_kinds_18 rfl (lv_at hl 1 rfl) ?_
      refine ro_V (n := 1) (As := [.int (nI s_n)]) (rest := [.ref (am 0)]) ⟨hx, hb, hml, hown, hts⟩ (c_X4_lacks l D ci am X kr q0 q1 q2 q3 q4 q5 iw kn y0 y1 y2 y3 y4 y5 y6 (nI (s_n)) hWF hWX) gX4_kinds_X4_lacks rfl ⟨rfl, rfl⟩ (by decide +kernel) rfl ⟨Nat.le_of_ble_eq_true rfl, Nat.le_of_ble_eq_true rfl⟩ hE trivial hK hP (ci := 4) (q0 := 0) rfl rfl hl.1 rfl (Nat.le_of_ble_eq_true rfl) dX4_kinds_19 ⟨Nat.zero_le _, Nat.zero_le _⟩ ?_
      refine nv_cv (show lkm (lackN X (nI (s_n))) = nI (0) from lkm_7 lq7) ?_
      refine lv_if_eq (tgt := 33) hx hb dX4_kinds_22 (by decide) (fun _ => ?_) (fun h => absurd (by decide) h)
      refine lv_ldc (v := -1000001) hx hb hown (hts (.constant RX4 72 (-1000001)) (List.mem_of_getElem? (i := 1) rfl)) dX4_kinds_33 ?_
      refine mu_V (n := 1) (As := [.int (-1000001)]) (rest := []) ⟨hx, hb, hml, hown, hts⟩ (c_X4_finding l D ci am X kr q0 q1 q2 q3 q4 q5 iw kn y0 y1 y2 y3 y4 y5 y6 hI (-1000001) (0) (by omega) (by decide)) gX4_kinds_X4_finding rfl ⟨rfl, rfl⟩ (by decide +kernel) rfl ⟨Nat.le_of_ble_eq_true rfl, Nat.le_of_ble_eq_true rfl⟩ hE trivial hK hP (ci := 4) (q0 := 0) rfl rfl hl.1 rfl (Nat.le_of_ble_eq_true rfl) dX4_kinds_35 ⟨Nat.zero_le _, Nat.zero_le _⟩ hS (fun _ h => h) (fun H1 locs hz hfr hB hS => ?_)
      have hP := hB
      have hP : va_P D vwCl (wN ci am (toF X (inc X.2.2.2.1 0)) kr q0 q1 q2 q3 q4 q5 iw kn y0 y1 y2 y3 y4 y5 y6) H1 := hP
      generalize H1 = H at hP hS ⊢
      have hD : va_D (aM am) (wN ci am (toF X (inc X.2.2.2.1 0)) kr q0 q1 q2 q3 q4 q5 iw kn y0 y1 y2 y3 y4 y5 y6) := wN_D hI
      have hp : p_kinds X (nI s_n) q = (fnd 0, toF X (inc X.2.2.2.1 0)) := by simp [p_kinds, p_fitg, bk, fl_eq, inP, Nat.lt_irrefl, c10, lq7, t_s_n, h_bs_]
      refine nv_cv (show fnd 0 = (p_kinds X (nI s_n) q).1 from by rw [hp]) ?_
      exact mu_iret hx hb hr hlocks hS ((by rw [hp]; exact ⟨_, _, _, _, _, _, _, _, _, _, _, _, _, _, _, hkr, hP⟩)) dX4_kinds_38

set_option maxHeartbeats 4000000 in
set_option maxRecDepth 100000 in
/-- X4_drawn -/
theorem c_X4_drawn (l : Launch) (D : va_G) (ci : Nat → ClassId) (am : Nat → Nat) (X : AS) (kr : Nat → Int32) (q0 q1 q2 q3 q4 q5 : Int32) (iw : Bool) (kn : Nat → Option Nat) (y0 y1 y2 y3 y4 y5 y6 : Nat → Int32) (hI : injA am 16)   : Met l yX4_drawn wsX4_drawn ({ frames := 0, cells := 0, slots := 0, locals := 0 } : Room) (va_Pc [.ref (am 0)] (ro_B D (tyL ci) (wN ci am X kr q0 q1 q2 q3 q4 q5 iw kn y0 y1 y2 y3 y4 y5 y6) (enT))) (mu_Q (aM am) (some (.int (nI ((dz (X.1 9 0) % 4294967296 / 2 ^ (8)))))) (fun H => va_P D vwCl (wN ci am (toS X (st X.1 9 0 (dz (X.1 9 0)))) kr q0 q1 q2 q3 q4 q5 iw kn y0 y1 y2 y3 y4 y5 y6) H)) 0 0 (aM am) := by
  refine mu_Met (cc := cX4_drawn) (maxL := 1) (ret := (some .int)) [(0, .ref (am 0))] (wN_D hI) (by decide) rfl (Nat.le_of_ble_eq_true rfl) rfl ?_
  intro p e s m below meth c H locs hx hb hml hr hlocks hts hown hP hK hs0 hD hS ls hl
  have hown : s.vm.findClass RX4 = some m.cls := hown
  have hinX4 : ∀ w ∈ wsX40, w ∈ wsX4_drawn := by decide +kernel
  have hE := hE_T
  refine lv_aload_n hx hb dX4_drawn_0 rfl (lv_at hl 0 rfl) ?_
  refine va_get (D := D) (ci := 4) (v := .ref (am 1)) (C := RX4) (T := TX4) (N := 24) hx hb hts hinX4 hown hK hP 0 rfl rfl 0 (by decide) (hts (.fieldLink RX4 9 "OneShortModel" "now" "[I") (List.mem_of_getElem? (i := 1) rfl)) (fun _ h9 => h9) rfl dX4_drawn_1 ?_
  refine lv_iconst (v := nI (2)) hx hb dX4_drawn_4 (by decide) ?_
  refine lv_aload_n hx hb dX4_drawn_5 rfl (lv_at hl 0 rfl) ?_
  refine va_get (D := D) (ci := 4) (v := .ref (am 1)) (C := RX4) (T := TX4) (N := 24) hx hb hts hinX4 hown hK hP 0 rfl rfl 0 (by decide) (hts (.fieldLink RX4 9 "OneShortModel" "now" "[I") (List.mem_of_getElem? (i := 1) rfl)) (fun _ h9 => h9) rfl dX4_drawn_6 ?_
  refine lv_iconst (v := nI (2)) hx hb dX4_drawn_9 (by decide) ?_
  refine nv_iald (v := nI (X.1 9 0)) hx hb hK hP 1 0 rfl rfl (by omega) (by decide) (pk_z X.1) dX4_drawn_10 ?_
  refine lv_ldc (v := nI (1103515245)) hx hb hown (hts (.constant RX4 242 (1103515245)) (List.mem_of_getElem? (i := 2) rfl)) dX4_drawn_11 ?_
  refine nv_imul hx hb dX4_drawn_13 ?_
  refine lv_sipush (v := nI (12345)) hx hb dX4_drawn_14 (by decide) ?_
  refine nv_iadd hx hb dX4_drawn_17 ?_
  refine nv_iast hx hb hK hP hD hS 1 0 rfl rfl (by omega) (by decide) dX4_drawn_18 (fun H locs hP hD hS => ?_)
  have hP : va_P D vwCl (wN ci am (toS X (st X.1 9 0 ((X.1 9 0 * 1103515245) + 12345))) kr q0 q1 q2 q3 q4 q5 iw kn y0 y1 y2 y3 y4 y5 y6) H := va_P.re (wN_now ci am X kr q0 q1 q2 q3 q4 q5 iw kn y0 y1 y2 y3 y4 y5 y6 (2) (nI (((X.1 9 0 * 1103515245) + 12345))) (pku_z X.1)) hP
  have hD : va_D (aM am) (wN ci am (toS X (st X.1 9 0 ((X.1 9 0 * 1103515245) + 12345))) kr q0 q1 q2 q3 q4 q5 iw kn y0 y1 y2 y3 y4 y5 y6) := wN_D hI
  refine lv_aload_n hx hb dX4_drawn_19 rfl (lv_at hl 0 rfl) ?_
  refine va_get (D := D) (ci := 4) (v := .ref (am 1)) (C := RX4) (T := TX4) (N := 24) hx hb hts hinX4 hown hK hP 0 rfl rfl 0 (by decide) (hts (.fieldLink RX4 9 "OneShortModel" "now" "[I") (List.mem_of_getElem? (i := 1) rfl)) (fun _ h9 => h9) rfl dX4_drawn_20 ?_
  refine lv_iconst (v := nI (2)) hx hb dX4_drawn_23 (by decide) ?_
  refine nv_iald (v := nI ((st X.1 9 0 ((X.1 9 0 * 1103515245) + 12345)) 9 0)) hx hb hK hP 1 0 rfl rfl (by omega) (by decide) (pk_z (st X.1 9 0 ((X.1 9 0 * 1103515245) + 12345))) dX4_drawn_24 ?_
  refine nv_cv (show nI ((st X.1 9 0 ((X.1 9 0 * 1103515245) + 12345)) 9 0) = nI (dz (X.1 9 0)) from rfl) ?_
  refine lv_bipush (v := nI (8)) hx hb dX4_drawn_25 (by decide) ?_
  refine nv_iushr hx hb (by omega) dX4_drawn_27 ?_
  exact mu_iret hx hb hr hlocks hS (hP) dX4_drawn_28

set_option maxHeartbeats 4000000 in
set_option maxRecDepth 100000 in
/-- X4_strings -/
theorem c_X4_strings (l : Launch) (D : va_G) (ci : Nat → ClassId) (am : Nat → Nat) (X : AS) (kr : Nat → Int32) (q0 q1 q2 q3 q4 q5 : Int32) (iw : Bool) (kn : Nat → Option Nat) (y0 y1 y2 y3 y4 y5 y6 : Nat → Int32) (hI : injA am 16) (n : Int32) (hWX : WFX X) (hkr : kOK X kr) : Met l yX4_strings wsX4_strings ({ frames := 9, cells := 0, slots := 0, locals := 206 } : Room) (va_Pc [.ref (am 0), .int (n)] (ro_B D (tyL ci) (wN ci am X kr q0 q1 q2 q3 q4 q5 iw kn y0 y1 y2 y3 y4 y5 y6) (enT))) (mu_Q (aM am) (some (.int ((p_strings X n).1))) (fun H => ∃ (kr : Nat → Int32) (q0 : Int32) (q1 : Int32) (q2 : Int32) (q3 : Int32) (q4 : Int32) (q5 : Int32) (iw : Bool) (y0 : Nat → Int32) (y1 : Nat → Int32) (y2 : Nat → Int32) (y3 : Nat → Int32) (y4 : Nat → Int32) (y5 : Nat → Int32) (y6 : Nat → Int32), kOK (p_strings X n).2 kr ∧ va_P D vwCl (wN ci am ((p_strings X n).2) kr q0 q1 q2 q3 q4 q5 iw kn y0 y1 y2 y3 y4 y5 y6) H)) 0 0 (aM am) := by
  refine mu_Met (cc := cX4_strings) (maxL := 5) (ret := (some .int)) [(0, .ref (am 0)), (1, .int (n))] (wN_D hI) (by decide) rfl (Nat.le_of_ble_eq_true rfl) rfl ?_
  intro p e s m below meth c H locs hx hb hml hr hlocks hts hown hP hK hs0 hD hS ls hl
  have hown : s.vm.findClass RX4 = some m.cls := hown
  have hinX4 : ∀ w ∈ wsX40, w ∈ wsX4_strings := by decide +kernel
  have hE := hE_T
  have hWF := hWX.w
  have f_n := hWF.n
  have f_e := hWX.e
  have f_tl := hWX.t
  refine lv_iload_n hx hb dX4_strings_0 rfl (lv_at hl 1 rfl) ?_
  refine lv_iconst (v := nI (1)) hx hb dX4_strings_1 (by decide) ?_
  refine lv_bipush (v := nI (12)) hx hb dX4_strings_2 (by decide) ?_
  refine ro_S (n := 3) (As := [.int (n), .int (nI 1), .int (nI 12)]) (rest := []) ⟨hx, hb, hml, hown, hts⟩ (c_X4_within l D ci (wN ci am X kr q0 q1 q2 q3 q4 q5 iw kn y0 y1 y2 y3 y4 y5 y6) (n) (nI (1)) (nI (12)) ) gX4_strings_X4_within rfl ⟨rfl, rfl⟩ (by decide +kernel) rfl ⟨Nat.le_of_ble_eq_true rfl, Nat.le_of_ble_eq_true rfl⟩ hE trivial hK hP hl.1 rfl (Nat.le_of_ble_eq_true rfl) dX4_strings_4 ⟨Nat.zero_le _, Nat.zero_le _⟩ ?_
  refine nv_cv (congrArg bI (wth_inR n 1 12 (by decide) (by decide))) ?_
  refine nv_ifne_b (tgt := 17) hx hb dX4_strings_7 (by decide) (fun c1 => ?_) (fun c1 => ?_)
  · obtain ⟨nn, h_nn, h_nn2, rfl⟩ := inR_ex c1 (by decide)
    have t_nn : tn (nI nn) = nn := tn_nI (by omega)
    refine lv_aload_n hx hb dX4_strings_17 rfl (lv_at hl 0 rfl) ?_
    refine va_get (D := D) (ci := 4) (v := .ref (am 1)) (C := RX4) (T := TX4) (N := 24) hx hb hts hinX4 hown hK hP 0 rfl rfl 0 (by decide) (hts (.fieldLink RX4 9 "OneShortModel" "now" "[I") (List.mem_of_getElem? (i := 2) rfl)) (fun _ h9 => h9) rfl dX4_strings_18 ?_
    refine lv_iconst (v := nI (0)) hx hb dX4_strings_21 (by decide) ?_
    refine nv_iald (v := nI (X.1 8 0)) hx hb hK hP 1 0 rfl rfl (by omega) (by decide) (pk_ev X.1) dX4_strings_22 ?_
    refine lv_iload_n hx hb dX4_strings_23 rfl (lv_at hl 1 rfl) ?_
    refine nv_iadd hx hb dX4_strings_24 ?_
    refine lv_ldc (v := nI (99999)) hx hb hown (hts (.constant RX4 183 (99999)) (List.mem_of_getElem? (i := 3) rfl)) dX4_strings_25 ?_
    refine nv_icmp_le (tgt := 37) hx hb (by omega) (by omega) dX4_strings_27 (by decide) (fun c2 => ?_) (fun c2 => ?_)
    · refine lv_iconst (v := nI (0)) hx hb dX4_strings_37 (by decide) ?_
      refine lv_istore_n (lv' := [(2, .int (nI 0)), (0, .ref (am 0)), (1, .int (nI nn))]) hx hb dX4_strings_38 rfl hl (by decide) rfl (fun ls hl => ?_)
      refine lv_iconst (v := nI (0)) hx hb dX4_strings_39 (by decide) ?_
      refine lv_istore_n (lv' := [(3, .int (nI 0)), (2, .int (nI 0)), (0, .ref (am 0)), (1, .int (nI nn))]) hx hb dX4_strings_40 rfl hl (by decide) rfl (fun ls hl => ?_)
      have L41 : ∀ (k41 : Nat) (i : Nat), nn - i < k41 → (i ≤ nn) → (X.1 8 0 + nn ≤ 99999) → ∀ (x2 : Int32), ∀ (x3 : Int32), x2 = nI ((strN X.1 (i)).2) → x3 = nI (i) → ∀ (y1 : Nat → Int32), ∀ (H : Heap) (locs : List Loc), va_P D vwCl (wN ci am (toS X ((strN X.1 i).1)) kr q0 q1 q2 q3 q4 q5 iw kn y0 y1 y2 y3 y4 y5 y6) H → va_S (aM am) s.heap H locs → ∀ ls : Array Slot, lv_has ls 5 [(2, .int (x2)), (3, .int (x3)), (0, .ref (am 0)), (1, .int (nI nn))] → W p l e (headSpec wsX4_strings ({ frames := 9, cells := 0, slots := 0, locals := 206 } : Room)).room s m ([.ref (am 0), .int (nI nn)] : List Value).toArray below meth c H locs 0 0 (MQ below (mu_Q (aM am) (some (.int ((p_strings X (nI nn)).1))) (fun H => ∃ (kr : Nat → Int32) (q0 : Int32) (q1 : Int32) (q2 : Int32) (q3 : Int32) (q4 : Int32) (q5 : Int32) (iw : Bool) (y0 : Nat → Int32) (y1 : Nat → Int32) (y2 : Nat → Int32) (y3 : Nat → Int32) (y4 : Nat → Int32) (y5 : Nat → Int32) (y6 : Nat → Int32), kOK (p_strings X (nI nn)).2 kr ∧ va_P D vwCl (wN ci am ((p_strings X (nI nn)).2) kr q0 q1 q2 q3 q4 q5 iw kn y0 y1 y2 y3 y4 y5 y6) H)) ([.ref (am 0), .int (nI nn)] : List Value).toArray s 0 0 (aM am)) (F0 m 41 ls []) := by
        intro k41
        induction k41 with
        | zero => intro i h0; exact absurd h0 (Nat.not_lt_zero _)
        | succ k41 ih41 =>
          intro i hk41 h_i h_b x2 x3 e2 e3 y1 H locs hP hS ls hl
          subst e2
          subst e3
          have hD : va_D (aM am) (wN ci am (toS X ((strN X.1 i).1)) kr q0 q1 q2 q3 q4 q5 iw kn y0 y1 y2 y3 y4 y5 y6) := wN_D hI
          have hWFi := WF_strN hWF i
          have f_ni := hWFi.n
          have f_8 := strN_8 (S := X.1) i (by omega)
          have f_dr := drw_lt (strN X.1 i).1
          refine lv_iload_n hx hb dX4_strings_41 rfl (lv_at hl 1 rfl) ?_
          refine lv_iload_n hx hb dX4_strings_42 rfl (lv_at hl 3 rfl) ?_
          refine nv_icmp_ge (tgt := 89) hx hb (by omega) (by omega) dX4_strings_43 (by decide) (fun c3 => ?_) (fun c3 => ?_)
          · refine lv_iload_n hx hb dX4_strings_89 rfl (lv_at hl 0 rfl) ?_
            have hp : p_strings X (nI nn) = (nI ((strN X.1 (i)).2), toS X ((strN X.1 i).1)) := by first | (simp [p_strings, bk, fl_eq, c1, c2, c3, t_nn]; done) | (rw [show i = nn by omega]; simp [p_strings, bk, fl_eq, show X.1 8 0 + nn ≤ 99999 by omega, c1, c2, c3, t_nn]; done) | (simp [p_strings, bk, fl_eq, show ¬ X.1 8 0 + nn ≤ 99999 by omega, c1, c2, c3, t_nn]; done)
            refine nv_cv (show nI ((strN X.1 (i)).2) = (p_strings X (nI nn)).1 from by rw [hp]) ?_
            exact mu_iret hx hb hr hlocks hS ((by rw [hp]; exact ⟨_, _, _, _, _, _, _, _, _, _, _, _, _, _, _, hkr, hP⟩)) dX4_strings_90
          · refine lv_aload_n hx hb dX4_strings_46 rfl (lv_at hl 2 rfl) ?_
            refine mu_V (n := 0) (As := []) (rest := []) ⟨hx, hb, hml, hown, hts⟩ (c_X4_drawn l D ci am (toS X ((strN X.1 i).1)) kr q0 q1 q2 q3 q4 q5 iw kn y0 y1 y2 y3 y4 y5 y6 hI  ) gX4_strings_X4_drawn rfl ⟨rfl, rfl⟩ (by decide +kernel) rfl ⟨Nat.le_of_ble_eq_true rfl, Nat.le_of_ble_eq_true rfl⟩ hE trivial hK hP (ci := 4) (q0 := 0) rfl rfl hl.1 rfl (Nat.le_of_ble_eq_true rfl) dX4_strings_47 ⟨Nat.zero_le _, Nat.zero_le _⟩ hS (fun _ h => h) (fun H1 locs hz hfr hB hS => ?_)
            have hP := hB
            have hP : va_P D vwCl (wN ci am (toS X (st ((strN X.1 i).1) 9 0 (dz (((strN X.1 i).1) 9 0)))) kr q0 q1 q2 q3 q4 q5 iw kn y0 y1 y2 y3 y4 y5 y6) H1 := hP
            generalize H1 = H at hP hS ⊢
            have hD : va_D (aM am) (wN ci am (toS X (st ((strN X.1 i).1) 9 0 (dz (((strN X.1 i).1) 9 0)))) kr q0 q1 q2 q3 q4 q5 iw kn y0 y1 y2 y3 y4 y5 y6) := wN_D hI
            refine nv_cv (show nI ((dz ((toS X ((strN X.1 i).1)).1 9 0) % 4294967296 / 2 ^ (8))) = nI ((dz (((strN X.1 i).1) 9 0) % 4294967296 / 2 ^ (8))) from rfl) ?_
            refine lv_bipush (v := nI (16)) hx hb dX4_strings_50 (by decide) ?_
            refine nv_irem hx hb (by omega) (by omega) (by omega) dX4_strings_52 ?_
            refine nv_cv (show nI (((dz (((strN X.1 i).1) 9 0) % 4294967296 / 2 ^ (8)) % 16)) = nI (drw (strN X.1 i).1) from rfl) ?_
            refine lv_istore (lv' := [(4, .int (nI (drw (strN X.1 i).1))), (2, .int (nI ((strN X.1 (i)).2))), (3, .int (nI i)), (0, .ref (am 0)), (1, .int (nI nn))]) hx hb dX4_strings_53 hl (by decide) rfl (fun ls hl => ?_)
            refine lv_aload_n hx hb dX4_strings_55 rfl (lv_at hl 3 rfl) ?_
            refine lv_iload hx hb dX4_strings_56 (lv_at hl 0 rfl) ?_
            refine ro_V (n := 1) (As := [.int (nI (drw (strN X.1 i).1))]) (rest := []) ⟨hx, hb, hml, hown, hts⟩ (c_X4_isPlayer l D ci am (toS X (st ((strN X.1 i).1) 9 0 (dz (((strN X.1 i).1) 9 0)))) kr q0 q1 q2 q3 q4 q5 iw kn y0 y1 y2 y3 y4 y5 y6 (nI (drw (strN X.1 i).1)) (WF_st9 hWFi 0 _)) gX4_strings_X4_isPlayer rfl ⟨rfl, rfl⟩ (by decide +kernel) rfl ⟨Nat.le_of_ble_eq_true rfl, Nat.le_of_ble_eq_true rfl⟩ hE trivial hK hP (ci := 4) (q0 := 0) rfl rfl hl.1 rfl (Nat.le_of_ble_eq_true rfl) dX4_strings_58 ⟨Nat.zero_le _, Nat.zero_le _⟩ ?_
            refine nv_cv (show bI (inN (nI (drw (strN X.1 i).1)) ((toS X (st ((strN X.1 i).1) 9 0 (dz (((strN X.1 i).1) 9 0)))).1 7 0)) = bI (inN (nI (drw (strN X.1 i).1)) ((st ((strN X.1 i).1) 9 0 (dz (((strN X.1 i).1) 9 0))) 7 0)) from rfl) ?_
            refine nv_ifeq_b (tgt := 79) hx hb dX4_strings_61 (by decide) (fun c4 => ?_) (fun c4 => ?_)
            · have d5 : ¬ drw (strN X.1 i).1 < (strN X.1 i).1 7 0 := by
                have h9 : inN (nI (drw (strN X.1 i).1)) ((strN X.1 i).1 7 0) = false := c4
                rw [in_nI (by have := drw_lt (strN X.1 i).1; omega)] at h9
                simpa using h9
              refine lv_aload_n hx hb dX4_strings_79 rfl (lv_at hl 3 rfl) ?_
              refine mu_V (n := 0) (As := []) (rest := []) ⟨hx, hb, hml, hown, hts⟩ (c_X4_evening l D ci am (toS X (st ((strN X.1 i).1) 9 0 (dz (((strN X.1 i).1) 9 0)))) kr q0 q1 q2 q3 q4 q5 iw kn y0 y1 y2 y3 y4 y5 y6 hI  (by first | exact WF_st5 (WF_st9 hWFi 0 _) _ (by decide) | exact WF_st9 hWFi 0 _) (show (strN X.1 i).1 8 0 < 199999 by omega)) gX4_strings_X4_evening rfl ⟨rfl, rfl⟩ (by decide +kernel) rfl ⟨Nat.le_of_ble_eq_true rfl, Nat.le_of_ble_eq_true rfl⟩ hE trivial hK hP (ci := 4) (q0 := 0) rfl rfl hl.1 rfl (Nat.le_of_ble_eq_true rfl) dX4_strings_80 ⟨Nat.zero_le _, Nat.zero_le _⟩ hS (fun _ h => h) (fun H1 locs hz hfr hB hS => ?_)
              obtain ⟨y1_6, hP⟩ := hB
              have hP : va_P D vwCl (wN ci am (toS X (evM (st ((strN X.1 i).1) 9 0 (dz (((strN X.1 i).1) 9 0))))) kr q0 q1 q2 q3 q4 q5 iw kn y0 y1_6 y2 y3 y4 y5 y6) H1 := hP
              generalize H1 = H at hP hS ⊢
              have hD : va_D (aM am) (wN ci am (toS X (evM (st ((strN X.1 i).1) 9 0 (dz (((strN X.1 i).1) 9 0))))) kr q0 q1 q2 q3 q4 q5 iw kn y0 y1_6 y2 y3 y4 y5 y6) := wN_D hI
              refine nv_iinc1 (lv' := [(3, .int (nI (i + 1))), (4, .int (nI (drw (strN X.1 i).1))), (2, .int (nI ((strN X.1 (i)).2))), (0, .ref (am 0)), (1, .int (nI nn))]) hx hb dX4_strings_83 hl (k := 2) rfl (by decide) rfl (fun ls hl => ?_)
              refine lv_goto (tgt := 41) hx hb dX4_strings_86 (by decide) ?_
              exact ih41 (i + 1) (by omega) (by omega) (by omega) (nI ((strN X.1 (i)).2)) (nI (i + 1)) (nv_e (by first | rw [strN_h1 d5] | rw [strN_h2 d5])) rfl (y1_6) _ _ (va_P.re (by first | rw [strN_s1 (by omega) d5] | rw [strN_s2 (by omega) d5]) hP) hS ls (lv_sub hl [2, 0, 3, 4] rfl)
            · have d7 : drw (strN X.1 i).1 < (strN X.1 i).1 7 0 := by
                have h9 : inN (nI (drw (strN X.1 i).1)) ((strN X.1 i).1 7 0) = true := c4
                rw [in_nI (by have := drw_lt (strN X.1 i).1; omega)] at h9
                simpa using h9
              refine lv_aload_n hx hb dX4_strings_64 rfl (lv_at hl 3 rfl) ?_
              refine va_get (D := D) (ci := 4) (v := .ref (am 1)) (C := RX4) (T := TX4) (N := 24) hx hb hts hinX4 hown hK hP 0 rfl rfl 0 (by decide) (hts (.fieldLink RX4 9 "OneShortModel" "now" "[I") (List.mem_of_getElem? (i := 2) rfl)) (fun _ h9 => h9) rfl dX4_strings_65 ?_
              refine lv_iload hx hb dX4_strings_68 (lv_at hl 0 rfl) ?_
              refine lv_iconst (v := nI (4)) hx hb dX4_strings_70 (by decide) ?_
              refine ro_S (n := 2) (As := [.int (nI (drw (strN X.1 i).1)), .int (nI 4)]) (rest := [.ref (am 1)]) ⟨hx, hb, hml, hown, hts⟩ (c_X4_at l D ci (wN ci am (toS X (st ((strN X.1 i).1) 9 0 (dz (((strN X.1 i).1) 9 0)))) kr q0 q1 q2 q3 q4 q5 iw kn y0 y1 y2 y3 y4 y5 y6) (drw (strN X.1 i).1) (4) ) gX4_strings_X4_at rfl ⟨rfl, rfl⟩ (by decide +kernel) rfl ⟨Nat.le_of_ble_eq_true rfl, Nat.le_of_ble_eq_true rfl⟩ hE trivial hK hP hl.1 rfl (Nat.le_of_ble_eq_true rfl) dX4_strings_71 ⟨Nat.zero_le _, Nat.zero_le _⟩ ?_
              refine lv_iconst (v := nI (0)) hx hb dX4_strings_74 (by decide) ?_
              refine nv_iast hx hb hK hP hD hS 1 0 rfl rfl (by omega) (by decide) dX4_strings_75 (fun H locs hP hD hS => ?_)
              have hP : va_P D vwCl (wN ci am (toS X (st (st ((strN X.1 i).1) 9 0 (dz (((strN X.1 i).1) 9 0))) 5 (drw (strN X.1 i).1) 0)) kr q0 q1 q2 q3 q4 q5 iw kn y0 y1 y2 y3 y4 y5 y6) H := va_P.re (wN_now ci am (toS X (st ((strN X.1 i).1) 9 0 (dz (((strN X.1 i).1) 9 0)))) kr q0 q1 q2 q3 q4 q5 iw kn y0 y1 y2 y3 y4 y5 y6 (25 + 5 * (drw (strN X.1 i).1) + 4) (nI (0)) (pku_f (st ((strN X.1 i).1) 9 0 (dz (((strN X.1 i).1) 9 0))) (drw (strN X.1 i).1) (by omega))) hP
              have hD : va_D (aM am) (wN ci am (toS X (st (st ((strN X.1 i).1) 9 0 (dz (((strN X.1 i).1) 9 0))) 5 (drw (strN X.1 i).1) 0)) kr q0 q1 q2 q3 q4 q5 iw kn y0 y1 y2 y3 y4 y5 y6) := wN_D hI
              refine nv_iinc1 (lv' := [(2, .int (nI ((strN X.1 (i)).2 + 1))), (4, .int (nI (drw (strN X.1 i).1))), (3, .int (nI i)), (0, .ref (am 0)), (1, .int (nI nn))]) hx hb dX4_strings_76 hl (k := 1) rfl (by decide) rfl (fun ls hl => ?_)
              refine lv_aload_n hx hb dX4_strings_79 rfl (lv_at hl 3 rfl) ?_
              refine mu_V (n := 0) (As := []) (rest := []) ⟨hx, hb, hml, hown, hts⟩ (c_X4_evening l D ci am (toS X (st (st ((strN X.1 i).1) 9 0 (dz (((strN X.1 i).1) 9 0))) 5 (drw (strN X.1 i).1) 0)) kr q0 q1 q2 q3 q4 q5 iw kn y0 y1 y2 y3 y4 y5 y6 hI  (by first | exact WF_st5 (WF_st9 hWFi 0 _) _ (by decide) | exact WF_st9 hWFi 0 _) (show (strN X.1 i).1 8 0 < 199999 by omega)) gX4_strings_X4_evening rfl ⟨rfl, rfl⟩ (by decide +kernel) rfl ⟨Nat.le_of_ble_eq_true rfl, Nat.le_of_ble_eq_true rfl⟩ hE trivial hK hP (ci := 4) (q0 := 0) rfl rfl hl.1 rfl (Nat.le_of_ble_eq_true rfl) dX4_strings_80 ⟨Nat.zero_le _, Nat.zero_le _⟩ hS (fun _ h => h) (fun H1 locs hz hfr hB hS => ?_)
              obtain ⟨y1_8, hP⟩ := hB
              have hP : va_P D vwCl (wN ci am (toS X (evM (st (st ((strN X.1 i).1) 9 0 (dz (((strN X.1 i).1) 9 0))) 5 (drw (strN X.1 i).1) 0))) kr q0 q1 q2 q3 q4 q5 iw kn y0 y1_8 y2 y3 y4 y5 y6) H1 := hP
              generalize H1 = H at hP hS ⊢
              have hD : va_D (aM am) (wN ci am (toS X (evM (st (st ((strN X.1 i).1) 9 0 (dz (((strN X.1 i).1) 9 0))) 5 (drw (strN X.1 i).1) 0))) kr q0 q1 q2 q3 q4 q5 iw kn y0 y1_8 y2 y3 y4 y5 y6) := wN_D hI
              refine nv_iinc1 (lv' := [(3, .int (nI (i + 1))), (2, .int (nI ((strN X.1 (i)).2 + 1))), (4, .int (nI (drw (strN X.1 i).1))), (0, .ref (am 0)), (1, .int (nI nn))]) hx hb dX4_strings_83 hl (k := 2) rfl (by decide) rfl (fun ls hl => ?_)
              refine lv_goto (tgt := 41) hx hb dX4_strings_86 (by decide) ?_
              exact ih41 (i + 1) (by omega) (by omega) (by omega) (nI ((strN X.1 (i)).2 + 1)) (nI (i + 1)) (nv_e (by first | rw [strN_h1 d7] | rw [strN_h2 d7])) rfl (y1_8) _ _ (va_P.re (by first | rw [strN_s1 (by omega) d7] | rw [strN_s2 (by omega) d7]) hP) hS ls (lv_sub hl [1, 0, 3, 4] rfl)
      exact L41 _ (0) (Nat.lt_succ_self _) (by omega) (by omega) (nI (0)) (nI (0)) rfl rfl (y1) _ _ (va_P.re (by rfl) hP) hS ls (lv_sub hl [1, 0, 2, 3] rfl)
    · refine lv_aload_n hx hb dX4_strings_30 rfl (lv_at hl 0 rfl) ?_
      refine lv_ldc (v := -1000005) hx hb hown (hts (.constant RX4 184 (-1000005)) (List.mem_of_getElem? (i := 4) rfl)) dX4_strings_31 ?_
      refine mu_V (n := 1) (As := [.int (-1000005)]) (rest := []) ⟨hx, hb, hml, hown, hts⟩ (c_X4_finding l D ci am X kr q0 q1 q2 q3 q4 q5 iw kn y0 y1 y2 y3 y4 y5 y6 hI (-1000005) (4) (by omega) (by decide)) gX4_strings_X4_finding rfl ⟨rfl, rfl⟩ (by decide +kernel) rfl ⟨Nat.le_of_ble_eq_true rfl, Nat.le_of_ble_eq_true rfl⟩ hE trivial hK hP (ci := 4) (q0 := 0) rfl rfl hl.1 rfl (Nat.le_of_ble_eq_true rfl) dX4_strings_33 ⟨Nat.zero_le _, Nat.zero_le _⟩ hS (fun _ h => h) (fun H1 locs hz hfr hB hS => ?_)
      have hP := hB
      have hP : va_P D vwCl (wN ci am (toF X (inc X.2.2.2.1 4)) kr q0 q1 q2 q3 q4 q5 iw kn y0 y1 y2 y3 y4 y5 y6) H1 := hP
      generalize H1 = H at hP hS ⊢
      have hD : va_D (aM am) (wN ci am (toF X (inc X.2.2.2.1 4)) kr q0 q1 q2 q3 q4 q5 iw kn y0 y1 y2 y3 y4 y5 y6) := wN_D hI
      have hp : p_strings X (nI nn) = (fnd 4, toF X (inc X.2.2.2.1 4)) := by first | (simp [p_strings, bk, fl_eq, c1, c2, t_nn]; done) | (rw [show i = nn by omega]; simp [p_strings, bk, fl_eq, show X.1 8 0 + nn ≤ 99999 by omega, c1, c2, t_nn]; done) | (simp [p_strings, bk, fl_eq, show ¬ X.1 8 0 + nn ≤ 99999 by omega, c1, c2, t_nn]; done)
      refine nv_cv (show fnd 4 = (p_strings X (nI nn)).1 from by rw [hp]) ?_
      exact mu_iret hx hb hr hlocks hS ((by rw [hp]; exact ⟨_, _, _, _, _, _, _, _, _, _, _, _, _, _, _, hkr, hP⟩)) dX4_strings_36
  · refine lv_aload_n hx hb dX4_strings_10 rfl (lv_at hl 0 rfl) ?_
    refine lv_ldc (v := -1000001) hx hb hown (hts (.constant RX4 72 (-1000001)) (List.mem_of_getElem? (i := 1) rfl)) dX4_strings_11 ?_
    refine mu_V (n := 1) (As := [.int (-1000001)]) (rest := []) ⟨hx, hb, hml, hown, hts⟩ (c_X4_finding l D ci am X kr q0 q1 q2 q3 q4 q5 iw kn y0 y1 y2 y3 y4 y5 y6 hI (-1000001) (0) (by omega) (by decide)) gX4_strings_X4_finding rfl ⟨rfl, rfl⟩ (by decide +kernel) rfl ⟨Nat.le_of_ble_eq_true rfl, Nat.le_of_ble_eq_true rfl⟩ hE trivial hK hP (ci := 4) (q0 := 0) rfl rfl hl.1 rfl (Nat.le_of_ble_eq_true rfl) dX4_strings_13 ⟨Nat.zero_le _, Nat.zero_le _⟩ hS (fun _ h => h) (fun H1 locs hz hfr hB hS => ?_)
    have hP := hB
    have hP : va_P D vwCl (wN ci am (toF X (inc X.2.2.2.1 0)) kr q0 q1 q2 q3 q4 q5 iw kn y0 y1 y2 y3 y4 y5 y6) H1 := hP
    generalize H1 = H at hP hS ⊢
    have hD : va_D (aM am) (wN ci am (toF X (inc X.2.2.2.1 0)) kr q0 q1 q2 q3 q4 q5 iw kn y0 y1 y2 y3 y4 y5 y6) := wN_D hI
    have hp : p_strings X n = (fnd 0, toF X (inc X.2.2.2.1 0)) := by first | (simp [p_strings, bk, fl_eq, c1]; done) | (rw [show i = nn by omega]; simp [p_strings, bk, fl_eq, show X.1 8 0 + nn ≤ 99999 by omega, c1]; done) | (simp [p_strings, bk, fl_eq, show ¬ X.1 8 0 + nn ≤ 99999 by omega, c1]; done)
    refine nv_cv (show fnd 0 = (p_strings X n).1 from by rw [hp]) ?_
    exact mu_iret hx hb hr hlocks hS ((by rw [hp]; exact ⟨_, _, _, _, _, _, _, _, _, _, _, _, _, _, _, hkr, hP⟩)) dX4_strings_16

set_option maxHeartbeats 4000000 in
set_option maxRecDepth 100000 in
/-- X4_load -/
theorem c_X4_load (l : Launch) (D : va_G) (ci : Nat → ClassId) (am : Nat → Nat) (X : AS) (kr : Nat → Int32) (q0 q1 q2 q3 q4 q5 : Int32) (iw : Bool) (kn : Nat → Option Nat) (y0 y1 y2 y3 y4 y5 y6 : Nat → Int32) (hI : injA am 16) (s_ : Int32) (hWX : WFX X) (hkr : kOK X kr) : Met l yX4_load wsX4_load ({ frames := 3, cells := 0, slots := 0, locals := 63 } : Room) (va_Pc [.ref (am 0), .int (s_)] (ro_B D (tyL ci) (wN ci am X kr q0 q1 q2 q3 q4 q5 iw kn y0 y1 y2 y3 y4 y5 y6) (enT))) (mu_Q (aM am) (some (.int ((p_load X s_).1))) (fun H => ∃ (kr : Nat → Int32) (q0 : Int32) (q1 : Int32) (q2 : Int32) (q3 : Int32) (q4 : Int32) (q5 : Int32) (iw : Bool) (y0 : Nat → Int32) (y1 : Nat → Int32) (y2 : Nat → Int32) (y3 : Nat → Int32) (y4 : Nat → Int32) (y5 : Nat → Int32) (y6 : Nat → Int32), kOK (p_load X s_).2 kr ∧ va_P D vwCl (wN ci am ((p_load X s_).2) kr q0 q1 q2 q3 q4 q5 iw kn y0 y1 y2 y3 y4 y5 y6) H)) 0 0 (aM am) := by
  refine mu_Met (cc := cX4_load) (maxL := 3) (ret := (some .int)) [(0, .ref (am 0)), (1, .int (s_))] (wN_D hI) (by decide) rfl (Nat.le_of_ble_eq_true rfl) rfl ?_
  intro p e s m below meth c H locs hx hb hml hr hlocks hts hown hP hK hs0 hD hS ls hl
  have hown : s.vm.findClass RX4 = some m.cls := hown
  have hinX4 : ∀ w ∈ wsX40, w ∈ wsX4_load := by decide +kernel
  have hE := hE_T
  have hWF := hWX.w
  have f_n := hWF.n
  have f_e := hWX.e
  have f_tl := hWX.t
  refine lv_aload_n hx hb dX4_load_0 rfl (lv_at hl 0 rfl) ?_
  refine lv_iload_n hx hb dX4_load_1 rfl (lv_at hl 1 rfl) ?_
  refine ro_V (n := 1) (As := [.int (s_)]) (rest := []) ⟨hx, hb, hml, hown, hts⟩ (c_X4_lacks l D ci am X kr q0 q1 q2 q3 q4 q5 iw kn y0 y1 y2 y3 y4 y5 y6 (s_) hWF hWX) gX4_load_X4_lacks rfl ⟨rfl, rfl⟩ (by decide +kernel) rfl ⟨Nat.le_of_ble_eq_true rfl, Nat.le_of_ble_eq_true rfl⟩ hE trivial hK hP (ci := 4) (q0 := 0) rfl rfl hl.1 rfl (Nat.le_of_ble_eq_true rfl) dX4_load_2 ⟨Nat.zero_le _, Nat.zero_le _⟩ ?_
  refine lv_if_eq (tgt := 18) hx hb dX4_load_5 (by decide) (fun c1 => ?_) (fun c1 => ?_)
  · have lq2 := lkm_eq c1
    obtain ⟨s_n, h_s_n, h_bs_, rfl⟩ := lack_ok lq2
    have t_s_n : tn (nI s_n) = s_n := tn_nI (by omega)
    have f3 := hWX.sl s_n
    have f4 := sb_lt hWX s_n
    refine lv_iconst (v := nI (0)) hx hb dX4_load_18 (by decide) ?_
    refine lv_istore_n (lv' := [(2, .int (nI 0)), (0, .ref (am 0)), (1, .int (nI s_n))]) hx hb dX4_load_19 rfl hl (by decide) rfl (fun ls hl => ?_)
    have L20 : ∀ (k20 : Nat) (i : Nat), 12 - i < k20 → (i ≤ X.2.2.2.2.2.2.2.1 s_n) → (i ≤ 12) → (∀ j, j < i → (fun i => inN (X.2.2.2.2.2.2.2.2 s_n i) 64) j = true) → ∀ (x2 : Int32), x2 = nI (i) → ∀ (H : Heap) (locs : List Loc), va_P D vwCl (wN ci am (toS X (upF X.1 0 (fun j => tn (X.2.2.2.2.2.2.2.2 s_n j)) i)) kr q0 q1 q2 q3 q4 q5 iw kn y0 y1 y2 y3 y4 y5 y6) H → va_S (aM am) s.heap H locs → ∀ ls : Array Slot, lv_has ls 3 [(2, .int (x2)), (0, .ref (am 0)), (1, .int (nI s_n))] → W p l e (headSpec wsX4_load ({ frames := 3, cells := 0, slots := 0, locals := 63 } : Room)).room s m ([.ref (am 0), .int (nI s_n)] : List Value).toArray below meth c H locs 0 0 (MQ below (mu_Q (aM am) (some (.int ((p_load X (nI s_n)).1))) (fun H => ∃ (kr : Nat → Int32) (q0 : Int32) (q1 : Int32) (q2 : Int32) (q3 : Int32) (q4 : Int32) (q5 : Int32) (iw : Bool) (y0 : Nat → Int32) (y1 : Nat → Int32) (y2 : Nat → Int32) (y3 : Nat → Int32) (y4 : Nat → Int32) (y5 : Nat → Int32) (y6 : Nat → Int32), kOK (p_load X (nI s_n)).2 kr ∧ va_P D vwCl (wN ci am ((p_load X (nI s_n)).2) kr q0 q1 q2 q3 q4 q5 iw kn y0 y1 y2 y3 y4 y5 y6) H)) ([.ref (am 0), .int (nI s_n)] : List Value).toArray s 0 0 (aM am)) (F0 m 20 ls []) := by
      intro k20
      induction k20 with
      | zero => intro i h0; exact absurd h0 (Nat.not_lt_zero _)
      | succ k20 ih20 =>
        intro i hk20 h_i h_i2 h_u x2 e2  H locs hP hS ls hl
        subst e2
        have hD : va_D (aM am) (wN ci am (toS X (upF X.1 0 (fun j => tn (X.2.2.2.2.2.2.2.2 s_n j)) i)) kr q0 q1 q2 q3 q4 q5 iw kn y0 y1 y2 y3 y4 y5 y6) := wN_D hI
        have f_in : inN (nI (i)) 12 = false → ¬ i < 12 := fun h h2 => by rw [in_nI (by omega)] at h; simp [h2] at h
        refine lv_iload_n hx hb dX4_load_20 rfl (lv_at hl 0 rfl) ?_
        refine lv_aload_n hx hb dX4_load_21 rfl (lv_at hl 1 rfl) ?_
        refine va_get (D := D) (ci := 4) (v := .ref (am 13)) (C := RX4) (T := TX4) (N := 24) hx hb hts hinX4 hown hK hP 0 rfl rfl 21 (by decide) (hts (.fieldLink RX4 63 "OneShortModel" "sizes" "[I") (List.mem_of_getElem? (i := 1) rfl)) (fun _ h9 => h9) rfl dX4_load_22 ?_
        refine lv_iload_n hx hb dX4_load_25 rfl (lv_at hl 2 rfl) ?_
        refine nv_iald (v := nI (X.2.2.2.2.2.2.2.1 (s_n))) hx hb hK hP 13 0 rfl rfl (by omega) (by decide) rfl dX4_load_26 ?_
        refine nv_icmp_ge (tgt := 79) hx hb (by omega) (by omega) dX4_load_27 (by decide) (fun c5 => ?_) (fun c5 => ?_)
        · refine lv_iload_n hx hb dX4_load_79 rfl (lv_at hl 0 rfl) ?_
          have hp : p_load X (nI s_n) = (nI (i), toS X (upF X.1 0 (fun j => tn (X.2.2.2.2.2.2.2.2 s_n j)) i)) := by rw [p_load, if_pos lq2, t_s_n, show runN (fun i => inN (X.2.2.2.2.2.2.2.2 s_n i) 64) (min (X.2.2.2.2.2.2.2.1 s_n) 12) = i from by first | exact runN_at (by omega) h_u c5 | (rw [show min (X.2.2.2.2.2.2.2.1 s_n) 12 = i by omega]; exact runN_all h_u)]
          refine nv_cv (show nI (i) = (p_load X (nI s_n)).1 from by rw [hp]) ?_
          exact mu_iret hx hb hr hlocks hS ((by rw [hp]; exact ⟨_, _, _, _, _, _, _, _, _, _, _, _, _, _, _, hkr, hP⟩)) dX4_load_80
        · refine lv_iload_n hx hb dX4_load_30 rfl (lv_at hl 0 rfl) ?_
          refine ro_S (n := 1) (As := [.int (nI i)]) (rest := []) ⟨hx, hb, hml, hown, hts⟩ (c_X4_isBar l D ci (wN ci am (toS X (upF X.1 0 (fun j => tn (X.2.2.2.2.2.2.2.2 s_n j)) i)) kr q0 q1 q2 q3 q4 q5 iw kn y0 y1 y2 y3 y4 y5 y6) (nI (i)) ) gX4_load_X4_isBar rfl ⟨rfl, rfl⟩ (by decide +kernel) rfl ⟨Nat.le_of_ble_eq_true rfl, Nat.le_of_ble_eq_true rfl⟩ hE trivial hK hP hl.1 rfl (Nat.le_of_ble_eq_true rfl) dX4_load_31 ⟨Nat.zero_le _, Nat.zero_le _⟩ ?_
          refine nv_ifeq_b (tgt := 79) hx hb dX4_load_34 (by decide) (fun c6 => ?_) (fun c6 => ?_)
          · have f7 := f_in c6
            refine lv_iload_n hx hb dX4_load_79 rfl (lv_at hl 0 rfl) ?_
            have hp : p_load X (nI s_n) = (nI (i), toS X (upF X.1 0 (fun j => tn (X.2.2.2.2.2.2.2.2 s_n j)) i)) := by rw [p_load, if_pos lq2, t_s_n, show runN (fun i => inN (X.2.2.2.2.2.2.2.2 s_n i) 64) (min (X.2.2.2.2.2.2.2.1 s_n) 12) = i from by first | exact runN_at (by omega) h_u c6 | (rw [show min (X.2.2.2.2.2.2.2.1 s_n) 12 = i by omega]; exact runN_all h_u)]
            refine nv_cv (show nI (i) = (p_load X (nI s_n)).1 from by rw [hp]) ?_
            exact mu_iret hx hb hr hlocks hS ((by rw [hp]; exact ⟨_, _, _, _, _, _, _, _, _, _, _, _, _, _, _, hkr, hP⟩)) dX4_load_80
          · have f8 : i < 12 := in_lt (by omega) c6
            refine lv_aload_n hx hb dX4_load_37 rfl (lv_at hl 1 rfl) ?_
            refine va_get (D := D) (ci := 4) (v := .ref (am 14)) (C := RX4) (T := TX4) (N := 24) hx hb hts hinX4 hown hK hP 0 rfl rfl 22 (by decide) (hts (.fieldLink RX4 66 "OneShortModel" "numbers" "[I") (List.mem_of_getElem? (i := 2) rfl)) (fun _ h9 => h9) rfl dX4_load_38 ?_
            refine lv_bipush (v := nI (40)) hx hb dX4_load_41 (by decide) ?_
            refine lv_iload_n hx hb dX4_load_43 rfl (lv_at hl 2 rfl) ?_
            refine nv_imul hx hb dX4_load_44 ?_
            refine lv_iload_n hx hb dX4_load_45 rfl (lv_at hl 0 rfl) ?_
            refine nv_iadd hx hb dX4_load_46 ?_
            refine nv_iald (v := X.2.2.2.2.2.2.2.2 s_n i) hx hb hK hP 14 0 rfl rfl (by omega) (by decide) (sn_at X.2.2.2.2.2.2.2.2 s_n (by omega)) dX4_load_47 ?_
            refine ro_S (n := 1) (As := [.int (X.2.2.2.2.2.2.2.2 s_n i)]) (rest := []) ⟨hx, hb, hml, hown, hts⟩ (c_X4_areParts l D ci (wN ci am (toS X (upF X.1 0 (fun j => tn (X.2.2.2.2.2.2.2.2 s_n j)) i)) kr q0 q1 q2 q3 q4 q5 iw kn y0 y1 y2 y3 y4 y5 y6) (X.2.2.2.2.2.2.2.2 s_n i) ) gX4_load_X4_areParts rfl ⟨rfl, rfl⟩ (by decide +kernel) rfl ⟨Nat.le_of_ble_eq_true rfl, Nat.le_of_ble_eq_true rfl⟩ hE trivial hK hP hl.1 rfl (Nat.le_of_ble_eq_true rfl) dX4_load_48 ⟨Nat.zero_le _, Nat.zero_le _⟩ ?_
            refine nv_ifeq_b (tgt := 79) hx hb dX4_load_51 (by decide) (fun c9 => ?_) (fun c9 => ?_)
            · refine lv_iload_n hx hb dX4_load_79 rfl (lv_at hl 0 rfl) ?_
              have hp : p_load X (nI s_n) = (nI (i), toS X (upF X.1 0 (fun j => tn (X.2.2.2.2.2.2.2.2 s_n j)) i)) := by rw [p_load, if_pos lq2, t_s_n, show runN (fun i => inN (X.2.2.2.2.2.2.2.2 s_n i) 64) (min (X.2.2.2.2.2.2.2.1 s_n) 12) = i from by first | exact runN_at (by omega) h_u c9 | (rw [show min (X.2.2.2.2.2.2.2.1 s_n) 12 = i by omega]; exact runN_all h_u)]
              refine nv_cv (show nI (i) = (p_load X (nI s_n)).1 from by rw [hp]) ?_
              exact mu_iret hx hb hr hlocks hS ((by rw [hp]; exact ⟨_, _, _, _, _, _, _, _, _, _, _, _, _, _, _, hkr, hP⟩)) dX4_load_80
            · have hT : inN (X.2.2.2.2.2.2.2.2 s_n (i)) 64 = true := c9
              obtain ⟨eT, f_T⟩ := in_tn hT (by decide)
              refine lv_aload_n hx hb dX4_load_54 rfl (lv_at hl 1 rfl) ?_
              refine va_get (D := D) (ci := 4) (v := .ref (am 1)) (C := RX4) (T := TX4) (N := 24) hx hb hts hinX4 hown hK hP 0 rfl rfl 0 (by decide) (hts (.fieldLink RX4 9 "OneShortModel" "now" "[I") (List.mem_of_getElem? (i := 3) rfl)) (fun _ h9 => h9) rfl dX4_load_55 ?_
              refine lv_iconst (v := nI (3)) hx hb dX4_load_58 (by decide) ?_
              refine lv_iload_n hx hb dX4_load_59 rfl (lv_at hl 0 rfl) ?_
              refine nv_iadd hx hb dX4_load_60 ?_
              refine lv_aload_n hx hb dX4_load_61 rfl (lv_at hl 1 rfl) ?_
              refine va_get (D := D) (ci := 4) (v := .ref (am 14)) (C := RX4) (T := TX4) (N := 24) hx hb hts hinX4 hown hK hP 0 rfl rfl 22 (by decide) (hts (.fieldLink RX4 66 "OneShortModel" "numbers" "[I") (List.mem_of_getElem? (i := 2) rfl)) (fun _ h9 => h9) rfl dX4_load_62 ?_
              refine lv_bipush (v := nI (40)) hx hb dX4_load_65 (by decide) ?_
              refine lv_iload_n hx hb dX4_load_67 rfl (lv_at hl 2 rfl) ?_
              refine nv_imul hx hb dX4_load_68 ?_
              refine lv_iload_n hx hb dX4_load_69 rfl (lv_at hl 0 rfl) ?_
              refine nv_iadd hx hb dX4_load_70 ?_
              refine nv_iald (v := X.2.2.2.2.2.2.2.2 s_n i) hx hb hK hP 14 0 rfl rfl (by omega) (by decide) (sn_at X.2.2.2.2.2.2.2.2 s_n (by omega)) dX4_load_71 ?_
              refine nv_cv (show X.2.2.2.2.2.2.2.2 s_n i = nI (tn (X.2.2.2.2.2.2.2.2 s_n (i))) from eT) ?_
              refine nv_iast hx hb hK hP hD hS 1 0 rfl rfl (by omega) (by decide) dX4_load_72 (fun H locs hP hD hS => ?_)
              have hP : va_P D vwCl (wN ci am (toS X (st (upF X.1 0 (fun j => tn (X.2.2.2.2.2.2.2.2 s_n j)) i) 0 i (tn (X.2.2.2.2.2.2.2.2 s_n (i))))) kr q0 q1 q2 q3 q4 q5 iw kn y0 y1 y2 y3 y4 y5 y6) H := va_P.re (wN_now ci am (toS X (upF X.1 0 (fun j => tn (X.2.2.2.2.2.2.2.2 s_n j)) i)) kr q0 q1 q2 q3 q4 q5 iw kn y0 y1 y2 y3 y4 y5 y6 ((3 + i)) (nI (tn (X.2.2.2.2.2.2.2.2 s_n (i)))) (pku_bar (upF X.1 0 (fun j => tn (X.2.2.2.2.2.2.2.2 s_n j)) i) (by omega))) hP
              have hD : va_D (aM am) (wN ci am (toS X (st (upF X.1 0 (fun j => tn (X.2.2.2.2.2.2.2.2 s_n j)) i) 0 i (tn (X.2.2.2.2.2.2.2.2 s_n (i))))) kr q0 q1 q2 q3 q4 q5 iw kn y0 y1 y2 y3 y4 y5 y6) := wN_D hI
              refine nv_iinc1 (lv' := [(2, .int (nI (i + 1))), (0, .ref (am 0)), (1, .int (nI s_n))]) hx hb dX4_load_73 hl (k := 0) rfl (by decide) rfl (fun ls hl => ?_)
              refine lv_goto (tgt := 20) hx hb dX4_load_76 (by decide) ?_
              exact ih20 (i + 1) (by omega) (by omega) (by omega) (all_t h_u hT) (nI (i + 1)) rfl _ _ (va_P.re (by rw [upF_st rfl]) hP) hS ls (lv_sub hl [0, 1, 2] rfl)
    exact L20 _ (0) (Nat.lt_succ_self _) (by omega) (by omega) (fun _ h => absurd h (Nat.not_lt_zero _)) (nI (0)) rfl _ _ (va_P.re (by rw [upF_0]; rfl) hP) hS ls (lv_sub hl [0, 1, 2] rfl)
  · have lq10 := lkm_ne c1
    have f11 := lack_lt lq10
    refine lv_aload_n hx hb dX4_load_8 rfl (lv_at hl 0 rfl) ?_
    refine lv_aload_n hx hb dX4_load_9 rfl (lv_at hl 0 rfl) ?_
    refine lv_iload_n hx hb dX4_load_10 rfl (lv_at hl 1 rfl) ?_
    refine ro_V (n := 1) (As := [.int (s_)]) (rest := [.ref (am 0)]) ⟨hx, hb, hml, hown, hts⟩ (c_X4_lacks l D ci am X kr q0 q1 q2 q3 q4 q5 iw kn y0 y1 y2 y3 y4 y5 y6 (s_) hWF hWX) gX4_load_X4_lacks rfl ⟨rfl, rfl⟩ (by decide +kernel) rfl ⟨Nat.le_of_ble_eq_true rfl, Nat.le_of_ble_eq_true rfl⟩ hE trivial hK hP (ci := 4) (q0 := 0) rfl rfl hl.1 rfl (Nat.le_of_ble_eq_true rfl) dX4_load_11 ⟨Nat.zero_le _, Nat.zero_le _⟩ ?_
    refine mu_V (n := 1) (As := [.int (lkm (lackN X s_))]) (rest := []) ⟨hx, hb, hml, hown, hts⟩ (c_X4_finding l D ci am X kr q0 q1 q2 q3 q4 q5 iw kn y0 y1 y2 y3 y4 y5 y6 hI (lkm (lackN X s_)) (lackN X s_) (by omega) (lkm_f lq10)) gX4_load_X4_finding rfl ⟨rfl, rfl⟩ (by decide +kernel) rfl ⟨Nat.le_of_ble_eq_true rfl, Nat.le_of_ble_eq_true rfl⟩ hE trivial hK hP (ci := 4) (q0 := 0) rfl rfl hl.1 rfl (Nat.le_of_ble_eq_true rfl) dX4_load_14 ⟨Nat.zero_le _, Nat.zero_le _⟩ hS (fun _ h => h) (fun H1 locs hz hfr hB hS => ?_)
    have hP := hB
    have hP : va_P D vwCl (wN ci am (toF X (inc X.2.2.2.1 (lackN X s_))) kr q0 q1 q2 q3 q4 q5 iw kn y0 y1 y2 y3 y4 y5 y6) H1 := hP
    generalize H1 = H at hP hS ⊢
    have hD : va_D (aM am) (wN ci am (toF X (inc X.2.2.2.1 (lackN X s_))) kr q0 q1 q2 q3 q4 q5 iw kn y0 y1 y2 y3 y4 y5 y6) := wN_D hI
    have hp : p_load X s_ = (fnd (lackN X s_), toF X (inc X.2.2.2.1 (lackN X s_))) := by first | (simp [p_load, fl_eq, c1, lq10]; done)
    refine nv_cv (show fnd (lackN X s_) = (p_load X s_).1 from by rw [hp]) ?_
    exact mu_iret hx hb hr hlocks hS ((by rw [hp]; exact ⟨_, _, _, _, _, _, _, _, _, _, _, _, _, _, _, hkr, hP⟩)) dX4_load_17
