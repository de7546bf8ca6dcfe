/-! walks laid by program -/
set_option maxHeartbeats 4000000 in
set_option maxRecDepth 100000 in
/-- X4_doesHear -/
theorem c_X4_doesHear (l : Launch) (D : va_G) (ci : Nat → ClassId) (am : Nat → Nat) (X : AS) (kr : Nat → Int32) (q0 q1 q2 q3 q4 q5 : Int32) (iw : Bool) (kn : Nat → Option Nat) (y0 y1 y2 y3 y4 y5 y6 : Nat → Int32) (u o bb : Nat) (hWF : WF X.1) (h_u : u < 8) (h_o : o < 8) (h_bb : bb < 12) (h_ne : u ≠ o) : Met l yX4_doesHear wsX4_doesHear ({ frames := 5, cells := 0, slots := 0, locals := 114 } : Room) (va_Pc [.ref (am 0), .int (nI u), .int (nI o), .int (nI bb)] (ro_B D (tyL ci) (wN ci am X kr q0 q1 q2 q3 q4 q5 iw kn y0 y1 y2 y3 y4 y5 y6) (enT))) (ro_Q (some (.int (bI (canHear X.1 u o && plays X.1 o bb))))) 0 0 (fun _ => False) := by
  refine ro_Met (cc := cX4_doesHear) (maxL := 5) (ret := (some .boolean)) [(0, .ref (am 0)), (1, .int (nI u)), (2, .int (nI o)), (3, .int (nI bb))] (by decide) rfl (Nat.le_of_ble_eq_true rfl) rfl ?_
  intro p e s m below meth c hx hb hml hr hlocks hts hown hP hK hs ls hl
  have hown : s.vm.findClass RX4 = some m.cls := hown
  have hE := hE_T
  have f_n := hWF.n
  refine lv_aload_n hx hb dX4_doesHear_0 rfl (lv_at hl 0 rfl) ?_
  refine lv_iload_n hx hb dX4_doesHear_1 rfl (lv_at hl 1 rfl) ?_
  refine lv_iconst (v := nI (0)) hx hb dX4_doesHear_2 (by decide) ?_
  refine ro_V (n := 2) (As := [.int (nI u), .int (nI 0)]) (rest := []) ⟨hx, hb, hml, hown, hts⟩ (c_X4_playerIs l D ci am X kr q0 q1 q2 q3 q4 q5 iw kn y0 y1 y2 y3 y4 y5 y6 (u) (0) hWF (by omega) (by omega)) gX4_doesHear_X4_playerIs rfl ⟨rfl, rfl⟩ (by decide +kernel) rfl ⟨Nat.le_of_ble_eq_true rfl, Nat.le_of_ble_eq_true rfl⟩ hE hs hK hP (ci := 4) (q0 := 0) rfl rfl hl.1 rfl (Nat.le_of_ble_eq_true rfl) dX4_doesHear_3 ⟨Nat.zero_le _, Nat.zero_le _⟩ ?_
  refine nv_cv (show nI (X.1 (0 + 1) u) = nI (X.1 1 u) from rfl) ?_
  have f1 := hWF.f1 u
  refine lv_iconst (v := nI (5)) hx hb dX4_doesHear_6 (by decide) ?_
  refine nv_icmp_ne (tgt := 29) hx hb (by omega) (by omega) dX4_doesHear_7 (by decide) (fun c2 => ?_) (fun c2 => ?_)
  · refine lv_iconst (v := nI (0)) hx hb dX4_doesHear_29 (by decide) ?_
    refine lv_istore (lv' := [(4, .int (nI 0)), (0, .ref (am 0)), (1, .int (nI u)), (2, .int (nI o)), (3, .int (nI bb))]) hx hb dX4_doesHear_30 hl (by decide) rfl (fun ls hl => ?_)
    refine lv_iload hx hb dX4_doesHear_32 (lv_at hl 0 rfl) ?_
    refine lv_if_ne (tgt := 56) hx hb dX4_doesHear_34 (by decide) (fun h => absurd (by decide) h) (fun _ => ?_)
    refine lv_aload_n hx hb dX4_doesHear_37 rfl (lv_at hl 1 rfl) ?_
    refine lv_iload_n hx hb dX4_doesHear_38 rfl (lv_at hl 3 rfl) ?_
    refine lv_aload_n hx hb dX4_doesHear_39 rfl (lv_at hl 1 rfl) ?_
    refine lv_iload_n hx hb dX4_doesHear_40 rfl (lv_at hl 2 rfl) ?_
    refine lv_iconst (v := nI (1)) hx hb dX4_doesHear_41 (by decide) ?_
    refine ro_V (n := 2) (As := [.int (nI u), .int (nI 1)]) (rest := [.int (nI o), .ref (am 0)]) ⟨hx, hb, hml, hown, hts⟩ (c_X4_playerIs l D ci am X kr q0 q1 q2 q3 q4 q5 iw kn y0 y1 y2 y3 y4 y5 y6 (u) (1) hWF (by omega) (by omega)) gX4_doesHear_X4_playerIs rfl ⟨rfl, rfl⟩ (by decide +kernel) rfl ⟨Nat.le_of_ble_eq_true rfl, Nat.le_of_ble_eq_true rfl⟩ hE hs hK hP (ci := 4) (q0 := 0) rfl rfl hl.1 rfl (Nat.le_of_ble_eq_true rfl) dX4_doesHear_42 ⟨Nat.zero_le _, Nat.zero_le _⟩ ?_
    refine nv_cv (show nI (X.1 (1 + 1) u) = nI (X.1 2 u) from rfl) ?_
    have f4 := hWF.f2 u
    refine lv_iload_n hx hb dX4_doesHear_45 rfl (lv_at hl 4 rfl) ?_
    refine ro_V (n := 3) (As := [.int (nI o), .int (nI (X.1 2 u)), .int (nI bb)]) (rest := []) ⟨hx, hb, hml, hown, hts⟩ (c_X4_soundOf l D ci am X kr q0 q1 q2 q3 q4 q5 iw kn y0 y1 y2 y3 y4 y5 y6 (o) (X.1 2 u) (bb) hWF (by omega) (by omega) (by omega)) gX4_doesHear_X4_soundOf rfl ⟨rfl, rfl⟩ (by decide +kernel) rfl ⟨Nat.le_of_ble_eq_true rfl, Nat.le_of_ble_eq_true rfl⟩ hE hs hK hP (ci := 4) (q0 := 0) rfl rfl hl.1 rfl (Nat.le_of_ble_eq_true rfl) dX4_doesHear_46 ⟨Nat.zero_le _, Nat.zero_le _⟩ ?_
    have f5 := sndO_lt hWF (o) (X.1 2 u) (bb)
    refine nv_ifle (tgt := 56) hx hb (by omega) dX4_doesHear_49 (by decide) (fun c6 => ?_) (fun c6 => ?_)
    · refine lv_iconst (v := nI (0)) hx hb dX4_doesHear_56 (by decide) ?_
      refine nv_cv (show nI (0) = bI (canHear X.1 u o && plays X.1 o bb) from nv_f (by rw [dh_eq h_ne]; simp [c2, c6])) ?_
      exact ro_zret hx hb hr hlocks dX4_doesHear_57
    · refine lv_iconst (v := nI (1)) hx hb dX4_doesHear_52 (by decide) ?_
      refine lv_goto (tgt := 57) hx hb dX4_doesHear_53 (by decide) ?_
      refine nv_cv (show nI (1) = bI (canHear X.1 u o && plays X.1 o bb) from nv_t (by rw [dh_eq h_ne]; simp [c2, c6])) ?_
      exact ro_zret hx hb hr hlocks dX4_doesHear_57
  · refine lv_aload_n hx hb dX4_doesHear_10 rfl (lv_at hl 0 rfl) ?_
    refine lv_iload_n hx hb dX4_doesHear_11 rfl (lv_at hl 2 rfl) ?_
    refine lv_iconst (v := nI (1)) hx hb dX4_doesHear_12 (by decide) ?_
    refine ro_V (n := 2) (As := [.int (nI o), .int (nI 1)]) (rest := []) ⟨hx, hb, hml, hown, hts⟩ (c_X4_playerIs l D ci am X kr q0 q1 q2 q3 q4 q5 iw kn y0 y1 y2 y3 y4 y5 y6 (o) (1) hWF (by omega) (by omega)) gX4_doesHear_X4_playerIs rfl ⟨rfl, rfl⟩ (by decide +kernel) rfl ⟨Nat.le_of_ble_eq_true rfl, Nat.le_of_ble_eq_true rfl⟩ hE hs hK hP (ci := 4) (q0 := 0) rfl rfl hl.1 rfl (Nat.le_of_ble_eq_true rfl) dX4_doesHear_13 ⟨Nat.zero_le _, Nat.zero_le _⟩ ?_
    refine nv_cv (show nI (X.1 (1 + 1) o) = nI (X.1 2 o) from rfl) ?_
    have f7 := hWF.f2 o
    refine lv_aload_n hx hb dX4_doesHear_16 rfl (lv_at hl 0 rfl) ?_
    refine lv_iload_n hx hb dX4_doesHear_17 rfl (lv_at hl 1 rfl) ?_
    refine lv_iconst (v := nI (1)) hx hb dX4_doesHear_18 (by decide) ?_
    refine ro_V (n := 2) (As := [.int (nI u), .int (nI 1)]) (rest := [.int (nI (X.1 2 o))]) ⟨hx, hb, hml, hown, hts⟩ (c_X4_playerIs l D ci am X kr q0 q1 q2 q3 q4 q5 iw kn y0 y1 y2 y3 y4 y5 y6 (u) (1) hWF (by omega) (by omega)) gX4_doesHear_X4_playerIs rfl ⟨rfl, rfl⟩ (by decide +kernel) rfl ⟨Nat.le_of_ble_eq_true rfl, Nat.le_of_ble_eq_true rfl⟩ hE hs hK hP (ci := 4) (q0 := 0) rfl rfl hl.1 rfl (Nat.le_of_ble_eq_true rfl) dX4_doesHear_19 ⟨Nat.zero_le _, Nat.zero_le _⟩ ?_
    refine nv_cv (show nI (X.1 (1 + 1) u) = nI (X.1 2 u) from rfl) ?_
    have f8 := hWF.f2 u
    refine nv_icmp_ge (tgt := 29) hx hb (by omega) (by omega) dX4_doesHear_22 (by decide) (fun c9 => ?_) (fun c9 => ?_)
    · refine lv_iconst (v := nI (0)) hx hb dX4_doesHear_29 (by decide) ?_
      refine lv_istore (lv' := [(4, .int (nI 0)), (0, .ref (am 0)), (1, .int (nI u)), (2, .int (nI o)), (3, .int (nI bb))]) hx hb dX4_doesHear_30 hl (by decide) rfl (fun ls hl => ?_)
      refine lv_iload hx hb dX4_doesHear_32 (lv_at hl 0 rfl) ?_
      refine lv_if_ne (tgt := 56) hx hb dX4_doesHear_34 (by decide) (fun h => absurd (by decide) h) (fun _ => ?_)
      refine lv_aload_n hx hb dX4_doesHear_37 rfl (lv_at hl 1 rfl) ?_
      refine lv_iload_n hx hb dX4_doesHear_38 rfl (lv_at hl 3 rfl) ?_
      refine lv_aload_n hx hb dX4_doesHear_39 rfl (lv_at hl 1 rfl) ?_
      refine lv_iload_n hx hb dX4_doesHear_40 rfl (lv_at hl 2 rfl) ?_
      refine lv_iconst (v := nI (1)) hx hb dX4_doesHear_41 (by decide) ?_
      refine ro_V (n := 2) (As := [.int (nI u), .int (nI 1)]) (rest := [.int (nI o), .ref (am 0)]) ⟨hx, hb, hml, hown, hts⟩ (c_X4_playerIs l D ci am X kr q0 q1 q2 q3 q4 q5 iw kn y0 y1 y2 y3 y4 y5 y6 (u) (1) hWF (by omega) (by omega)) gX4_doesHear_X4_playerIs rfl ⟨rfl, rfl⟩ (by decide +kernel) rfl ⟨Nat.le_of_ble_eq_true rfl, Nat.le_of_ble_eq_true rfl⟩ hE hs hK hP (ci := 4) (q0 := 0) rfl rfl hl.1 rfl (Nat.le_of_ble_eq_true rfl) dX4_doesHear_42 ⟨Nat.zero_le _, Nat.zero_le _⟩ ?_
      refine nv_cv (show nI (X.1 (1 + 1) u) = nI (X.1 2 u) from rfl) ?_
      have f11 := hWF.f2 u
      refine lv_iload_n hx hb dX4_doesHear_45 rfl (lv_at hl 4 rfl) ?_
      refine ro_V (n := 3) (As := [.int (nI o), .int (nI (X.1 2 u)), .int (nI bb)]) (rest := []) ⟨hx, hb, hml, hown, hts⟩ (c_X4_soundOf l D ci am X kr q0 q1 q2 q3 q4 q5 iw kn y0 y1 y2 y3 y4 y5 y6 (o) (X.1 2 u) (bb) hWF (by omega) (by omega) (by omega)) gX4_doesHear_X4_soundOf rfl ⟨rfl, rfl⟩ (by decide +kernel) rfl ⟨Nat.le_of_ble_eq_true rfl, Nat.le_of_ble_eq_true rfl⟩ hE hs hK hP (ci := 4) (q0 := 0) rfl rfl hl.1 rfl (Nat.le_of_ble_eq_true rfl) dX4_doesHear_46 ⟨Nat.zero_le _, Nat.zero_le _⟩ ?_
      have f12 := sndO_lt hWF (o) (X.1 2 u) (bb)
      refine nv_ifle (tgt := 56) hx hb (by omega) dX4_doesHear_49 (by decide) (fun c13 => ?_) (fun c13 => ?_)
      · refine lv_iconst (v := nI (0)) hx hb dX4_doesHear_56 (by decide) ?_
        refine nv_cv (show nI (0) = bI (canHear X.1 u o && plays X.1 o bb) from nv_f (by rw [dh_eq h_ne]; simp [c2, c9, c13])) ?_
        exact ro_zret hx hb hr hlocks dX4_doesHear_57
      · refine lv_iconst (v := nI (1)) hx hb dX4_doesHear_52 (by decide) ?_
        refine lv_goto (tgt := 57) hx hb dX4_doesHear_53 (by decide) ?_
        refine nv_cv (show nI (1) = bI (canHear X.1 u o && plays X.1 o bb) from nv_t (by rw [dh_eq h_ne]; simp [c2, c9, c13])) ?_
        exact ro_zret hx hb hr hlocks dX4_doesHear_57
    · refine lv_iconst (v := nI (1)) hx hb dX4_doesHear_25 (by decide) ?_
      refine lv_goto (tgt := 30) hx hb dX4_doesHear_26 (by decide) ?_
      refine lv_istore (lv' := [(4, .int (nI 1)), (0, .ref (am 0)), (1, .int (nI u)), (2, .int (nI o)), (3, .int (nI bb))]) hx hb dX4_doesHear_30 hl (by decide) rfl (fun ls hl => ?_)
      refine lv_iload hx hb dX4_doesHear_32 (lv_at hl 0 rfl) ?_
      refine lv_if_ne (tgt := 56) hx hb dX4_doesHear_34 (by decide) (fun _ => ?_) (fun h => absurd h (by decide))
      refine lv_iconst (v := nI (0)) hx hb dX4_doesHear_56 (by decide) ?_
      refine nv_cv (show nI (0) = bI (canHear X.1 u o && plays X.1 o bb) from nv_f (by rw [dh_eq h_ne]; simp [c2, c9])) ?_
      exact ro_zret hx hb hr hlocks dX4_doesHear_57

set_option maxHeartbeats 4000000 in
set_option maxRecDepth 100000 in
/-- X4_hearingOf -/
theorem c_X4_hearingOf (l : Launch) (D : va_G) (ci : Nat → ClassId) (am : Nat → Nat) (X : AS) (kr : Nat → Int32) (q0 q1 q2 q3 q4 q5 : Int32) (iw : Bool) (kn : Nat → Option Nat) (y0 y1 y2 y3 y4 y5 y6 : Nat → Int32) (u bb : Nat) (hWF : WF X.1) (h_u : u < 8) (h_bb : bb < 12) : Met l yX4_hearingOf wsX4_hearingOf ({ frames := 6, cells := 0, slots := 0, locals := 138 } : Room) (va_Pc [.ref (am 0), .int (nI u), .int (nI bb)] (ro_B D (tyL ci) (wN ci am X kr q0 q1 q2 q3 q4 q5 iw kn y0 y1 y2 y3 y4 y5 y6) (enT))) (ro_Q (some (.int (nI ((reachS X.1 u &&& playIn X.1 bb)))))) 0 0 (fun _ => False) := by
  refine ro_Met (cc := cX4_hearingOf) (maxL := 5) (ret := (some .int)) [(0, .ref (am 0)), (1, .int (nI u)), (2, .int (nI bb))] (by decide) rfl (Nat.le_of_ble_eq_true rfl) rfl ?_
  intro p e s m below meth c hx hb hml hr hlocks hts hown hP hK hs ls hl
  have hown : s.vm.findClass RX4 = some m.cls := hown
  have hinX4 : ∀ w ∈ wsX40, w ∈ wsX4_hearingOf := by decide +kernel
  have hE := hE_T
  have f_n := hWF.n
  refine lv_iconst (v := nI (0)) hx hb dX4_hearingOf_0 (by decide) ?_
  refine lv_istore_n (lv' := [(3, .int (nI 0)), (0, .ref (am 0)), (1, .int (nI u)), (2, .int (nI bb))]) hx hb dX4_hearingOf_1 rfl hl (by decide) rfl (fun ls hl => ?_)
  refine lv_iconst (v := nI (0)) hx hb dX4_hearingOf_2 (by decide) ?_
  refine lv_istore (lv' := [(4, .int (nI 0)), (3, .int (nI 0)), (0, .ref (am 0)), (1, .int (nI u)), (2, .int (nI bb))]) hx hb dX4_hearingOf_3 hl (by decide) rfl (fun ls hl => ?_)
  have L5 : ∀ (k5 : Nat) (i : Nat), X.1 7 0 - i < k5 → (i ≤ X.1 7 0) → ∀ (x3 x4 : Int32), x3 = nI (setTo (fun o => canHear X.1 u o && plays X.1 o bb) (i)) → x4 = nI (i) → ∀ ls : Array Slot, lv_has ls 5 [(3, .int (x3)), (4, .int (x4)), (0, .ref (am 0)), (1, .int (nI u)), (2, .int (nI bb))] → W p l e (headSpec wsX4_hearingOf ({ frames := 6, cells := 0, slots := 0, locals := 138 } : Room)).room s m ([.ref (am 0), .int (nI u), .int (nI bb)] : List Value).toArray below meth c s.heap [] 0 0 (MQ below (ro_Q (some (.int (nI ((reachS X.1 u &&& playIn X.1 bb)))))) ([.ref (am 0), .int (nI u), .int (nI bb)] : List Value).toArray s 0 0 (fun _ => False)) (F0 m 5 ls []) := by
    intro k5
    induction k5 with
    | zero => intro i h0; exact absurd h0 (Nat.not_lt_zero _)
    | succ k5 ih5 =>
      intro i hk5 h_i x3 x4 e3 e4 ls hl
      subst e3
      subst e4
      refine lv_iload hx hb dX4_hearingOf_5 (lv_at hl 1 rfl) ?_
      refine lv_aload_n hx hb dX4_hearingOf_7 rfl (lv_at hl 2 rfl) ?_
      refine va_get (D := D) (ci := 4) (v := .ref (am 1)) (C := RX4) (T := TX4) (N := 24) hx hb hts hinX4 hown hK hP 0 rfl rfl 0 (by decide) (hts (.fieldLink RX4 9 "OneShortModel" "now" "[I") (List.mem_of_getElem? (i := 1) rfl)) (fun _ h9 => h9) rfl dX4_hearingOf_8 ?_
      refine lv_iconst (v := nI (1)) hx hb dX4_hearingOf_11 (by decide) ?_
      refine nv_iald (v := nI (X.1 7 0)) hx hb hK hP 1 0 rfl rfl (by omega) (by decide) (pk_n X.1) dX4_hearingOf_12 ?_
      refine nv_icmp_ge (tgt := 50) hx hb (by omega) (by omega) dX4_hearingOf_13 (by decide) (fun c1 => ?_) (fun c1 => ?_)
      · refine lv_iload_n hx hb dX4_hearingOf_50 rfl (lv_at hl 0 rfl) ?_
        refine nv_cv (show nI (setTo (fun o => canHear X.1 u o && plays X.1 o bb) (i)) = nI ((reachS X.1 u &&& playIn X.1 bb)) from nv_e (by rw [← hear_set, show X.1 7 0 = i by omega])) ?_
        exact ro_iret hx hb hr hlocks dX4_hearingOf_51
      · refine lv_iload_n hx hb dX4_hearingOf_16 rfl (lv_at hl 0 rfl) ?_
        refine lv_iload hx hb dX4_hearingOf_17 (lv_at hl 1 rfl) ?_
        refine lv_iload_n hx hb dX4_hearingOf_19 rfl (lv_at hl 3 rfl) ?_
        refine nv_icmp_eq (tgt := 41) hx hb (by omega) (by omega) dX4_hearingOf_20 (by decide) (fun c2 => ?_) (fun c2 => ?_)
        · refine lv_iconst (v := nI (0)) hx hb dX4_hearingOf_41 (by decide) ?_
          refine nv_ior hx hb dX4_hearingOf_42 ?_
          refine lv_istore_n (lv' := [(3, .int (nI ((setTo (fun o => canHear X.1 u o && plays X.1 o bb) (i) ||| 0)))), (4, .int (nI i)), (0, .ref (am 0)), (1, .int (nI u)), (2, .int (nI bb))]) hx hb dX4_hearingOf_43 rfl hl (by decide) rfl (fun ls hl => ?_)
          refine nv_iinc1 (lv' := [(4, .int (nI (i + 1))), (3, .int (nI ((setTo (fun o => canHear X.1 u o && plays X.1 o bb) (i) ||| 0)))), (0, .ref (am 0)), (1, .int (nI u)), (2, .int (nI bb))]) hx hb dX4_hearingOf_44 hl (k := 1) rfl (by decide) rfl (fun ls hl => ?_)
          refine lv_goto (tgt := 5) hx hb dX4_hearingOf_47 (by decide) ?_
          exact ih5 (i + 1) (by omega) (by omega) (nI ((setTo (fun o => canHear X.1 u o && plays X.1 o bb) (i) ||| 0))) (nI (i + 1)) (nv_e (by first | exact setTo_t c2 | exact setTo_f0 c2 | exact setTo_f0 (by rw [c2, canHear_self]; rfl))) rfl ls (lv_sub hl [1, 0, 2, 3, 4] rfl)
        · refine lv_aload_n hx hb dX4_hearingOf_23 rfl (lv_at hl 2 rfl) ?_
          refine lv_iload_n hx hb dX4_hearingOf_24 rfl (lv_at hl 3 rfl) ?_
          refine lv_iload hx hb dX4_hearingOf_25 (lv_at hl 1 rfl) ?_
          refine lv_iload_n hx hb dX4_hearingOf_27 rfl (lv_at hl 4 rfl) ?_
          refine ro_V (n := 3) (As := [.int (nI u), .int (nI i), .int (nI bb)]) (rest := [.int (nI (setTo (fun o => canHear X.1 u o && plays X.1 o bb) (i)))]) ⟨hx, hb, hml, hown, hts⟩ (c_X4_doesHear l D ci am X kr q0 q1 q2 q3 q4 q5 iw kn y0 y1 y2 y3 y4 y5 y6 (u) (i) (bb) hWF (by omega) (by omega) (by omega) (by omega)) gX4_hearingOf_X4_doesHear rfl ⟨rfl, rfl⟩ (by decide +kernel) rfl ⟨Nat.le_of_ble_eq_true rfl, Nat.le_of_ble_eq_true rfl⟩ hE hs hK hP (ci := 4) (q0 := 0) rfl rfl hl.1 rfl (Nat.le_of_ble_eq_true rfl) dX4_hearingOf_28 ⟨Nat.zero_le _, Nat.zero_le _⟩ ?_
          refine nv_ifeq_b (tgt := 41) hx hb dX4_hearingOf_31 (by decide) (fun c3 => ?_) (fun c3 => ?_)
          · refine lv_iconst (v := nI (0)) hx hb dX4_hearingOf_41 (by decide) ?_
            refine nv_ior hx hb dX4_hearingOf_42 ?_
            refine lv_istore_n (lv' := [(3, .int (nI ((setTo (fun o => canHear X.1 u o && plays X.1 o bb) (i) ||| 0)))), (4, .int (nI i)), (0, .ref (am 0)), (1, .int (nI u)), (2, .int (nI bb))]) hx hb dX4_hearingOf_43 rfl hl (by decide) rfl (fun ls hl => ?_)
            refine nv_iinc1 (lv' := [(4, .int (nI (i + 1))), (3, .int (nI ((setTo (fun o => canHear X.1 u o && plays X.1 o bb) (i) ||| 0)))), (0, .ref (am 0)), (1, .int (nI u)), (2, .int (nI bb))]) hx hb dX4_hearingOf_44 hl (k := 1) rfl (by decide) rfl (fun ls hl => ?_)
            refine lv_goto (tgt := 5) hx hb dX4_hearingOf_47 (by decide) ?_
            exact ih5 (i + 1) (by omega) (by omega) (nI ((setTo (fun o => canHear X.1 u o && plays X.1 o bb) (i) ||| 0))) (nI (i + 1)) (nv_e (by first | exact setTo_t c3 | exact setTo_f0 c3 | exact setTo_f0 (by rw [c3, canHear_self]; rfl))) rfl ls (lv_sub hl [1, 0, 2, 3, 4] rfl)
          · refine lv_iconst (v := nI (1)) hx hb dX4_hearingOf_34 (by decide) ?_
            refine lv_iload hx hb dX4_hearingOf_35 (lv_at hl 1 rfl) ?_
            refine nv_ishl hx hb (by omega) dX4_hearingOf_37 ?_
            refine lv_goto (tgt := 42) hx hb dX4_hearingOf_38 (by decide) ?_
            refine nv_ior hx hb dX4_hearingOf_42 ?_
            refine lv_istore_n (lv' := [(3, .int (nI ((setTo (fun o => canHear X.1 u o && plays X.1 o bb) (i) ||| (1 * 2 ^ (i)))))), (4, .int (nI i)), (0, .ref (am 0)), (1, .int (nI u)), (2, .int (nI bb))]) hx hb dX4_hearingOf_43 rfl hl (by decide) rfl (fun ls hl => ?_)
            refine nv_iinc1 (lv' := [(4, .int (nI (i + 1))), (3, .int (nI ((setTo (fun o => canHear X.1 u o && plays X.1 o bb) (i) ||| (1 * 2 ^ (i)))))), (0, .ref (am 0)), (1, .int (nI u)), (2, .int (nI bb))]) hx hb dX4_hearingOf_44 hl (k := 1) rfl (by decide) rfl (fun ls hl => ?_)
            refine lv_goto (tgt := 5) hx hb dX4_hearingOf_47 (by decide) ?_
            exact ih5 (i + 1) (by omega) (by omega) (nI ((setTo (fun o => canHear X.1 u o && plays X.1 o bb) (i) ||| (1 * 2 ^ (i))))) (nI (i + 1)) (nv_e (by first | exact setTo_t c3 | exact setTo_f0 c3 | exact setTo_f0 (by rw [c3, canHear_self]; rfl))) rfl ls (lv_sub hl [1, 0, 2, 3, 4] rfl)
  exact L5 _ (0) (Nat.lt_succ_self _) (by omega) (nI (0)) (nI (0)) rfl rfl ls (lv_sub hl [1, 0, 2, 3, 4] rfl)

set_option maxHeartbeats 4000000 in
set_option maxRecDepth 100000 in
/-- X4_aloneIn -/
theorem c_X4_aloneIn (l : Launch) (D : va_G) (ci : Nat → ClassId) (am : Nat → Nat) (X : AS) (kr : Nat → Int32) (q0 q1 q2 q3 q4 q5 : Int32) (iw : Bool) (kn : Nat → Option Nat) (y0 y1 y2 y3 y4 y5 y6 : Nat → Int32) (u : Nat) (hWF : WF X.1) (h_u : u < 8) : Met l yX4_aloneIn wsX4_aloneIn ({ frames := 7, cells := 0, slots := 0, locals := 162 } : Room) (va_Pc [.ref (am 0), .int (nI u)] (ro_B D (tyL ci) (wN ci am X kr q0 q1 q2 q3 q4 q5 iw kn y0 y1 y2 y3 y4 y5 y6) (enT))) (ro_Q (some (.int (nI (bAlone X.1 u))))) 0 0 (fun _ => False) := by
  refine ro_Met (cc := cX4_aloneIn) (maxL := 4) (ret := (some .int)) [(0, .ref (am 0)), (1, .int (nI u))] (by decide) rfl (Nat.le_of_ble_eq_true rfl) rfl ?_
  intro p e s m below meth c hx hb hml hr hlocks hts hown hP hK hs ls hl
  have hown : s.vm.findClass RX4 = some m.cls := hown
  have hE := hE_T
  have f_n := hWF.n
  refine lv_iconst (v := nI (0)) hx hb dX4_aloneIn_0 (by decide) ?_
  refine lv_istore_n (lv' := [(2, .int (nI 0)), (0, .ref (am 0)), (1, .int (nI u))]) hx hb dX4_aloneIn_1 rfl hl (by decide) rfl (fun ls hl => ?_)
  refine lv_iconst (v := nI (0)) hx hb dX4_aloneIn_2 (by decide) ?_
  refine lv_istore_n (lv' := [(3, .int (nI 0)), (2, .int (nI 0)), (0, .ref (am 0)), (1, .int (nI u))]) hx hb dX4_aloneIn_3 rfl hl (by decide) rfl (fun ls hl => ?_)
  have L4 : ∀ (k4 : Nat) (i : Nat), 12 - i < k4 → (i ≤ 12) → ∀ (x2 x3 : Int32), x2 = nI (setTo (fun b => plays X.1 u b && (reachS X.1 u &&& playIn X.1 b) == 0) (i)) → x3 = nI (i) → ∀ ls : Array Slot, lv_has ls 4 [(2, .int (x2)), (3, .int (x3)), (0, .ref (am 0)), (1, .int (nI u))] → W p l e (headSpec wsX4_aloneIn ({ frames := 7, cells := 0, slots := 0, locals := 162 } : Room)).room s m ([.ref (am 0), .int (nI u)] : List Value).toArray below meth c s.heap [] 0 0 (MQ below (ro_Q (some (.int (nI (bAlone X.1 u))))) ([.ref (am 0), .int (nI u)] : List Value).toArray s 0 0 (fun _ => False)) (F0 m 4 ls []) := by
    intro k4
    induction k4 with
    | zero => intro i h0; exact absurd h0 (Nat.not_lt_zero _)
    | succ k4 ih4 =>
      intro i hk4 h_i x2 x3 e2 e3 ls hl
      subst e2
      subst e3
      refine lv_iload_n hx hb dX4_aloneIn_4 rfl (lv_at hl 1 rfl) ?_
      refine lv_bipush (v := nI (12)) hx hb dX4_aloneIn_5 (by decide) ?_
      refine nv_icmp_ge (tgt := 44) hx hb (by omega) (by omega) dX4_aloneIn_7 (by decide) (fun c1 => ?_) (fun c1 => ?_)
      · refine lv_iload_n hx hb dX4_aloneIn_44 rfl (lv_at hl 0 rfl) ?_
        refine nv_cv (show nI (setTo (fun b => plays X.1 u b && (reachS X.1 u &&& playIn X.1 b) == 0) (i)) = nI (bAlone X.1 u) from nv_e (by rw [show i = 12 by omega, alone_set])) ?_
        exact ro_iret hx hb hr hlocks dX4_aloneIn_45
      · refine lv_iload_n hx hb dX4_aloneIn_10 rfl (lv_at hl 0 rfl) ?_
        refine lv_aload_n hx hb dX4_aloneIn_11 rfl (lv_at hl 2 rfl) ?_
        refine lv_iload_n hx hb dX4_aloneIn_12 rfl (lv_at hl 3 rfl) ?_
        refine lv_iload_n hx hb dX4_aloneIn_13 rfl (lv_at hl 1 rfl) ?_
        refine ro_V (n := 2) (As := [.int (nI u), .int (nI i)]) (rest := [.int (nI (setTo (fun b => plays X.1 u b && (reachS X.1 u &&& playIn X.1 b) == 0) (i)))]) ⟨hx, hb, hml, hown, hts⟩ (c_X4_plays l D ci am X kr q0 q1 q2 q3 q4 q5 iw kn y0 y1 y2 y3 y4 y5 y6 (u) (i) hWF (by omega) (by omega)) gX4_aloneIn_X4_plays rfl ⟨rfl, rfl⟩ (by decide +kernel) rfl ⟨Nat.le_of_ble_eq_true rfl, Nat.le_of_ble_eq_true rfl⟩ hE hs hK hP (ci := 4) (q0 := 0) rfl rfl hl.1 rfl (Nat.le_of_ble_eq_true rfl) dX4_aloneIn_14 ⟨Nat.zero_le _, Nat.zero_le _⟩ ?_
        refine nv_ifeq_b (tgt := 35) hx hb dX4_aloneIn_17 (by decide) (fun c2 => ?_) (fun c2 => ?_)
        · refine lv_iconst (v := nI (0)) hx hb dX4_aloneIn_35 (by decide) ?_
          refine nv_ior hx hb dX4_aloneIn_36 ?_
          refine lv_istore_n (lv' := [(2, .int (nI ((setTo (fun b => plays X.1 u b && (reachS X.1 u &&& playIn X.1 b) == 0) (i) ||| 0)))), (3, .int (nI i)), (0, .ref (am 0)), (1, .int (nI u))]) hx hb dX4_aloneIn_37 rfl hl (by decide) rfl (fun ls hl => ?_)
          refine nv_iinc1 (lv' := [(3, .int (nI (i + 1))), (2, .int (nI ((setTo (fun b => plays X.1 u b && (reachS X.1 u &&& playIn X.1 b) == 0) (i) ||| 0)))), (0, .ref (am 0)), (1, .int (nI u))]) hx hb dX4_aloneIn_38 hl (k := 1) rfl (by decide) rfl (fun ls hl => ?_)
          refine lv_goto (tgt := 4) hx hb dX4_aloneIn_41 (by decide) ?_
          exact ih4 (i + 1) (by omega) (by omega) (nI ((setTo (fun b => plays X.1 u b && (reachS X.1 u &&& playIn X.1 b) == 0) (i) ||| 0))) (nI (i + 1)) (nv_e (by first | exact setTo_t (by simp [c1, c2]) | exact setTo_f0 (by simp [c1, c2]))) rfl ls (lv_sub hl [1, 0, 2, 3] rfl)
        · refine lv_aload_n hx hb dX4_aloneIn_20 rfl (lv_at hl 2 rfl) ?_
          refine lv_iload_n hx hb dX4_aloneIn_21 rfl (lv_at hl 3 rfl) ?_
          refine lv_iload_n hx hb dX4_aloneIn_22 rfl (lv_at hl 1 rfl) ?_
          refine ro_V (n := 2) (As := [.int (nI u), .int (nI i)]) (rest := [.int (nI (setTo (fun b => plays X.1 u b && (reachS X.1 u &&& playIn X.1 b) == 0) (i)))]) ⟨hx, hb, hml, hown, hts⟩ (c_X4_hearingOf l D ci am X kr q0 q1 q2 q3 q4 q5 iw kn y0 y1 y2 y3 y4 y5 y6 (u) (i) hWF (by omega) (by omega)) gX4_aloneIn_X4_hearingOf rfl ⟨rfl, rfl⟩ (by decide +kernel) rfl ⟨Nat.le_of_ble_eq_true rfl, Nat.le_of_ble_eq_true rfl⟩ hE hs hK hP (ci := 4) (q0 := 0) rfl rfl hl.1 rfl (Nat.le_of_ble_eq_true rfl) dX4_aloneIn_23 ⟨Nat.zero_le _, Nat.zero_le _⟩ ?_
          have f3 := hearP_lt X.1 (u) (i) hWF.n
          refine nv_ifne (tgt := 35) hx hb (by omega) dX4_aloneIn_26 (by decide) (fun c4 => ?_) (fun c4 => ?_)
          · refine lv_iconst (v := nI (0)) hx hb dX4_aloneIn_35 (by decide) ?_
            refine nv_ior hx hb dX4_aloneIn_36 ?_
            refine lv_istore_n (lv' := [(2, .int (nI ((setTo (fun b => plays X.1 u b && (reachS X.1 u &&& playIn X.1 b) == 0) (i) ||| 0)))), (3, .int (nI i)), (0, .ref (am 0)), (1, .int (nI u))]) hx hb dX4_aloneIn_37 rfl hl (by decide) rfl (fun ls hl => ?_)
            refine nv_iinc1 (lv' := [(3, .int (nI (i + 1))), (2, .int (nI ((setTo (fun b => plays X.1 u b && (reachS X.1 u &&& playIn X.1 b) == 0) (i) ||| 0)))), (0, .ref (am 0)), (1, .int (nI u))]) hx hb dX4_aloneIn_38 hl (k := 1) rfl (by decide) rfl (fun ls hl => ?_)
            refine lv_goto (tgt := 4) hx hb dX4_aloneIn_41 (by decide) ?_
            exact ih4 (i + 1) (by omega) (by omega) (nI ((setTo (fun b => plays X.1 u b && (reachS X.1 u &&& playIn X.1 b) == 0) (i) ||| 0))) (nI (i + 1)) (nv_e (by first | exact setTo_t (by simp [c1, c2, c4]) | exact setTo_f0 (by simp [c1, c2, c4]))) rfl ls (lv_sub hl [1, 0, 2, 3] rfl)
          · refine lv_iconst (v := nI (1)) hx hb dX4_aloneIn_29 (by decide) ?_
            refine lv_iload_n hx hb dX4_aloneIn_30 rfl (lv_at hl 1 rfl) ?_
            refine nv_ishl hx hb (by omega) dX4_aloneIn_31 ?_
            refine lv_goto (tgt := 36) hx hb dX4_aloneIn_32 (by decide) ?_
            refine nv_ior hx hb dX4_aloneIn_36 ?_
            refine lv_istore_n (lv' := [(2, .int (nI ((setTo (fun b => plays X.1 u b && (reachS X.1 u &&& playIn X.1 b) == 0) (i) ||| (1 * 2 ^ (i)))))), (3, .int (nI i)), (0, .ref (am 0)), (1, .int (nI u))]) hx hb dX4_aloneIn_37 rfl hl (by decide) rfl (fun ls hl => ?_)
            refine nv_iinc1 (lv' := [(3, .int (nI (i + 1))), (2, .int (nI ((setTo (fun b => plays X.1 u b && (reachS X.1 u &&& playIn X.1 b) == 0) (i) ||| (1 * 2 ^ (i)))))), (0, .ref (am 0)), (1, .int (nI u))]) hx hb dX4_aloneIn_38 hl (k := 1) rfl (by decide) rfl (fun ls hl => ?_)
            refine lv_goto (tgt := 4) hx hb dX4_aloneIn_41 (by decide) ?_
            exact ih4 (i + 1) (by omega) (by omega) (nI ((setTo (fun b => plays X.1 u b && (reachS X.1 u &&& playIn X.1 b) == 0) (i) ||| (1 * 2 ^ (i))))) (nI (i + 1)) (nv_e (by first | exact setTo_t (by simp [c1, c2, c4]) | exact setTo_f0 (by simp [c1, c2, c4]))) rfl ls (lv_sub hl [1, 0, 2, 3] rfl)
  exact L4 _ (0) (Nat.lt_succ_self _) (by omega) (nI (0)) (nI (0)) rfl rfl ls (lv_sub hl [1, 0, 2, 3] rfl)

set_option maxHeartbeats 4000000 in
set_option maxRecDepth 100000 in
/-- X4_areTwo -/
theorem c_X4_areTwo (l : Launch) (D : va_G) (ci : Nat → ClassId) (am : Nat → Nat) (X : AS) (kr : Nat → Int32) (q0 q1 q2 q3 q4 q5 : Int32) (iw : Bool) (kn : Nat → Option Nat) (y0 y1 y2 y3 y4 y5 y6 : Nat → Int32) (x z : Int32) (hWF : WF X.1) : Met l yX4_areTwo wsX4_areTwo ({ frames := 2, cells := 0, slots := 0, locals := 43 } : Room) (va_Pc [.ref (am 0), .int (x), .int (z)] (ro_B D (tyL ci) (wN ci am X kr q0 q1 q2 q3 q4 q5 iw kn y0 y1 y2 y3 y4 y5 y6) (enT))) (ro_Q (some (.int (bI (pairB X x z))))) 0 0 (fun _ => False) := by
  refine ro_Met (cc := cX4_areTwo) (maxL := 3) (ret := (some .boolean)) [(0, .ref (am 0)), (1, .int (x)), (2, .int (z))] (by decide) rfl (Nat.le_of_ble_eq_true rfl) rfl ?_
  intro p e s m below meth c hx hb hml hr hlocks hts hown hP hK hs ls hl
  have hown : s.vm.findClass RX4 = some m.cls := hown
  have hE := hE_T
  have f_n := hWF.n
  refine lv_aload_n hx hb dX4_areTwo_0 rfl (lv_at hl 0 rfl) ?_
  refine lv_iload_n hx hb dX4_areTwo_1 rfl (lv_at hl 1 rfl) ?_
  refine ro_V (n := 1) (As := [.int (x)]) (rest := []) ⟨hx, hb, hml, hown, hts⟩ (c_X4_isPlayer l D ci am X kr q0 q1 q2 q3 q4 q5 iw kn y0 y1 y2 y3 y4 y5 y6 (x) hWF) gX4_areTwo_X4_isPlayer rfl ⟨rfl, rfl⟩ (by decide +kernel) rfl ⟨Nat.le_of_ble_eq_true rfl, Nat.le_of_ble_eq_true rfl⟩ hE hs hK hP (ci := 4) (q0 := 0) rfl rfl hl.1 rfl (Nat.le_of_ble_eq_true rfl) dX4_areTwo_2 ⟨Nat.zero_le _, Nat.zero_le _⟩ ?_
  refine nv_ifeq_b (tgt := 25) hx hb dX4_areTwo_5 (by decide) (fun c1 => ?_) (fun c1 => ?_)
  · refine lv_iconst (v := nI (0)) hx hb dX4_areTwo_25 (by decide) ?_
    refine nv_cv (show nI (0) = bI (pairB X x z) from nv_f (by simp [pairB, c1])) ?_
    exact ro_zret hx hb hr hlocks dX4_areTwo_26
  · refine lv_aload_n hx hb dX4_areTwo_8 rfl (lv_at hl 0 rfl) ?_
    refine lv_iload_n hx hb dX4_areTwo_9 rfl (lv_at hl 2 rfl) ?_
    refine ro_V (n := 1) (As := [.int (z)]) (rest := []) ⟨hx, hb, hml, hown, hts⟩ (c_X4_isPlayer l D ci am X kr q0 q1 q2 q3 q4 q5 iw kn y0 y1 y2 y3 y4 y5 y6 (z) hWF) gX4_areTwo_X4_isPlayer rfl ⟨rfl, rfl⟩ (by decide +kernel) rfl ⟨Nat.le_of_ble_eq_true rfl, Nat.le_of_ble_eq_true rfl⟩ hE hs hK hP (ci := 4) (q0 := 0) rfl rfl hl.1 rfl (Nat.le_of_ble_eq_true rfl) dX4_areTwo_10 ⟨Nat.zero_le _, Nat.zero_le _⟩ ?_
    refine nv_ifeq_b (tgt := 25) hx hb dX4_areTwo_13 (by decide) (fun c2 => ?_) (fun c2 => ?_)
    · refine lv_iconst (v := nI (0)) hx hb dX4_areTwo_25 (by decide) ?_
      refine nv_cv (show nI (0) = bI (pairB X x z) from nv_f (by simp [pairB, c1, c2])) ?_
      exact ro_zret hx hb hr hlocks dX4_areTwo_26
    · refine lv_iload_n hx hb dX4_areTwo_16 rfl (lv_at hl 1 rfl) ?_
      refine lv_iload_n hx hb dX4_areTwo_17 rfl (lv_at hl 2 rfl) ?_
      refine lv_icmp_eq (tgt := 25) hx hb dX4_areTwo_18 (by decide) (fun c3 => ?_) (fun c3 => ?_)
      · refine lv_iconst (v := nI (0)) hx hb dX4_areTwo_25 (by decide) ?_
        refine nv_cv (show nI (0) = bI (pairB X x z) from nv_f (by simp [pairB, c1, c2, c3])) ?_
        exact ro_zret hx hb hr hlocks dX4_areTwo_26
      · refine lv_iconst (v := nI (1)) hx hb dX4_areTwo_21 (by decide) ?_
        refine lv_goto (tgt := 26) hx hb dX4_areTwo_22 (by decide) ?_
        refine nv_cv (show nI (1) = bI (pairB X x z) from nv_t (by simp [pairB, c1, c2, c3])) ?_
        exact ro_zret hx hb hr hlocks dX4_areTwo_26

set_option maxHeartbeats 4000000 in
set_option maxRecDepth 100000 in
/-- X4_hearsIn -/
theorem c_X4_hearsIn (l : Launch) (D : va_G) (ci : Nat → ClassId) (am : Nat → Nat) (X : AS) (kr : Nat → Int32) (q0 q1 q2 q3 q4 q5 : Int32) (iw : Bool) (kn : Nat → Option Nat) (y0 y1 y2 y3 y4 y5 y6 : Nat → Int32) (u o : Nat) (hWF : WF X.1) (h_u : u < 8) (h_o : o < 8) (h_ne : u ≠ o) : Met l yX4_hearsIn wsX4_hearsIn ({ frames := 6, cells := 0, slots := 0, locals := 138 } : Room) (va_Pc [.ref (am 0), .int (nI u), .int (nI o)] (ro_B D (tyL ci) (wN ci am X kr q0 q1 q2 q3 q4 q5 iw kn y0 y1 y2 y3 y4 y5 y6) (enT))) (ro_Q (some (.int (nI (bHear X.1 u o))))) 0 0 (fun _ => False) := by
  refine ro_Met (cc := cX4_hearsIn) (maxL := 5) (ret := (some .int)) [(0, .ref (am 0)), (1, .int (nI u)), (2, .int (nI o))] (by decide) rfl (Nat.le_of_ble_eq_true rfl) rfl ?_
  intro p e s m below meth c hx hb hml hr hlocks hts hown hP hK hs ls hl
  have hown : s.vm.findClass RX4 = some m.cls := hown
  have hE := hE_T
  have f_n := hWF.n
  refine lv_iconst (v := nI (0)) hx hb dX4_hearsIn_0 (by decide) ?_
  refine lv_istore_n (lv' := [(3, .int (nI 0)), (0, .ref (am 0)), (1, .int (nI u)), (2, .int (nI o))]) hx hb dX4_hearsIn_1 rfl hl (by decide) rfl (fun ls hl => ?_)
  refine lv_iconst (v := nI (0)) hx hb dX4_hearsIn_2 (by decide) ?_
  refine lv_istore (lv' := [(4, .int (nI 0)), (3, .int (nI 0)), (0, .ref (am 0)), (1, .int (nI u)), (2, .int (nI o))]) hx hb dX4_hearsIn_3 hl (by decide) rfl (fun ls hl => ?_)
  have L5 : ∀ (k5 : Nat) (i : Nat), 12 - i < k5 → (i ≤ 12) → ∀ (x3 x4 : Int32), x3 = nI (setTo (fun b => canHear X.1 u o && plays X.1 o b) (i)) → x4 = nI (i) → ∀ ls : Array Slot, lv_has ls 5 [(3, .int (x3)), (4, .int (x4)), (0, .ref (am 0)), (1, .int (nI u)), (2, .int (nI o))] → W p l e (headSpec wsX4_hearsIn ({ frames := 6, cells := 0, slots := 0, locals := 138 } : Room)).room s m ([.ref (am 0), .int (nI u), .int (nI o)] : List Value).toArray below meth c s.heap [] 0 0 (MQ below (ro_Q (some (.int (nI (bHear X.1 u o))))) ([.ref (am 0), .int (nI u), .int (nI o)] : List Value).toArray s 0 0 (fun _ => False)) (F0 m 5 ls []) := by
    intro k5
    induction k5 with
    | zero => intro i h0; exact absurd h0 (Nat.not_lt_zero _)
    | succ k5 ih5 =>
      intro i hk5 h_i x3 x4 e3 e4 ls hl
      subst e3
      subst e4
      refine lv_iload hx hb dX4_hearsIn_5 (lv_at hl 1 rfl) ?_
      refine lv_bipush (v := nI (12)) hx hb dX4_hearsIn_7 (by decide) ?_
      refine nv_icmp_ge (tgt := 40) hx hb (by omega) (by omega) dX4_hearsIn_9 (by decide) (fun c1 => ?_) (fun c1 => ?_)
      · refine lv_iload_n hx hb dX4_hearsIn_40 rfl (lv_at hl 0 rfl) ?_
        refine nv_cv (show nI (setTo (fun b => canHear X.1 u o && plays X.1 o b) (i)) = nI (bHear X.1 u o) from nv_e (by rw [show i = 12 by omega, bHear_set])) ?_
        exact ro_iret hx hb hr hlocks dX4_hearsIn_41
      · refine lv_iload_n hx hb dX4_hearsIn_12 rfl (lv_at hl 0 rfl) ?_
        refine lv_aload_n hx hb dX4_hearsIn_13 rfl (lv_at hl 2 rfl) ?_
        refine lv_iload_n hx hb dX4_hearsIn_14 rfl (lv_at hl 3 rfl) ?_
        refine lv_iload_n hx hb dX4_hearsIn_15 rfl (lv_at hl 4 rfl) ?_
        refine lv_iload hx hb dX4_hearsIn_16 (lv_at hl 1 rfl) ?_
        refine ro_V (n := 3) (As := [.int (nI u), .int (nI o), .int (nI i)]) (rest := [.int (nI (setTo (fun b => canHear X.1 u o && plays X.1 o b) (i)))]) ⟨hx, hb, hml, hown, hts⟩ (c_X4_doesHear l D ci am X kr q0 q1 q2 q3 q4 q5 iw kn y0 y1 y2 y3 y4 y5 y6 (u) (o) (i) hWF (by omega) (by omega) (by omega) (by omega)) gX4_hearsIn_X4_doesHear rfl ⟨rfl, rfl⟩ (by decide +kernel) rfl ⟨Nat.le_of_ble_eq_true rfl, Nat.le_of_ble_eq_true rfl⟩ hE hs hK hP (ci := 4) (q0 := 0) rfl rfl hl.1 rfl (Nat.le_of_ble_eq_true rfl) dX4_hearsIn_18 ⟨Nat.zero_le _, Nat.zero_le _⟩ ?_
        refine nv_ifeq_b (tgt := 31) hx hb dX4_hearsIn_21 (by decide) (fun c2 => ?_) (fun c2 => ?_)
        · refine lv_iconst (v := nI (0)) hx hb dX4_hearsIn_31 (by decide) ?_
          refine nv_ior hx hb dX4_hearsIn_32 ?_
          refine lv_istore_n (lv' := [(3, .int (nI ((setTo (fun b => canHear X.1 u o && plays X.1 o b) (i) ||| 0)))), (4, .int (nI i)), (0, .ref (am 0)), (1, .int (nI u)), (2, .int (nI o))]) hx hb dX4_hearsIn_33 rfl hl (by decide) rfl (fun ls hl => ?_)
          refine nv_iinc1 (lv' := [(4, .int (nI (i + 1))), (3, .int (nI ((setTo (fun b => canHear X.1 u o && plays X.1 o b) (i) ||| 0)))), (0, .ref (am 0)), (1, .int (nI u)), (2, .int (nI o))]) hx hb dX4_hearsIn_34 hl (k := 1) rfl (by decide) rfl (fun ls hl => ?_)
          refine lv_goto (tgt := 5) hx hb dX4_hearsIn_37 (by decide) ?_
          exact ih5 (i + 1) (by omega) (by omega) (nI ((setTo (fun b => canHear X.1 u o && plays X.1 o b) (i) ||| 0))) (nI (i + 1)) (nv_e (by first | exact setTo_t c2 | exact setTo_f0 c2)) rfl ls (lv_sub hl [1, 0, 2, 3, 4] rfl)
        · refine lv_iconst (v := nI (1)) hx hb dX4_hearsIn_24 (by decide) ?_
          refine lv_iload hx hb dX4_hearsIn_25 (lv_at hl 1 rfl) ?_
          refine nv_ishl hx hb (by omega) dX4_hearsIn_27 ?_
          refine lv_goto (tgt := 32) hx hb dX4_hearsIn_28 (by decide) ?_
          refine nv_ior hx hb dX4_hearsIn_32 ?_
          refine lv_istore_n (lv' := [(3, .int (nI ((setTo (fun b => canHear X.1 u o && plays X.1 o b) (i) ||| (1 * 2 ^ (i)))))), (4, .int (nI i)), (0, .ref (am 0)), (1, .int (nI u)), (2, .int (nI o))]) hx hb dX4_hearsIn_33 rfl hl (by decide) rfl (fun ls hl => ?_)
          refine nv_iinc1 (lv' := [(4, .int (nI (i + 1))), (3, .int (nI ((setTo (fun b => canHear X.1 u o && plays X.1 o b) (i) ||| (1 * 2 ^ (i)))))), (0, .ref (am 0)), (1, .int (nI u)), (2, .int (nI o))]) hx hb dX4_hearsIn_34 hl (k := 1) rfl (by decide) rfl (fun ls hl => ?_)
          refine lv_goto (tgt := 5) hx hb dX4_hearsIn_37 (by decide) ?_
          exact ih5 (i + 1) (by omega) (by omega) (nI ((setTo (fun b => canHear X.1 u o && plays X.1 o b) (i) ||| (1 * 2 ^ (i))))) (nI (i + 1)) (nv_e (by first | exact setTo_t c2 | exact setTo_f0 c2)) rfl ls (lv_sub hl [1, 0, 2, 3, 4] rfl)
  exact L5 _ (0) (Nat.lt_succ_self _) (by omega) (nI (0)) (nI (0)) rfl rfl ls (lv_sub hl [1, 0, 2, 3, 4] rfl)
