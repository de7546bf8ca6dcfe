/-! walks laid by program -/
set_option maxHeartbeats 4000000 in
set_option maxRecDepth 100000 in
/-- X4_judge -/
theorem c_X4_judge (l : Launch) (D : va_G) (ci : Nat → ClassId) (am : Nat → Nat) (X : AS) (kr : Nat → Int32) (q0 q1 q2 q3 q4 q5 : Int32) (iw : Bool) (kn : Nat → Option Nat) (y0 y1 y2 y3 y4 y5 y6 : Nat → Int32) (hI : injA am 16) (s_ : Int32) (hWX : WFX X) (hkr : kOK X kr) : Met l yX4_judge wsX4_judge ({ frames := 7, cells := 0, slots := 0, locals := 162 } : Room) (va_Pc [.ref (am 0), .int (s_)] (ro_B D (tyL ci) (wN ci am X kr q0 q1 q2 q3 q4 q5 iw kn y0 y1 y2 y3 y4 y5 y6) (enT))) (mu_Q (aM am) (some (.int ((p_judge X s_).1))) (fun H => ∃ (kr : Nat → Int32) (q0 : Int32) (q1 : Int32) (q2 : Int32) (q3 : Int32) (q4 : Int32) (q5 : Int32) (iw : Bool) (y0 : Nat → Int32) (y1 : Nat → Int32) (y2 : Nat → Int32) (y3 : Nat → Int32) (y4 : Nat → Int32) (y5 : Nat → Int32) (y6 : Nat → Int32), kOK (p_judge X s_).2 kr ∧ va_P D vwCl (wN ci am ((p_judge X s_).2) kr q0 q1 q2 q3 q4 q5 iw kn y0 y1 y2 y3 y4 y5 y6) H)) 0 0 (aM am) := by
  refine mu_Met (cc := cX4_judge) (maxL := 6) (ret := (some .int)) [(0, .ref (am 0)), (1, .int (s_))] (wN_D hI) (by decide) rfl (Nat.le_of_ble_eq_true rfl) rfl ?_
  intro p e s m below meth c H locs hx hb hml hr hlocks hts hown hP hK hs0 hD hS ls hl
  have hown : s.vm.findClass RX4 = some m.cls := hown
  have hinX4 : ∀ w ∈ wsX40, w ∈ wsX4_judge := by decide +kernel
  have hE := hE_T
  have hWF := hWX.w
  have f_n := hWF.n
  have f_e := hWX.e
  have f_tl := hWX.t
  refine lv_aload_n hx hb dX4_judge_0 rfl (lv_at hl 0 rfl) ?_
  refine lv_iload_n hx hb dX4_judge_1 rfl (lv_at hl 1 rfl) ?_
  refine ro_V (n := 1) (As := [.int (s_)]) (rest := []) ⟨hx, hb, hml, hown, hts⟩ (c_X4_lacks l D ci am X kr q0 q1 q2 q3 q4 q5 iw kn y0 y1 y2 y3 y4 y5 y6 (s_) hWF hWX) gX4_judge_X4_lacks rfl ⟨rfl, rfl⟩ (by decide +kernel) rfl ⟨Nat.le_of_ble_eq_true rfl, Nat.le_of_ble_eq_true rfl⟩ hE trivial hK hP (ci := 4) (q0 := 0) rfl rfl hl.1 rfl (Nat.le_of_ble_eq_true rfl) dX4_judge_2 ⟨Nat.zero_le _, Nat.zero_le _⟩ ?_
  refine lv_if_eq (tgt := 18) hx hb dX4_judge_5 (by decide) (fun c1 => ?_) (fun c1 => ?_)
  · have lq2 := lkm_eq c1
    obtain ⟨s_n, h_s_n, h_bs_, rfl⟩ := lack_ok lq2
    have t_s_n : tn (nI s_n) = s_n := tn_nI (by omega)
    have f3 := hWX.sl s_n
    have f4 := sb_lt hWX s_n
    refine lv_iconst (v := nI (0)) hx hb dX4_judge_18 (by decide) ?_
    refine lv_istore_n (lv' := [(2, .int (nI 0)), (0, .ref (am 0)), (1, .int (nI s_n))]) hx hb dX4_judge_19 rfl hl (by decide) rfl (fun ls hl => ?_)
    refine lv_iconst (v := nI (1)) hx hb dX4_judge_20 (by decide) ?_
    refine lv_istore_n (lv' := [(3, .int (nI 1)), (2, .int (nI 0)), (0, .ref (am 0)), (1, .int (nI s_n))]) hx hb dX4_judge_21 rfl hl (by decide) rfl (fun ls hl => ?_)
    have L22 : ∀ (k22 : Nat) (i : Nat) (ok : Nat), 2 * (X.2.2.2.2.2.2.2.1 s_n - i) + ok < k22 → (i ≤ X.2.2.2.2.2.2.2.1 s_n) → (ok ≤ 1) → (∀ j, j < i → (fun i => !okJ X (X.2.2.2.2.2.2.2.2 s_n) i) j = false) → (ok = 0 → i < X.2.2.2.2.2.2.2.1 s_n ∧ (fun i => !okJ X (X.2.2.2.2.2.2.2.2 s_n) i) i = true) → ∀ (x2 : Int32), ∀ (x3 : Int32), x2 = nI (i) → x3 = nI (ok) → ∀ ls : Array Slot, lv_has ls 6 [(2, .int (x2)), (3, .int (x3)), (0, .ref (am 0)), (1, .int (nI s_n))] → W p l e (headSpec wsX4_judge ({ frames := 7, cells := 0, slots := 0, locals := 162 } : Room)).room s m ([.ref (am 0), .int (nI s_n)] : List Value).toArray below meth c H locs 0 0 (MQ below (mu_Q (aM am) (some (.int ((p_judge X (nI s_n)).1))) (fun H => ∃ (kr : Nat → Int32) (q0 : Int32) (q1 : Int32) (q2 : Int32) (q3 : Int32) (q4 : Int32) (q5 : Int32) (iw : Bool) (y0 : Nat → Int32) (y1 : Nat → Int32) (y2 : Nat → Int32) (y3 : Nat → Int32) (y4 : Nat → Int32) (y5 : Nat → Int32) (y6 : Nat → Int32), kOK (p_judge X (nI s_n)).2 kr ∧ va_P D vwCl (wN ci am ((p_judge X (nI s_n)).2) kr q0 q1 q2 q3 q4 q5 iw kn y0 y1 y2 y3 y4 y5 y6) H)) ([.ref (am 0), .int (nI s_n)] : List Value).toArray s 0 0 (aM am)) (F0 m 22 ls []) := by
      intro k22
      induction k22 with
      | zero => intro i ok h0; exact absurd h0 (Nat.not_lt_zero _)
      | succ k22 ih22 =>
        intro i ok hk22 h_i h_o1 h_u h_ok x2 x3 e2 e3 ls hl
        subst e2
        subst e3
        refine lv_iload_n hx hb dX4_judge_22 rfl (lv_at hl 0 rfl) ?_
        refine lv_aload_n hx hb dX4_judge_23 rfl (lv_at hl 2 rfl) ?_
        refine va_get (D := D) (ci := 4) (v := .ref (am 13)) (C := RX4) (T := TX4) (N := 24) hx hb hts hinX4 hown hK hP 0 rfl rfl 21 (by decide) (hts (.fieldLink RX4 63 "OneShortModel" "sizes" "[I") (List.mem_of_getElem? (i := 1) rfl)) (fun _ h9 => h9) rfl dX4_judge_24 ?_
        refine lv_iload_n hx hb dX4_judge_27 rfl (lv_at hl 3 rfl) ?_
        refine nv_iald (v := nI (X.2.2.2.2.2.2.2.1 (s_n))) hx hb hK hP 13 0 rfl rfl (by omega) (by decide) rfl dX4_judge_28 ?_
        refine nv_icmp_ge (tgt := 124) hx hb (by omega) (by omega) dX4_judge_29 (by decide) (fun c5 => ?_) (fun c5 => ?_)
        · refine lv_iload_n hx hb dX4_judge_124 rfl (lv_at hl 1 rfl) ?_
          refine nv_ifeq (tgt := 132) hx hb (by omega) dX4_judge_125 (by decide) (fun c6 => ?_) (fun c6 => ?_)
          · refine lv_iconst (v := nI (1)) hx hb dX4_judge_132 (by decide) ?_
            refine lv_iload_n hx hb dX4_judge_133 rfl (lv_at hl 0 rfl) ?_
            refine nv_iadd hx hb dX4_judge_134 ?_
            have hp : p_judge X (nI s_n) = (nI ((1 + i)), X) := by obtain ⟨h7, h_bad⟩ := h_ok (by omega); obtain ⟨h8, h9⟩ := frst_eq (P := fun i => !okJ X (X.2.2.2.2.2.2.2.2 s_n) i) (n := X.2.2.2.2.2.2.2.1 s_n) (k := i) h7 h_bad h_u; rw [p_judge, if_pos lq2, t_s_n, h8, h9]; rfl
            refine nv_cv (show nI ((1 + i)) = (p_judge X (nI s_n)).1 from by rw [hp]) ?_
            exact mu_iret hx hb hr hlocks hS ((by rw [hp]; exact ⟨_, _, _, _, _, _, _, _, _, _, _, _, _, _, _, hkr, hP⟩)) dX4_judge_135
          · refine lv_iconst (v := nI (0)) hx hb dX4_judge_128 (by decide) ?_
            refine lv_goto (tgt := 135) hx hb dX4_judge_129 (by decide) ?_
            have hp : p_judge X (nI s_n) = (nI (0), X) := by first | (exfalso; omega) | (rw [p_judge, if_pos lq2, t_s_n, any_no (n := X.2.2.2.2.2.2.2.1 s_n) (fun j hj => h_u j (by omega))]; rfl) | (exfalso; have := (h_ok (by omega)).1; omega)
            refine nv_cv (show nI (0) = (p_judge X (nI s_n)).1 from by rw [hp]) ?_
            exact mu_iret hx hb hr hlocks hS ((by rw [hp]; exact ⟨_, _, _, _, _, _, _, _, _, _, _, _, _, _, _, hkr, hP⟩)) dX4_judge_135
        · refine lv_iload_n hx hb dX4_judge_32 rfl (lv_at hl 1 rfl) ?_
          refine nv_ifeq (tgt := 124) hx hb (by omega) dX4_judge_33 (by decide) (fun c7 => ?_) (fun c7 => ?_)
          · refine lv_iload_n hx hb dX4_judge_124 rfl (lv_at hl 1 rfl) ?_
            refine nv_ifeq (tgt := 132) hx hb (by omega) dX4_judge_125 (by decide) (fun c8 => ?_) (fun c8 => ?_)
            · refine lv_iconst (v := nI (1)) hx hb dX4_judge_132 (by decide) ?_
              refine lv_iload_n hx hb dX4_judge_133 rfl (lv_at hl 0 rfl) ?_
              refine nv_iadd hx hb dX4_judge_134 ?_
              have hp : p_judge X (nI s_n) = (nI ((1 + i)), X) := by obtain ⟨h7, h_bad⟩ := h_ok (by omega); obtain ⟨h8, h9⟩ := frst_eq (P := fun i => !okJ X (X.2.2.2.2.2.2.2.2 s_n) i) (n := X.2.2.2.2.2.2.2.1 s_n) (k := i) h7 h_bad h_u; rw [p_judge, if_pos lq2, t_s_n, h8, h9]; rfl
              refine nv_cv (show nI ((1 + i)) = (p_judge X (nI s_n)).1 from by rw [hp]) ?_
              exact mu_iret hx hb hr hlocks hS ((by rw [hp]; exact ⟨_, _, _, _, _, _, _, _, _, _, _, _, _, _, _, hkr, hP⟩)) dX4_judge_135
            · refine lv_iconst (v := nI (0)) hx hb dX4_judge_128 (by decide) ?_
              refine lv_goto (tgt := 135) hx hb dX4_judge_129 (by decide) ?_
              have hp : p_judge X (nI s_n) = (nI (0), X) := by first | (exfalso; omega) | (rw [p_judge, if_pos lq2, t_s_n, any_no (n := X.2.2.2.2.2.2.2.1 s_n) (fun j hj => h_u j (by omega))]; rfl) | (exfalso; have := (h_ok (by omega)).1; omega)
              refine nv_cv (show nI (0) = (p_judge X (nI s_n)).1 from by rw [hp]) ?_
              exact mu_iret hx hb hr hlocks hS ((by rw [hp]; exact ⟨_, _, _, _, _, _, _, _, _, _, _, _, _, _, _, hkr, hP⟩)) dX4_judge_135
          · refine lv_aload_n hx hb dX4_judge_36 rfl (lv_at hl 2 rfl) ?_
            refine va_get (D := D) (ci := 4) (v := .ref (am 14)) (C := RX4) (T := TX4) (N := 24) hx hb hts hinX4 hown hK hP 0 rfl rfl 22 (by decide) (hts (.fieldLink RX4 66 "OneShortModel" "numbers" "[I") (List.mem_of_getElem? (i := 2) rfl)) (fun _ h9 => h9) rfl dX4_judge_37 ?_
            refine lv_bipush (v := nI (40)) hx hb dX4_judge_40 (by decide) ?_
            refine lv_iload_n hx hb dX4_judge_42 rfl (lv_at hl 3 rfl) ?_
            refine nv_imul hx hb dX4_judge_43 ?_
            refine lv_iload_n hx hb dX4_judge_44 rfl (lv_at hl 0 rfl) ?_
            refine nv_iadd hx hb dX4_judge_45 ?_
            refine nv_iald (v := X.2.2.2.2.2.2.2.2 s_n i) hx hb hK hP 14 0 rfl rfl (by omega) (by decide) (sn_at X.2.2.2.2.2.2.2.2 s_n (by omega)) dX4_judge_46 ?_
            refine lv_istore (lv' := [(4, .int (X.2.2.2.2.2.2.2.2 s_n i)), (2, .int (nI i)), (3, .int (nI ok)), (0, .ref (am 0)), (1, .int (nI s_n))]) hx hb dX4_judge_47 hl (by decide) rfl (fun ls hl => ?_)
            refine lv_iload_n hx hb dX4_judge_49 rfl (lv_at hl 1 rfl) ?_
            refine nv_ifne (tgt := 57) hx hb (by omega) dX4_judge_50 (by decide) (fun c9 => ?_) (fun c9 => ?_)
            · refine lv_aload_n hx hb dX4_judge_57 rfl (lv_at hl 3 rfl) ?_
              refine va_get (D := D) (ci := 4) (v := .ref (am 14)) (C := RX4) (T := TX4) (N := 24) hx hb hts hinX4 hown hK hP 0 rfl rfl 22 (by decide) (hts (.fieldLink RX4 66 "OneShortModel" "numbers" "[I") (List.mem_of_getElem? (i := 2) rfl)) (fun _ h9 => h9) rfl dX4_judge_58 ?_
              refine lv_bipush (v := nI (40)) hx hb dX4_judge_61 (by decide) ?_
              refine lv_iload_n hx hb dX4_judge_63 rfl (lv_at hl 4 rfl) ?_
              refine nv_imul hx hb dX4_judge_64 ?_
              refine lv_iload_n hx hb dX4_judge_65 rfl (lv_at hl 1 rfl) ?_
              refine nv_iadd hx hb dX4_judge_66 ?_
              refine lv_iconst (v := nI (1)) hx hb dX4_judge_67 (by decide) ?_
              refine nv_isub hx hb (by omega) dX4_judge_68 ?_
              refine nv_cv (show nI ((((40 * s_n) + i) - 1)) = nI (((40 * s_n) + (i - 1))) from congrArg nI (by omega)) ?_
              refine nv_iald (v := X.2.2.2.2.2.2.2.2 s_n (i - 1)) hx hb hK hP 14 0 rfl rfl (by omega) (by decide) (sn_at X.2.2.2.2.2.2.2.2 s_n (by omega)) dX4_judge_69 ?_
              refine lv_istore (lv' := [(5, .int (X.2.2.2.2.2.2.2.2 s_n (i - 1))), (4, .int (X.2.2.2.2.2.2.2.2 s_n i)), (2, .int (nI i)), (3, .int (nI ok)), (0, .ref (am 0)), (1, .int (nI s_n))]) hx hb dX4_judge_70 hl (by decide) rfl (fun ls hl => ?_)
              refine lv_aload_n hx hb dX4_judge_72 rfl (lv_at hl 4 rfl) ?_
              refine lv_iload hx hb dX4_judge_73 (lv_at hl 1 rfl) ?_
              refine ro_V (n := 1) (As := [.int (X.2.2.2.2.2.2.2.2 s_n i)]) (rest := []) ⟨hx, hb, hml, hown, hts⟩ (c_X4_isPlayer l D ci am X kr q0 q1 q2 q3 q4 q5 iw kn y0 y1 y2 y3 y4 y5 y6 (X.2.2.2.2.2.2.2.2 s_n i) hWF) gX4_judge_X4_isPlayer rfl ⟨rfl, rfl⟩ (by decide +kernel) rfl ⟨Nat.le_of_ble_eq_true rfl, Nat.le_of_ble_eq_true rfl⟩ hE trivial hK hP (ci := 4) (q0 := 0) rfl rfl hl.1 rfl (Nat.le_of_ble_eq_true rfl) dX4_judge_75 ⟨Nat.zero_le _, Nat.zero_le _⟩ ?_
              refine nv_ifeq_b (tgt := 107) hx hb dX4_judge_78 (by decide) (fun c10 => ?_) (fun c10 => ?_)
              · refine lv_iconst (v := nI (0)) hx hb dX4_judge_107 (by decide) ?_
                refine lv_istore_n (lv' := [(3, .int (nI 0)), (5, .int (X.2.2.2.2.2.2.2.2 s_n (i - 1))), (4, .int (X.2.2.2.2.2.2.2.2 s_n i)), (2, .int (nI i)), (0, .ref (am 0)), (1, .int (nI s_n))]) hx hb dX4_judge_108 rfl hl (by decide) rfl (fun ls hl => ?_)
                refine lv_iload_n hx hb dX4_judge_109 rfl (lv_at hl 3 rfl) ?_
                refine lv_iload_n hx hb dX4_judge_110 rfl (lv_at hl 0 rfl) ?_
                refine lv_if_eq (tgt := 118) hx hb dX4_judge_111 (by decide) (fun _ => ?_) (fun h => absurd (by decide) h)
                refine lv_iconst (v := nI (0)) hx hb dX4_judge_118 (by decide) ?_
                refine nv_iadd hx hb dX4_judge_119 ?_
                refine lv_istore_n (lv' := [(2, .int (nI ((i + 0)))), (3, .int (nI 0)), (5, .int (X.2.2.2.2.2.2.2.2 s_n (i - 1))), (4, .int (X.2.2.2.2.2.2.2.2 s_n i)), (0, .ref (am 0)), (1, .int (nI s_n))]) hx hb dX4_judge_120 rfl hl (by decide) rfl (fun ls hl => ?_)
                refine lv_goto (tgt := 22) hx hb dX4_judge_121 (by decide) ?_
                exact ih22 (i) (0) (by omega) (by omega) (by omega) h_u (fun _ => ⟨by omega, by first | exact okJ_a c10 | exact okJ_b (by omega) hp2 | exact okJ_c (by omega) c10⟩) (nI ((i + 0))) (nI (0)) rfl rfl ls (lv_sub hl [0, 1, 4, 5] rfl)
              · have hA : inN (X.2.2.2.2.2.2.2.2 s_n (i)) (X.1 7 0) = true := c10
                obtain ⟨e_a, f_a⟩ := in_tn hA (by omega)
                refine lv_iload_n hx hb dX4_judge_81 rfl (lv_at hl 2 rfl) ?_
                refine nv_ifeq (tgt := 103) hx hb (by omega) dX4_judge_82 (by decide) (fun c12 => ?_) (fun c12 => ?_)
                · refine lv_iconst (v := nI (1)) hx hb dX4_judge_103 (by decide) ?_
                  refine lv_goto (tgt := 108) hx hb dX4_judge_104 (by decide) ?_
                  refine lv_istore_n (lv' := [(3, .int (nI 1)), (5, .int (X.2.2.2.2.2.2.2.2 s_n (i - 1))), (4, .int (X.2.2.2.2.2.2.2.2 s_n i)), (2, .int (nI i)), (0, .ref (am 0)), (1, .int (nI s_n))]) hx hb dX4_judge_108 rfl hl (by decide) rfl (fun ls hl => ?_)
                  refine lv_iload_n hx hb dX4_judge_109 rfl (lv_at hl 3 rfl) ?_
                  refine lv_iload_n hx hb dX4_judge_110 rfl (lv_at hl 0 rfl) ?_
                  refine lv_if_eq (tgt := 118) hx hb dX4_judge_111 (by decide) (fun h => absurd h (by decide)) (fun _ => ?_)
                  refine lv_iconst (v := nI (1)) hx hb dX4_judge_114 (by decide) ?_
                  refine lv_goto (tgt := 119) hx hb dX4_judge_115 (by decide) ?_
                  refine nv_iadd hx hb dX4_judge_119 ?_
                  refine lv_istore_n (lv' := [(2, .int (nI ((i + 1)))), (3, .int (nI 1)), (5, .int (X.2.2.2.2.2.2.2.2 s_n (i - 1))), (4, .int (X.2.2.2.2.2.2.2.2 s_n i)), (0, .ref (am 0)), (1, .int (nI s_n))]) hx hb dX4_judge_120 rfl hl (by decide) rfl (fun ls hl => ?_)
                  refine lv_goto (tgt := 22) hx hb dX4_judge_121 (by decide) ?_
                  exact ih22 (i + 1) (1) (by omega) (by omega) (by omega) (all_f h_u (by first | exact okJ_0 hA c12 | exact okJ_1 hA hp2 c12)) (fun h => absurd h (by decide)) (nI ((i + 1))) (nI (1)) rfl rfl ls (lv_sub hl [0, 1, 4, 5] rfl)
                · have hB0 : inN (X.2.2.2.2.2.2.2.2 s_n (i - 1)) (X.1 7 0) = true := okJ_in (h_u (i - 1) (by omega))
                  obtain ⟨e_b, f_b⟩ := in_tn hB0 (by omega)
                  refine lv_iload hx hb dX4_judge_85 (lv_at hl 1 rfl) ?_
                  refine lv_iload hx hb dX4_judge_87 (lv_at hl 0 rfl) ?_
                  refine lv_icmp_eq (tgt := 107) hx hb dX4_judge_89 (by decide) (fun c14 => ?_) (fun c14 => ?_)
                  · have hp2 : pairB X (X.2.2.2.2.2.2.2.2 s_n (i)) (X.2.2.2.2.2.2.2.2 s_n (i - 1)) = false := by simp [pairB, c14]
                    refine lv_iconst (v := nI (0)) hx hb dX4_judge_107 (by decide) ?_
                    refine lv_istore_n (lv' := [(3, .int (nI 0)), (5, .int (X.2.2.2.2.2.2.2.2 s_n (i - 1))), (4, .int (X.2.2.2.2.2.2.2.2 s_n i)), (2, .int (nI i)), (0, .ref (am 0)), (1, .int (nI s_n))]) hx hb dX4_judge_108 rfl hl (by decide) rfl (fun ls hl => ?_)
                    refine lv_iload_n hx hb dX4_judge_109 rfl (lv_at hl 3 rfl) ?_
                    refine lv_iload_n hx hb dX4_judge_110 rfl (lv_at hl 0 rfl) ?_
                    refine lv_if_eq (tgt := 118) hx hb dX4_judge_111 (by decide) (fun _ => ?_) (fun h => absurd (by decide) h)
                    refine lv_iconst (v := nI (0)) hx hb dX4_judge_118 (by decide) ?_
                    refine nv_iadd hx hb dX4_judge_119 ?_
                    refine lv_istore_n (lv' := [(2, .int (nI ((i + 0)))), (3, .int (nI 0)), (5, .int (X.2.2.2.2.2.2.2.2 s_n (i - 1))), (4, .int (X.2.2.2.2.2.2.2.2 s_n i)), (0, .ref (am 0)), (1, .int (nI s_n))]) hx hb dX4_judge_120 rfl hl (by decide) rfl (fun ls hl => ?_)
                    refine lv_goto (tgt := 22) hx hb dX4_judge_121 (by decide) ?_
                    exact ih22 (i) (0) (by omega) (by omega) (by omega) h_u (fun _ => ⟨by omega, by first | exact okJ_a c14 | exact okJ_b (by omega) hp2 | exact okJ_c (by omega) c14⟩) (nI ((i + 0))) (nI (0)) rfl rfl ls (lv_sub hl [0, 1, 4, 5] rfl)
                  · have hp2 : pairB X (X.2.2.2.2.2.2.2.2 s_n (i)) (X.2.2.2.2.2.2.2.2 s_n (i - 1)) = true := by simp [pairB, hA, hB0, c14]
                    have f_ne : tn (X.2.2.2.2.2.2.2.2 s_n (i)) ≠ tn (X.2.2.2.2.2.2.2.2 s_n (i - 1)) := fun z => c14 (by rw [e_a, e_b, z])
                    rw [e_a, e_b] at hl
                    refine lv_aload_n hx hb dX4_judge_92 rfl (lv_at hl 4 rfl) ?_
                    refine lv_iload hx hb dX4_judge_93 (lv_at hl 1 rfl) ?_
                    refine lv_iload hx hb dX4_judge_95 (lv_at hl 0 rfl) ?_
                    refine ro_V (n := 2) (As := [.int (nI (tn (X.2.2.2.2.2.2.2.2 s_n (i)))), .int (nI (tn (X.2.2.2.2.2.2.2.2 s_n (i - 1))))]) (rest := []) ⟨hx, hb, hml, hown, hts⟩ (c_X4_hearsIn l D ci am X kr q0 q1 q2 q3 q4 q5 iw kn y0 y1 y2 y3 y4 y5 y6 (tn (X.2.2.2.2.2.2.2.2 s_n (i))) (tn (X.2.2.2.2.2.2.2.2 s_n (i - 1))) hWF (by omega) (by omega) (by omega)) gX4_judge_X4_hearsIn rfl ⟨rfl, rfl⟩ (by decide +kernel) rfl ⟨Nat.le_of_ble_eq_true rfl, Nat.le_of_ble_eq_true rfl⟩ hE trivial hK hP (ci := 4) (q0 := 0) rfl rfl hl.1 rfl (Nat.le_of_ble_eq_true rfl) dX4_judge_97 ⟨Nat.zero_le _, Nat.zero_le _⟩ ?_
                    have f16 := bHear_lt X.1 ((tn (X.2.2.2.2.2.2.2.2 s_n (i)))) ((tn (X.2.2.2.2.2.2.2.2 s_n (i - 1))))
                    refine nv_ifeq (tgt := 107) hx hb (by omega) dX4_judge_100 (by decide) (fun c17 => ?_) (fun c17 => ?_)
                    · refine lv_iconst (v := nI (0)) hx hb dX4_judge_107 (by decide) ?_
                      refine lv_istore_n (lv' := [(3, .int (nI 0)), (5, .int (nI (tn (X.2.2.2.2.2.2.2.2 s_n (i - 1))))), (4, .int (nI (tn (X.2.2.2.2.2.2.2.2 s_n (i))))), (2, .int (nI i)), (0, .ref (am 0)), (1, .int (nI s_n))]) hx hb dX4_judge_108 rfl hl (by decide) rfl (fun ls hl => ?_)
                      refine lv_iload_n hx hb dX4_judge_109 rfl (lv_at hl 3 rfl) ?_
                      refine lv_iload_n hx hb dX4_judge_110 rfl (lv_at hl 0 rfl) ?_
                      refine lv_if_eq (tgt := 118) hx hb dX4_judge_111 (by decide) (fun _ => ?_) (fun h => absurd (by decide) h)
                      refine lv_iconst (v := nI (0)) hx hb dX4_judge_118 (by decide) ?_
                      refine nv_iadd hx hb dX4_judge_119 ?_
                      refine lv_istore_n (lv' := [(2, .int (nI ((i + 0)))), (3, .int (nI 0)), (5, .int (nI (tn (X.2.2.2.2.2.2.2.2 s_n (i - 1))))), (4, .int (nI (tn (X.2.2.2.2.2.2.2.2 s_n (i))))), (0, .ref (am 0)), (1, .int (nI s_n))]) hx hb dX4_judge_120 rfl hl (by decide) rfl (fun ls hl => ?_)
                      refine lv_goto (tgt := 22) hx hb dX4_judge_121 (by decide) ?_
                      exact ih22 (i) (0) (by omega) (by omega) (by omega) h_u (fun _ => ⟨by omega, by first | exact okJ_a c17 | exact okJ_b (by omega) hp2 | exact okJ_c (by omega) c17⟩) (nI ((i + 0))) (nI (0)) rfl rfl ls (lv_sub hl [0, 1, 4, 5] rfl)
                    · refine lv_iconst (v := nI (1)) hx hb dX4_judge_103 (by decide) ?_
                      refine lv_goto (tgt := 108) hx hb dX4_judge_104 (by decide) ?_
                      refine lv_istore_n (lv' := [(3, .int (nI 1)), (5, .int (nI (tn (X.2.2.2.2.2.2.2.2 s_n (i - 1))))), (4, .int (nI (tn (X.2.2.2.2.2.2.2.2 s_n (i))))), (2, .int (nI i)), (0, .ref (am 0)), (1, .int (nI s_n))]) hx hb dX4_judge_108 rfl hl (by decide) rfl (fun ls hl => ?_)
                      refine lv_iload_n hx hb dX4_judge_109 rfl (lv_at hl 3 rfl) ?_
                      refine lv_iload_n hx hb dX4_judge_110 rfl (lv_at hl 0 rfl) ?_
                      refine lv_if_eq (tgt := 118) hx hb dX4_judge_111 (by decide) (fun h => absurd h (by decide)) (fun _ => ?_)
                      refine lv_iconst (v := nI (1)) hx hb dX4_judge_114 (by decide) ?_
                      refine lv_goto (tgt := 119) hx hb dX4_judge_115 (by decide) ?_
                      refine nv_iadd hx hb dX4_judge_119 ?_
                      refine lv_istore_n (lv' := [(2, .int (nI ((i + 1)))), (3, .int (nI 1)), (5, .int (nI (tn (X.2.2.2.2.2.2.2.2 s_n (i - 1))))), (4, .int (nI (tn (X.2.2.2.2.2.2.2.2 s_n (i))))), (0, .ref (am 0)), (1, .int (nI s_n))]) hx hb dX4_judge_120 rfl hl (by decide) rfl (fun ls hl => ?_)
                      refine lv_goto (tgt := 22) hx hb dX4_judge_121 (by decide) ?_
                      exact ih22 (i + 1) (1) (by omega) (by omega) (by omega) (all_f h_u (by first | exact okJ_0 hA c17 | exact okJ_1 hA hp2 c17)) (fun h => absurd h (by decide)) (nI ((i + 1))) (nI (1)) rfl rfl ls (lv_sub hl [0, 1, 4, 5] rfl)
            · refine lv_iconst (v := -1) hx hb dX4_judge_53 (by decide) ?_
              refine lv_goto (tgt := 70) hx hb dX4_judge_54 (by decide) ?_
              refine lv_istore (lv' := [(5, .int (-1)), (4, .int (X.2.2.2.2.2.2.2.2 s_n i)), (2, .int (nI i)), (3, .int (nI ok)), (0, .ref (am 0)), (1, .int (nI s_n))]) hx hb dX4_judge_70 hl (by decide) rfl (fun ls hl => ?_)
              refine lv_aload_n hx hb dX4_judge_72 rfl (lv_at hl 4 rfl) ?_
              refine lv_iload hx hb dX4_judge_73 (lv_at hl 1 rfl) ?_
              refine ro_V (n := 1) (As := [.int (X.2.2.2.2.2.2.2.2 s_n i)]) (rest := []) ⟨hx, hb, hml, hown, hts⟩ (c_X4_isPlayer l D ci am X kr q0 q1 q2 q3 q4 q5 iw kn y0 y1 y2 y3 y4 y5 y6 (X.2.2.2.2.2.2.2.2 s_n i) hWF) gX4_judge_X4_isPlayer rfl ⟨rfl, rfl⟩ (by decide +kernel) rfl ⟨Nat.le_of_ble_eq_true rfl, Nat.le_of_ble_eq_true rfl⟩ hE trivial hK hP (ci := 4) (q0 := 0) rfl rfl hl.1 rfl (Nat.le_of_ble_eq_true rfl) dX4_judge_75 ⟨Nat.zero_le _, Nat.zero_le _⟩ ?_
              refine nv_ifeq_b (tgt := 107) hx hb dX4_judge_78 (by decide) (fun c20 => ?_) (fun c20 => ?_)
              · refine lv_iconst (v := nI (0)) hx hb dX4_judge_107 (by decide) ?_
                refine lv_istore_n (lv' := [(3, .int (nI 0)), (5, .int (-1)), (4, .int (X.2.2.2.2.2.2.2.2 s_n i)), (2, .int (nI i)), (0, .ref (am 0)), (1, .int (nI s_n))]) hx hb dX4_judge_108 rfl hl (by decide) rfl (fun ls hl => ?_)
                refine lv_iload_n hx hb dX4_judge_109 rfl (lv_at hl 3 rfl) ?_
                refine lv_iload_n hx hb dX4_judge_110 rfl (lv_at hl 0 rfl) ?_
                refine lv_if_eq (tgt := 118) hx hb dX4_judge_111 (by decide) (fun _ => ?_) (fun h => absurd (by decide) h)
                refine lv_iconst (v := nI (0)) hx hb dX4_judge_118 (by decide) ?_
                refine nv_iadd hx hb dX4_judge_119 ?_
                refine lv_istore_n (lv' := [(2, .int (nI ((i + 0)))), (3, .int (nI 0)), (5, .int (-1)), (4, .int (X.2.2.2.2.2.2.2.2 s_n i)), (0, .ref (am 0)), (1, .int (nI s_n))]) hx hb dX4_judge_120 rfl hl (by decide) rfl (fun ls hl => ?_)
                refine lv_goto (tgt := 22) hx hb dX4_judge_121 (by decide) ?_
                exact ih22 (i) (0) (by omega) (by omega) (by omega) h_u (fun _ => ⟨by omega, by first | exact okJ_a c20 | exact okJ_b (by omega) hp2 | exact okJ_c (by omega) c20⟩) (nI ((i + 0))) (nI (0)) rfl rfl ls (lv_sub hl [0, 1, 4, 5] rfl)
              · have hA : inN (X.2.2.2.2.2.2.2.2 s_n (i)) (X.1 7 0) = true := c20
                obtain ⟨e_a, f_a⟩ := in_tn hA (by omega)
                refine lv_iload_n hx hb dX4_judge_81 rfl (lv_at hl 2 rfl) ?_
                refine nv_ifeq (tgt := 103) hx hb (by omega) dX4_judge_82 (by decide) (fun c22 => ?_) (fun c22 => ?_)
                · refine lv_iconst (v := nI (1)) hx hb dX4_judge_103 (by decide) ?_
                  refine lv_goto (tgt := 108) hx hb dX4_judge_104 (by decide) ?_
                  refine lv_istore_n (lv' := [(3, .int (nI 1)), (5, .int (-1)), (4, .int (X.2.2.2.2.2.2.2.2 s_n i)), (2, .int (nI i)), (0, .ref (am 0)), (1, .int (nI s_n))]) hx hb dX4_judge_108 rfl hl (by decide) rfl (fun ls hl => ?_)
                  refine lv_iload_n hx hb dX4_judge_109 rfl (lv_at hl 3 rfl) ?_
                  refine lv_iload_n hx hb dX4_judge_110 rfl (lv_at hl 0 rfl) ?_
                  refine lv_if_eq (tgt := 118) hx hb dX4_judge_111 (by decide) (fun h => absurd h (by decide)) (fun _ => ?_)
                  refine lv_iconst (v := nI (1)) hx hb dX4_judge_114 (by decide) ?_
                  refine lv_goto (tgt := 119) hx hb dX4_judge_115 (by decide) ?_
                  refine nv_iadd hx hb dX4_judge_119 ?_
                  refine lv_istore_n (lv' := [(2, .int (nI ((i + 1)))), (3, .int (nI 1)), (5, .int (-1)), (4, .int (X.2.2.2.2.2.2.2.2 s_n i)), (0, .ref (am 0)), (1, .int (nI s_n))]) hx hb dX4_judge_120 rfl hl (by decide) rfl (fun ls hl => ?_)
                  refine lv_goto (tgt := 22) hx hb dX4_judge_121 (by decide) ?_
                  exact ih22 (i + 1) (1) (by omega) (by omega) (by omega) (all_f h_u (by first | exact okJ_0 hA c22 | exact okJ_1 hA hp2 c22)) (fun h => absurd h (by decide)) (nI ((i + 1))) (nI (1)) rfl rfl ls (lv_sub hl [0, 1, 4, 5] rfl)
                · exact absurd c9 c22
    exact L22 _ (0) (1) (Nat.lt_succ_self _) (by omega) (by omega) (fun _ h => absurd h (Nat.not_lt_zero _)) (fun h => absurd h (by decide)) (nI (0)) (nI (1)) rfl rfl ls (lv_sub hl [1, 0, 2, 3] rfl)
  · have lq24 := lkm_ne c1
    have f25 := lack_lt lq24
    refine lv_aload_n hx hb dX4_judge_8 rfl (lv_at hl 0 rfl) ?_
    refine lv_aload_n hx hb dX4_judge_9 rfl (lv_at hl 0 rfl) ?_
    refine lv_iload_n hx hb dX4_judge_10 rfl (lv_at hl 1 rfl) ?_
    refine ro_V (n := 1) (As := [.int (s_)]) (rest := [.ref (am 0)]) ⟨hx, hb, hml, hown, hts⟩ (c_X4_lacks l D ci am X kr q0 q1 q2 q3 q4 q5 iw kn y0 y1 y2 y3 y4 y5 y6 (s_) hWF hWX) gX4_judge_X4_lacks rfl ⟨rfl, rfl⟩ (by decide +kernel) rfl ⟨Nat.le_of_ble_eq_true rfl, Nat.le_of_ble_eq_true rfl⟩ hE trivial hK hP (ci := 4) (q0 := 0) rfl rfl hl.1 rfl (Nat.le_of_ble_eq_true rfl) dX4_judge_11 ⟨Nat.zero_le _, Nat.zero_le _⟩ ?_
    refine mu_V (n := 1) (As := [.int (lkm (lackN X s_))]) (rest := []) ⟨hx, hb, hml, hown, hts⟩ (c_X4_finding l D ci am X kr q0 q1 q2 q3 q4 q5 iw kn y0 y1 y2 y3 y4 y5 y6 hI (lkm (lackN X s_)) (lackN X s_) (by omega) (lkm_f lq24)) gX4_judge_X4_finding rfl ⟨rfl, rfl⟩ (by decide +kernel) rfl ⟨Nat.le_of_ble_eq_true rfl, Nat.le_of_ble_eq_true rfl⟩ hE trivial hK hP (ci := 4) (q0 := 0) rfl rfl hl.1 rfl (Nat.le_of_ble_eq_true rfl) dX4_judge_14 ⟨Nat.zero_le _, Nat.zero_le _⟩ hS (fun _ h => h) (fun H1 locs hz hfr hB hS => ?_)
    have hP := hB
    have hP : va_P D vwCl (wN ci am (toF X (inc X.2.2.2.1 (lackN X s_))) kr q0 q1 q2 q3 q4 q5 iw kn y0 y1 y2 y3 y4 y5 y6) H1 := hP
    generalize H1 = H at hP hS ⊢
    have hD : va_D (aM am) (wN ci am (toF X (inc X.2.2.2.1 (lackN X s_))) kr q0 q1 q2 q3 q4 q5 iw kn y0 y1 y2 y3 y4 y5 y6) := wN_D hI
    have hp : p_judge X s_ = (fnd (lackN X s_), toF X (inc X.2.2.2.1 (lackN X s_))) := by first | (simp [p_judge, fl_eq, c1, lq24]; done)
    refine nv_cv (show fnd (lackN X s_) = (p_judge X s_).1 from by rw [hp]) ?_
    exact mu_iret hx hb hr hlocks hS ((by rw [hp]; exact ⟨_, _, _, _, _, _, _, _, _, _, _, _, _, _, _, hkr, hP⟩)) dX4_judge_17

set_option maxHeartbeats 4000000 in
set_option maxRecDepth 100000 in
/-- X4_above -/
theorem c_X4_above (l : Launch) (D : va_G) (ci : Nat → ClassId) (wc : va_W) (k : Nat) (h_k : k < 7) : Met l yX4_above wsX4_above ({ frames := 0, cells := 0, slots := 0, locals := 0 } : Room) (va_Pc [.int (nI k)] (ro_B D (tyL ci) wc (enT))) (ro_Q (some (.int (nI (abv (k + 1)) - nI (1))))) 0 0 (fun _ => False) := by
  refine ro_Met (cc := cX4_above) (maxL := 1) (ret := (some .int)) [(0, .int (nI k))] (by decide) rfl (Nat.le_of_ble_eq_true rfl) rfl ?_
  intro p e s m below meth c hx hb hml hr hlocks hts hown hP hK hs ls hl
  have hown : s.vm.findClass RX4 = some m.cls := hown
  have hE := hE_T
  refine lv_iload_n hx hb dX4_above_0 rfl (lv_at hl 0 rfl) ?_
  refine nv_ifne (tgt := 8) hx hb (by omega) dX4_above_1 (by decide) (fun c1 => ?_) (fun c1 => ?_)
  · refine lv_iload_n hx hb dX4_above_8 rfl (lv_at hl 0 rfl) ?_
    refine lv_iconst (v := nI (3)) hx hb dX4_above_9 (by decide) ?_
    refine nv_icmp_ne (tgt := 17) hx hb (by omega) (by omega) dX4_above_10 (by decide) (fun c2 => ?_) (fun c2 => ?_)
    · refine lv_iload_n hx hb dX4_above_17 rfl (lv_at hl 0 rfl) ?_
      refine lv_iconst (v := nI (4)) hx hb dX4_above_18 (by decide) ?_
      refine nv_icmp_ne (tgt := 26) hx hb (by omega) (by omega) dX4_above_19 (by decide) (fun c3 => ?_) (fun c3 => ?_)
      · refine lv_iload_n hx hb dX4_above_26 rfl (lv_at hl 0 rfl) ?_
        refine lv_bipush (v := nI (6)) hx hb dX4_above_27 (by decide) ?_
        refine nv_icmp_ne (tgt := 36) hx hb (by omega) (by omega) dX4_above_29 (by decide) (fun c4 => ?_) (fun c4 => ?_)
        · refine lv_iconst (v := nI (0)) hx hb dX4_above_36 (by decide) ?_
          refine nv_cv (show nI (0) = nI (abv (k + 1)) - nI (1) from by first | (subst c4; decide) | (rcases (show k = 1 ∨ k = 2 ∨ k = 5 by omega) with rfl | rfl | rfl <;> decide)) ?_
          exact ro_iret hx hb hr hlocks dX4_above_37
        · refine lv_iconst (v := nI (1)) hx hb dX4_above_32 (by decide) ?_
          refine lv_goto (tgt := 37) hx hb dX4_above_33 (by decide) ?_
          refine nv_cv (show nI (1) = nI (abv (k + 1)) - nI (1) from by first | (subst c4; decide) | (rcases (show k = 1 ∨ k = 2 ∨ k = 5 by omega) with rfl | rfl | rfl <;> decide)) ?_
          exact ro_iret hx hb hr hlocks dX4_above_37
      · refine lv_iconst (v := nI (3)) hx hb dX4_above_22 (by decide) ?_
        refine lv_goto (tgt := 37) hx hb dX4_above_23 (by decide) ?_
        refine nv_cv (show nI (3) = nI (abv (k + 1)) - nI (1) from by first | (subst c3; decide) | (rcases (show k = 1 ∨ k = 2 ∨ k = 5 by omega) with rfl | rfl | rfl <;> decide)) ?_
        exact ro_iret hx hb hr hlocks dX4_above_37
    · refine lv_iconst (v := nI (2)) hx hb dX4_above_13 (by decide) ?_
      refine lv_goto (tgt := 37) hx hb dX4_above_14 (by decide) ?_
      refine nv_cv (show nI (2) = nI (abv (k + 1)) - nI (1) from by first | (subst c2; decide) | (rcases (show k = 1 ∨ k = 2 ∨ k = 5 by omega) with rfl | rfl | rfl <;> decide)) ?_
      exact ro_iret hx hb hr hlocks dX4_above_37
  · refine lv_iconst (v := -1) hx hb dX4_above_4 (by decide) ?_
    refine lv_goto (tgt := 37) hx hb dX4_above_5 (by decide) ?_
    refine nv_cv (show -1 = nI (abv (k + 1)) - nI (1) from by first | (subst c1; decide) | (rcases (show k = 1 ∨ k = 2 ∨ k = 5 by omega) with rfl | rfl | rfl <;> decide)) ?_
    exact ro_iret hx hb hr hlocks dX4_above_37

set_option maxHeartbeats 4000000 in
set_option maxRecDepth 100000 in
/-- X4_isUnder -/
theorem c_X4_isUnder (l : Launch) (D : va_G) (ci : Nat → ClassId) (wc : va_W) (k o : Nat) (h_k : k < 7) (h_o : o < 7) : Met l yX4_isUnder wsX4_isUnder ({ frames := 1, cells := 0, slots := 0, locals := 20 } : Room) (va_Pc [.int (nI k), .int (nI o)] (ro_B D (tyL ci) wc (enT))) (ro_Q (some (.int (bI (isK k o))))) 0 0 (fun _ => False) := by
  refine ro_Met (cc := cX4_isUnder) (maxL := 3) (ret := (some .boolean)) [(0, .int (nI k)), (1, .int (nI o))] (by decide) rfl (Nat.le_of_ble_eq_true rfl) rfl ?_
  intro p e s m below meth c hx hb hml hr hlocks hts hown hP hK hs ls hl
  have hown : s.vm.findClass RX4 = some m.cls := hown
  have hE := hE_T
  refine lv_iload_n hx hb dX4_isUnder_0 rfl (lv_at hl 0 rfl) ?_
  refine lv_istore_n (lv' := [(2, .int (nI k)), (0, .int (nI k)), (1, .int (nI o))]) hx hb dX4_isUnder_1 rfl hl (by decide) rfl (fun ls hl => ?_)
  have L2 : ∀ (k2 : Nat) (f : Nat) (kk : Nat), f < k2 → (dep kk ≤ f) → (und f kk o = isK k o) → (kk ≤ 7) → ∀ (x2 : Int32), x2 = nI (kk) - nI (1) → ∀ ls : Array Slot, lv_has ls 3 [(2, .int (x2)), (0, .int (nI k)), (1, .int (nI o))] → W p l e (headSpec wsX4_isUnder ({ frames := 1, cells := 0, slots := 0, locals := 20 } : Room)).room s m ([.int (nI k), .int (nI o)] : List Value).toArray below meth c s.heap [] 0 0 (MQ below (ro_Q (some (.int (bI (isK k o))))) ([.int (nI k), .int (nI o)] : List Value).toArray s 0 0 (fun _ => False)) (F0 m 2 ls []) := by
    intro k2
    induction k2 with
    | zero => intro f kk h0; exact absurd h0 (Nat.not_lt_zero _)
    | succ k2 ih2 =>
      intro f kk hk2 h_f h_q h_kk x2 e2 ls hl
      subst e2
      refine lv_iload_n hx hb dX4_isUnder_2 rfl (lv_at hl 0 rfl) ?_
      refine nv_iflt_D (tgt := 19) hx hb (by omega) dX4_isUnder_3 (by decide) (fun c1 => ?_) (fun c1 => ?_)
      · refine lv_iload_n hx hb dX4_isUnder_19 rfl (lv_at hl 0 rfl) ?_
        refine nv_iflt_D (tgt := 27) hx hb (by omega) dX4_isUnder_20 (by decide) (fun c2 => ?_) (fun c2 => ?_)
        · refine lv_iconst (v := nI (0)) hx hb dX4_isUnder_27 (by decide) ?_
          refine nv_cv (show nI (0) = bI (isK k o) from nv_f (by first | (exfalso; omega) | (rw [← h_q, c1]; exact und_zero f o) | (subst c2; rw [← h_q, e_k1]; exact und_h f_f))) ?_
          exact ro_zret hx hb hr hlocks dX4_isUnder_28
        · refine lv_iconst (v := nI (1)) hx hb dX4_isUnder_23 (by decide) ?_
          refine lv_goto (tgt := 28) hx hb dX4_isUnder_24 (by decide) ?_
          refine nv_cv (show nI (1) = bI (isK k o) from nv_t (by first | (exfalso; omega) | (rw [← h_q, c1]; exact und_zero f o) | (subst c2; rw [← h_q, e_k1]; exact und_h f_f))) ?_
          exact ro_zret hx hb hr hlocks dX4_isUnder_28
      · obtain ⟨k1, e_k1⟩ : ∃ k1, kk = k1 + 1 := ⟨kk - 1, by omega⟩
        rw [show nI (kk) - nI 1 = nI k1 by rw [e_k1]; exact nI_pred k1] at hl
        have f_d := dep_abv k1 (by omega)
        have f_h2 : dep (k1 + 1) ≤ f := e_k1 ▸ h_f
        have f_f : 0 < f := by omega
        refine lv_iload_n hx hb dX4_isUnder_6 rfl (lv_at hl 0 rfl) ?_
        refine lv_iload_n hx hb dX4_isUnder_7 rfl (lv_at hl 2 rfl) ?_
        refine nv_icmp_eq (tgt := 19) hx hb (by omega) (by omega) dX4_isUnder_8 (by decide) (fun c3 => ?_) (fun c3 => ?_)
        · refine lv_iload_n hx hb dX4_isUnder_19 rfl (lv_at hl 0 rfl) ?_
          refine nv_iflt (tgt := 27) hx hb (by omega) dX4_isUnder_20 (by decide) ?_
          refine lv_iconst (v := nI (1)) hx hb dX4_isUnder_23 (by decide) ?_
          refine lv_goto (tgt := 28) hx hb dX4_isUnder_24 (by decide) ?_
          refine nv_cv (show nI (1) = bI (isK k o) from nv_t (by first | (exfalso; omega) | (rw [← h_q, c1]; exact und_zero f o) | (subst c3; rw [← h_q, e_k1]; exact und_h f_f))) ?_
          exact ro_zret hx hb hr hlocks dX4_isUnder_28
        · refine lv_iload_n hx hb dX4_isUnder_11 rfl (lv_at hl 0 rfl) ?_
          refine ro_S (n := 1) (As := [.int (nI k1)]) (rest := []) ⟨hx, hb, hml, hown, hts⟩ (c_X4_above l D ci wc (k1) (by omega)) gX4_isUnder_X4_above rfl ⟨rfl, rfl⟩ (by decide +kernel) rfl ⟨Nat.le_of_ble_eq_true rfl, Nat.le_of_ble_eq_true rfl⟩ hE hs hK hP hl.1 rfl (Nat.le_of_ble_eq_true rfl) dX4_isUnder_12 ⟨Nat.zero_le _, Nat.zero_le _⟩ ?_
          refine lv_istore_n (lv' := [(2, .int (nI (abv (k1 + 1)) - nI (1))), (0, .int (nI k)), (1, .int (nI o))]) hx hb dX4_isUnder_15 rfl hl (by decide) rfl (fun ls hl => ?_)
          refine lv_goto (tgt := 2) hx hb dX4_isUnder_16 (by decide) ?_
          exact ih2 (f - 1) (abv (k1 + 1)) (by omega) (by omega) (by rw [← h_q, e_k1]; exact (und_s c3 f_f).symm) (abv_le _) (nI (abv (k1 + 1)) - nI (1)) rfl ls (lv_sub hl [0, 1, 2] rfl)
  exact L2 _ (7) (k + 1) (Nat.lt_succ_self _) (dep_le k h_k) rfl (by omega) (nI (k)) (nI_pred k).symm ls (lv_sub hl [0, 1, 2] rfl)

set_option maxHeartbeats 4000000 in
set_option maxRecDepth 100000 in
/-- X4_cutTo -/
theorem c_X4_cutTo (l : Launch) (D : va_G) (ci : Nat → ClassId) (wc : va_W) (v : Int32) (b0 : Nat) (h_b : b0 < 64) : Met l yX4_cutTo wsX4_cutTo ({ frames := 0, cells := 0, slots := 0, locals := 0 } : Room) (va_Pc [.int (v), .int (nI b0)] (ro_B D (tyL ci) wc (enT))) (ro_Q (some (.int (cutN b0 v)))) 0 0 (fun _ => False) := by
  refine ro_Met (cc := cX4_cutTo) (maxL := 2) (ret := (some .int)) [(0, .int (v)), (1, .int (nI b0))] (by decide) rfl (Nat.le_of_ble_eq_true rfl) rfl ?_
  intro p e s m below meth c hx hb hml hr hlocks hts hown hP hK hs ls hl
  have hown : s.vm.findClass RX4 = some m.cls := hown
  have hE := hE_T
  refine lv_iload_n hx hb dX4_cutTo_0 rfl (lv_at hl 1 rfl) ?_
  refine lv_bipush (v := nI (8)) hx hb dX4_cutTo_1 (by decide) ?_
  refine nv_icmp_ne (tgt := 11) hx hb (by omega) (by omega) dX4_cutTo_3 (by decide) (fun c1 => ?_) (fun c1 => ?_)
  · refine lv_iload_n hx hb dX4_cutTo_11 rfl (lv_at hl 1 rfl) ?_
    refine lv_bipush (v := nI (16)) hx hb dX4_cutTo_12 (by decide) ?_
    refine nv_icmp_ne (tgt := 22) hx hb (by omega) (by omega) dX4_cutTo_14 (by decide) (fun c2 => ?_) (fun c2 => ?_)
    · refine lv_iload_n hx hb dX4_cutTo_22 rfl (lv_at hl 0 rfl) ?_
      refine nv_cv (show v = cutN b0 v from by first | exact cut8 c2 | exact cut16 c1 c2 | exact cut32 c1 c2) ?_
      exact ro_iret hx hb hr hlocks dX4_cutTo_23
    · refine lv_iload_n hx hb dX4_cutTo_17 rfl (lv_at hl 0 rfl) ?_
      refine lv_i2s hx hb dX4_cutTo_18 rfl ?_
      refine lv_goto (tgt := 23) hx hb dX4_cutTo_19 (by decide) ?_
      refine nv_cv (show (v).toInt16.toInt32 = cutN b0 v from by first | exact cut8 c2 | exact cut16 c1 c2 | exact cut32 c1 c2) ?_
      exact ro_iret hx hb hr hlocks dX4_cutTo_23
  · refine lv_iload_n hx hb dX4_cutTo_6 rfl (lv_at hl 0 rfl) ?_
    refine lv_i2b hx hb dX4_cutTo_7 rfl ?_
    refine lv_goto (tgt := 23) hx hb dX4_cutTo_8 (by decide) ?_
    refine nv_cv (show (v).toInt8.toInt32 = cutN b0 v from by first | exact cut8 c1 | exact cut16 rfl c1 | exact cut32 rfl c1) ?_
    exact ro_iret hx hb hr hlocks dX4_cutTo_23

set_option maxHeartbeats 4000000 in
set_option maxRecDepth 100000 in
/-- X4_hold -/
theorem c_X4_hold (l : Launch) (D : va_G) (ci : Nat → ClassId) (am : Nat → Nat) (X : AS) (kr : Nat → Int32) (q0 q1 q2 q3 q4 q5 : Int32) (iw : Bool) (kn : Nat → Option Nat) (y0 y1 y2 y3 y4 y5 y6 : Nat → Int32) (hI : injA am 16) (sv q : Int32) (hWX : WFX X) (hkr : kOK X kr) : Met l yX4_hold wsX4_hold ({ frames := 2, cells := 0, slots := 0, locals := 43 } : Room) (va_Pc [.ref (am 0), .int (sv), .int (q)] (ro_B D (tyL ci) (wN ci am X kr q0 q1 q2 q3 q4 q5 iw kn y0 y1 y2 y3 y4 y5 y6) (enT))) (mu_Q (aM am) (some (.int ((p_hold X sv q).1))) (fun H => ∃ (kr : Nat → Int32) (q0 : Int32) (q1 : Int32) (q2 : Int32) (q3 : Int32) (q4 : Int32) (q5 : Int32) (iw : Bool) (y0 : Nat → Int32) (y1 : Nat → Int32) (y2 : Nat → Int32) (y3 : Nat → Int32) (y4 : Nat → Int32) (y5 : Nat → Int32) (y6 : Nat → Int32), kOK (p_hold X sv q).2 kr ∧ va_P D vwCl (wN ci am ((p_hold X sv q).2) kr q0 q1 q2 q3 q4 q5 iw kn y0 y1 y2 y3 y4 y5 y6) H)) 0 0 (aM am) := by
  refine mu_Met (cc := cX4_hold) (maxL := 3) (ret := (some .int)) [(0, .ref (am 0)), (1, .int (sv)), (2, .int (q))] (wN_D hI) (by decide) rfl (Nat.le_of_ble_eq_true rfl) rfl ?_
  intro p e s m below meth c H locs hx hb hml hr hlocks hts hown hP hK hs0 hD hS ls hl
  have hown : s.vm.findClass RX4 = some m.cls := hown
  have hinX4 : ∀ w ∈ wsX40, w ∈ wsX4_hold := by decide +kernel
  have hE := hE_T
  have hWF := hWX.w
  have f_n := hWF.n
  have f_e := hWX.e
  have f_tl := hWX.t
  refine lv_iload_n hx hb dX4_hold_0 rfl (lv_at hl 1 rfl) ?_
  refine ro_S (n := 1) (As := [.int (sv)]) (rest := []) ⟨hx, hb, hml, hown, hts⟩ (c_X4_isSpot l D ci (wN ci am X kr q0 q1 q2 q3 q4 q5 iw kn y0 y1 y2 y3 y4 y5 y6) (sv) ) gX4_hold_X4_isSpot rfl ⟨rfl, rfl⟩ (by decide +kernel) rfl ⟨Nat.le_of_ble_eq_true rfl, Nat.le_of_ble_eq_true rfl⟩ hE trivial hK hP hl.1 rfl (Nat.le_of_ble_eq_true rfl) dX4_hold_1 ⟨Nat.zero_le _, Nat.zero_le _⟩ ?_
  refine nv_ifeq_b (tgt := 20) hx hb dX4_hold_4 (by decide) (fun c1 => ?_) (fun c1 => ?_)
  · refine lv_aload_n hx hb dX4_hold_20 rfl (lv_at hl 0 rfl) ?_
    refine lv_ldc (v := -1000001) hx hb hown (hts (.constant RX4 72 (-1000001)) (List.mem_of_getElem? (i := 1) rfl)) dX4_hold_21 ?_
    refine mu_V (n := 1) (As := [.int (-1000001)]) (rest := []) ⟨hx, hb, hml, hown, hts⟩ (c_X4_finding l D ci am X kr q0 q1 q2 q3 q4 q5 iw kn y0 y1 y2 y3 y4 y5 y6 hI (-1000001) (0) (by omega) (by decide)) gX4_hold_X4_finding rfl ⟨rfl, rfl⟩ (by decide +kernel) rfl ⟨Nat.le_of_ble_eq_true rfl, Nat.le_of_ble_eq_true rfl⟩ hE trivial hK hP (ci := 4) (q0 := 0) rfl rfl hl.1 rfl (Nat.le_of_ble_eq_true rfl) dX4_hold_23 ⟨Nat.zero_le _, Nat.zero_le _⟩ hS (fun _ h => h) (fun H1 locs hz hfr hB hS => ?_)
    have hP := hB
    have hP : va_P D vwCl (wN ci am (toF X (inc X.2.2.2.1 0)) kr q0 q1 q2 q3 q4 q5 iw kn y0 y1 y2 y3 y4 y5 y6) H1 := hP
    generalize H1 = H at hP hS ⊢
    have hD : va_D (aM am) (wN ci am (toF X (inc X.2.2.2.1 0)) kr q0 q1 q2 q3 q4 q5 iw kn y0 y1 y2 y3 y4 y5 y6) := wN_D hI
    have hp : p_hold X sv q = (fnd 0, toF X (inc X.2.2.2.1 0)) := by first | (simp [p_hold, inP, bk, fl_eq, c1]; done) | (simp [p_hold, inP, bk, fl_eq, nI_m1 (show qn < 2147483648 by omega), c1]; done)
    refine nv_cv (show fnd 0 = (p_hold X sv q).1 from by rw [hp]) ?_
    exact mu_iret hx hb hr hlocks hS ((by rw [hp]; exact ⟨_, _, _, _, _, _, _, _, _, _, _, _, _, _, _, hkr, hP⟩)) dX4_hold_26
  · obtain ⟨svn, h_svn, rfl⟩ := in_ex c1 (by omega)
    have t_svn : tn (nI svn) = svn := tn_nI (by omega)
    refine lv_iload_n hx hb dX4_hold_7 rfl (lv_at hl 2 rfl) ?_
    refine lv_iconst (v := -1) hx hb dX4_hold_8 (by decide) ?_
    refine lv_icmp_eq (tgt := 27) hx hb dX4_hold_9 (by decide) (fun c2 => ?_) (fun c2 => ?_)
    · obtain rfl : q = -1 := c2
      refine lv_aload_n hx hb dX4_hold_27 rfl (lv_at hl 0 rfl) ?_
      refine va_get (D := D) (ci := 4) (v := .ref (am 1)) (C := RX4) (T := TX4) (N := 24) hx hb hts hinX4 hown hK hP 0 rfl rfl 0 (by decide) (hts (.fieldLink RX4 9 "OneShortModel" "now" "[I") (List.mem_of_getElem? (i := 2) rfl)) (fun _ h9 => h9) rfl dX4_hold_28 ?_
      refine lv_bipush (v := nI (15)) hx hb dX4_hold_31 (by decide) ?_
      refine lv_iload_n hx hb dX4_hold_33 rfl (lv_at hl 1 rfl) ?_
      refine nv_iadd hx hb dX4_hold_34 ?_
      refine lv_iload_n hx hb dX4_hold_35 rfl (lv_at hl 2 rfl) ?_
      refine nv_cv (show -1 = nI (0) - nI (1) from by first | rfl | decide) ?_
      refine nv_iast hx hb hK hP hD hS 1 0 rfl rfl (by omega) (by decide) dX4_hold_36 (fun H locs hP hD hS => ?_)
      have hP : va_P D vwCl (wN ci am (toS X (st X.1 6 svn 0)) kr q0 q1 q2 q3 q4 q5 iw kn y0 y1 y2 y3 y4 y5 y6) H := va_P.re (wN_now ci am X kr q0 q1 q2 q3 q4 q5 iw kn y0 y1 y2 y3 y4 y5 y6 ((15 + svn)) (nI (0) - nI (1)) (pku_sp X.1 (by omega))) hP
      have hD : va_D (aM am) (wN ci am (toS X (st X.1 6 svn 0)) kr q0 q1 q2 q3 q4 q5 iw kn y0 y1 y2 y3 y4 y5 y6) := wN_D hI
      refine lv_iconst (v := nI (1)) hx hb dX4_hold_37 (by decide) ?_
      have hp : p_hold X (nI svn) (-1) = (nI (1), toS X (st X.1 6 svn 0)) := by first | (simp [p_hold, inP, bk, fl_eq, c1, Nat.lt_irrefl, t_svn]; done) | (simp [p_hold, inP, bk, fl_eq, nI_m1 (show qn < 2147483648 by omega), c1, Nat.lt_irrefl, t_svn]; done)
      refine nv_cv (show nI (1) = (p_hold X (nI svn) (-1)).1 from by rw [hp]) ?_
      exact mu_iret hx hb hr hlocks hS ((by rw [hp]; exact ⟨_, _, _, _, _, _, _, _, _, _, _, _, _, _, _, hkr, hP⟩)) dX4_hold_38
    · refine lv_aload_n hx hb dX4_hold_12 rfl (lv_at hl 0 rfl) ?_
      refine lv_iload_n hx hb dX4_hold_13 rfl (lv_at hl 2 rfl) ?_
      refine ro_V (n := 1) (As := [.int (q)]) (rest := []) ⟨hx, hb, hml, hown, hts⟩ (c_X4_isPlayer l D ci am X kr q0 q1 q2 q3 q4 q5 iw kn y0 y1 y2 y3 y4 y5 y6 (q) hWF) gX4_hold_X4_isPlayer rfl ⟨rfl, rfl⟩ (by decide +kernel) rfl ⟨Nat.le_of_ble_eq_true rfl, Nat.le_of_ble_eq_true rfl⟩ hE trivial hK hP (ci := 4) (q0 := 0) rfl rfl hl.1 rfl (Nat.le_of_ble_eq_true rfl) dX4_hold_14 ⟨Nat.zero_le _, Nat.zero_le _⟩ ?_
      refine nv_ifne_b (tgt := 27) hx hb dX4_hold_17 (by decide) (fun c3 => ?_) (fun c3 => ?_)
      · obtain ⟨qn, h_qn, rfl⟩ := in_ex c3 (by omega)
        have t_qn : tn (nI qn) = qn := tn_nI (by omega)
        refine lv_aload_n hx hb dX4_hold_27 rfl (lv_at hl 0 rfl) ?_
        refine va_get (D := D) (ci := 4) (v := .ref (am 1)) (C := RX4) (T := TX4) (N := 24) hx hb hts hinX4 hown hK hP 0 rfl rfl 0 (by decide) (hts (.fieldLink RX4 9 "OneShortModel" "now" "[I") (List.mem_of_getElem? (i := 2) rfl)) (fun _ h9 => h9) rfl dX4_hold_28 ?_
        refine lv_bipush (v := nI (15)) hx hb dX4_hold_31 (by decide) ?_
        refine lv_iload_n hx hb dX4_hold_33 rfl (lv_at hl 1 rfl) ?_
        refine nv_iadd hx hb dX4_hold_34 ?_
        refine lv_iload_n hx hb dX4_hold_35 rfl (lv_at hl 2 rfl) ?_
        refine nv_cv (show nI (qn) = nI (qn + 1) - nI (1) from (nI_pred _).symm) ?_
        refine nv_iast hx hb hK hP hD hS 1 0 rfl rfl (by omega) (by decide) dX4_hold_36 (fun H locs hP hD hS => ?_)
        have hP : va_P D vwCl (wN ci am (toS X (st X.1 6 svn (qn + 1))) kr q0 q1 q2 q3 q4 q5 iw kn y0 y1 y2 y3 y4 y5 y6) H := va_P.re (wN_now ci am X kr q0 q1 q2 q3 q4 q5 iw kn y0 y1 y2 y3 y4 y5 y6 ((15 + svn)) (nI (qn + 1) - nI (1)) (pku_sp X.1 (by omega))) hP
        have hD : va_D (aM am) (wN ci am (toS X (st X.1 6 svn (qn + 1))) kr q0 q1 q2 q3 q4 q5 iw kn y0 y1 y2 y3 y4 y5 y6) := wN_D hI
        refine lv_iconst (v := nI (1)) hx hb dX4_hold_37 (by decide) ?_
        have hp : p_hold X (nI svn) (nI qn) = (nI (1), toS X (st X.1 6 svn (qn + 1))) := by first | (simp [p_hold, inP, bk, fl_eq, c1, c2, c3, t_svn, t_qn]; done) | (simp [p_hold, inP, bk, fl_eq, nI_m1 (show qn < 2147483648 by omega), c1, c2, c3, t_svn, t_qn]; done)
        refine nv_cv (show nI (1) = (p_hold X (nI svn) (nI qn)).1 from by rw [hp]) ?_
        exact mu_iret hx hb hr hlocks hS ((by rw [hp]; exact ⟨_, _, _, _, _, _, _, _, _, _, _, _, _, _, _, hkr, hP⟩)) dX4_hold_38
      · refine lv_aload_n hx hb dX4_hold_20 rfl (lv_at hl 0 rfl) ?_
        refine lv_ldc (v := -1000001) hx hb hown (hts (.constant RX4 72 (-1000001)) (List.mem_of_getElem? (i := 1) rfl)) dX4_hold_21 ?_
        refine mu_V (n := 1) (As := [.int (-1000001)]) (rest := []) ⟨hx, hb, hml, hown, hts⟩ (c_X4_finding l D ci am X kr q0 q1 q2 q3 q4 q5 iw kn y0 y1 y2 y3 y4 y5 y6 hI (-1000001) (0) (by omega) (by decide)) gX4_hold_X4_finding rfl ⟨rfl, rfl⟩ (by decide +kernel) rfl ⟨Nat.le_of_ble_eq_true rfl, Nat.le_of_ble_eq_true rfl⟩ hE trivial hK hP (ci := 4) (q0 := 0) rfl rfl hl.1 rfl (Nat.le_of_ble_eq_true rfl) dX4_hold_23 ⟨Nat.zero_le _, Nat.zero_le _⟩ hS (fun _ h => h) (fun H1 locs hz hfr hB hS => ?_)
        have hP := hB
        have hP : va_P D vwCl (wN ci am (toF X (inc X.2.2.2.1 0)) kr q0 q1 q2 q3 q4 q5 iw kn y0 y1 y2 y3 y4 y5 y6) H1 := hP
        generalize H1 = H at hP hS ⊢
        have hD : va_D (aM am) (wN ci am (toF X (inc X.2.2.2.1 0)) kr q0 q1 q2 q3 q4 q5 iw kn y0 y1 y2 y3 y4 y5 y6) := wN_D hI
        have hp : p_hold X (nI svn) q = (fnd 0, toF X (inc X.2.2.2.1 0)) := by first | (simp [p_hold, inP, bk, fl_eq, c1, c2, c3, t_svn]; done) | (simp [p_hold, inP, bk, fl_eq, nI_m1 (show qn < 2147483648 by omega), c1, c2, c3, t_svn]; done)
        refine nv_cv (show fnd 0 = (p_hold X (nI svn) q).1 from by rw [hp]) ?_
        exact mu_iret hx hb hr hlocks hS ((by rw [hp]; exact ⟨_, _, _, _, _, _, _, _, _, _, _, _, _, _, _, hkr, hP⟩)) dX4_hold_26

set_option maxHeartbeats 4000000 in
set_option maxRecDepth 100000 in
/-- X4_as -/
theorem c_X4_as (l : Launch) (D : va_G) (ci : Nat → ClassId) (am : Nat → Nat) (X : AS) (kr : Nat → Int32) (q0 q1 q2 q3 q4 q5 : Int32) (iw : Bool) (kn : Nat → Option Nat) (y0 y1 y2 y3 y4 y5 y6 : Nat → Int32) (hI : injA am 16) (sv kd : Int32) (hWX : WFX X) (hkr : kOK X kr) : Met l yX4_as wsX4_as ({ frames := 2, cells := 0, slots := 0, locals := 43 } : Room) (va_Pc [.ref (am 0), .int (sv), .int (kd)] (ro_B D (tyL ci) (wN ci am X kr q0 q1 q2 q3 q4 q5 iw kn y0 y1 y2 y3 y4 y5 y6) (enT))) (mu_Q (aM am) (some (.int ((p_as X sv kd).1))) (fun H => ∃ (kr : Nat → Int32) (q0 : Int32) (q1 : Int32) (q2 : Int32) (q3 : Int32) (q4 : Int32) (q5 : Int32) (iw : Bool) (y0 : Nat → Int32) (y1 : Nat → Int32) (y2 : Nat → Int32) (y3 : Nat → Int32) (y4 : Nat → Int32) (y5 : Nat → Int32) (y6 : Nat → Int32), kOK (p_as X sv kd).2 kr ∧ va_P D vwCl (wN ci am ((p_as X sv kd).2) kr q0 q1 q2 q3 q4 q5 iw kn y0 y1 y2 y3 y4 y5 y6) H)) 0 0 (aM am) := by
  refine mu_Met (cc := cX4_as) (maxL := 4) (ret := (some .int)) [(0, .ref (am 0)), (1, .int (sv)), (2, .int (kd))] (wN_D hI) (by decide) rfl (Nat.le_of_ble_eq_true rfl) rfl ?_
  intro p e s m below meth c H locs hx hb hml hr hlocks hts hown hP hK hs0 hD hS ls hl
  have hown : s.vm.findClass RX4 = some m.cls := hown
  have hinX4 : ∀ w ∈ wsX40, w ∈ wsX4_as := by decide +kernel
  have hE := hE_T
  have hWF := hWX.w
  have f_n := hWF.n
  have f_e := hWX.e
  have f_tl := hWX.t
  refine lv_iload_n hx hb dX4_as_0 rfl (lv_at hl 1 rfl) ?_
  refine ro_S (n := 1) (As := [.int (sv)]) (rest := []) ⟨hx, hb, hml, hown, hts⟩ (c_X4_isSpot l D ci (wN ci am X kr q0 q1 q2 q3 q4 q5 iw kn y0 y1 y2 y3 y4 y5 y6) (sv) ) gX4_as_X4_isSpot rfl ⟨rfl, rfl⟩ (by decide +kernel) rfl ⟨Nat.le_of_ble_eq_true rfl, Nat.le_of_ble_eq_true rfl⟩ hE trivial hK hP hl.1 rfl (Nat.le_of_ble_eq_true rfl) dX4_as_1 ⟨Nat.zero_le _, Nat.zero_le _⟩ ?_
  refine nv_ifeq_b (tgt := 14) hx hb dX4_as_4 (by decide) (fun c1 => ?_) (fun c1 => ?_)
  · refine lv_aload_n hx hb dX4_as_14 rfl (lv_at hl 0 rfl) ?_
    refine lv_ldc (v := -1000001) hx hb hown (hts (.constant RX4 72 (-1000001)) (List.mem_of_getElem? (i := 1) rfl)) dX4_as_15 ?_
    refine mu_V (n := 1) (As := [.int (-1000001)]) (rest := []) ⟨hx, hb, hml, hown, hts⟩ (c_X4_finding l D ci am X kr q0 q1 q2 q3 q4 q5 iw kn y0 y1 y2 y3 y4 y5 y6 hI (-1000001) (0) (by omega) (by decide)) gX4_as_X4_finding rfl ⟨rfl, rfl⟩ (by decide +kernel) rfl ⟨Nat.le_of_ble_eq_true rfl, Nat.le_of_ble_eq_true rfl⟩ hE trivial hK hP (ci := 4) (q0 := 0) rfl rfl hl.1 rfl (Nat.le_of_ble_eq_true rfl) dX4_as_17 ⟨Nat.zero_le _, Nat.zero_le _⟩ hS (fun _ h => h) (fun H1 locs hz hfr hB hS => ?_)
    have hP := hB
    have hP : va_P D vwCl (wN ci am (toF X (inc X.2.2.2.1 0)) kr q0 q1 q2 q3 q4 q5 iw kn y0 y1 y2 y3 y4 y5 y6) H1 := hP
    generalize H1 = H at hP hS ⊢
    have hD : va_D (aM am) (wN ci am (toF X (inc X.2.2.2.1 0)) kr q0 q1 q2 q3 q4 q5 iw kn y0 y1 y2 y3 y4 y5 y6) := wN_D hI
    have hp : p_as X sv kd = (fnd 0, toF X (inc X.2.2.2.1 0)) := by first | (simp [p_as, bk, fl_eq, c1]; done) | ((simp [p_as, bk, fl_eq, c1] <;> omega); done)
    refine nv_cv (show fnd 0 = (p_as X sv kd).1 from by rw [hp]) ?_
    exact mu_iret hx hb hr hlocks hS ((by rw [hp]; exact ⟨_, _, _, _, _, _, _, _, _, _, _, _, _, _, _, hkr, hP⟩)) dX4_as_20
  · obtain ⟨svn, h_svn, rfl⟩ := in_ex c1 (by omega)
    have t_svn : tn (nI svn) = svn := tn_nI (by omega)
    refine lv_iload_n hx hb dX4_as_7 rfl (lv_at hl 2 rfl) ?_
    refine ro_S (n := 1) (As := [.int (kd)]) (rest := []) ⟨hx, hb, hml, hown, hts⟩ (c_X4_isKind l D ci (wN ci am X kr q0 q1 q2 q3 q4 q5 iw kn y0 y1 y2 y3 y4 y5 y6) (kd) ) gX4_as_X4_isKind rfl ⟨rfl, rfl⟩ (by decide +kernel) rfl ⟨Nat.le_of_ble_eq_true rfl, Nat.le_of_ble_eq_true rfl⟩ hE trivial hK hP hl.1 rfl (Nat.le_of_ble_eq_true rfl) dX4_as_8 ⟨Nat.zero_le _, Nat.zero_le _⟩ ?_
    refine nv_ifne_b (tgt := 21) hx hb dX4_as_11 (by decide) (fun c2 => ?_) (fun c2 => ?_)
    · obtain ⟨kdn, h_kdn, rfl⟩ := in_ex c2 (by omega)
      have t_kdn : tn (nI kdn) = kdn := tn_nI (by omega)
      refine lv_aload_n hx hb dX4_as_21 rfl (lv_at hl 0 rfl) ?_
      refine va_get (D := D) (ci := 4) (v := .ref (am 1)) (C := RX4) (T := TX4) (N := 24) hx hb hts hinX4 hown hK hP 0 rfl rfl 0 (by decide) (hts (.fieldLink RX4 9 "OneShortModel" "now" "[I") (List.mem_of_getElem? (i := 2) rfl)) (fun _ h9 => h9) rfl dX4_as_22 ?_
      refine lv_bipush (v := nI (15)) hx hb dX4_as_25 (by decide) ?_
      refine lv_iload_n hx hb dX4_as_27 rfl (lv_at hl 1 rfl) ?_
      refine nv_iadd hx hb dX4_as_28 ?_
      have f3 := hWF.f6 svn
      refine nv_iald (v := nI (X.1 6 svn) - nI (1)) hx hb hK hP 1 0 rfl rfl (by omega) (by decide) (pk_sp X.1 (by omega)) dX4_as_29 ?_
      refine lv_istore_n (lv' := [(3, .int (nI (X.1 6 svn) - nI (1))), (0, .ref (am 0)), (1, .int (nI svn)), (2, .int (nI kdn))]) hx hb dX4_as_30 rfl hl (by decide) rfl (fun ls hl => ?_)
      refine lv_iload_n hx hb dX4_as_31 rfl (lv_at hl 0 rfl) ?_
      refine nv_ifge_D (tgt := 42) hx hb (by omega) dX4_as_32 (by decide) (fun c4 => ?_) (fun c4 => ?_)
      · have e5 : nI (X.1 6 (svn)) - nI 1 = nI (X.1 6 (svn) - 1) := pk_sub c4
        rw [e5] at hl
        have f6 := hWF.f6 svn
        refine lv_aload_n hx hb dX4_as_42 rfl (lv_at hl 1 rfl) ?_
        refine lv_iload_n hx hb dX4_as_43 rfl (lv_at hl 0 rfl) ?_
        refine lv_iconst (v := nI (0)) hx hb dX4_as_44 (by decide) ?_
        refine ro_V (n := 2) (As := [.int (nI ((X.1 6 (svn) - 1))), .int (nI 0)]) (rest := []) ⟨hx, hb, hml, hown, hts⟩ (c_X4_playerIs l D ci am X kr q0 q1 q2 q3 q4 q5 iw kn y0 y1 y2 y3 y4 y5 y6 ((X.1 6 (svn) - 1)) (0) hWF (by omega) (by omega)) gX4_as_X4_playerIs rfl ⟨rfl, rfl⟩ (by decide +kernel) rfl ⟨Nat.le_of_ble_eq_true rfl, Nat.le_of_ble_eq_true rfl⟩ hE trivial hK hP (ci := 4) (q0 := 0) rfl rfl hl.1 rfl (Nat.le_of_ble_eq_true rfl) dX4_as_45 ⟨Nat.zero_le _, Nat.zero_le _⟩ ?_
        refine nv_cv (show nI (X.1 (0 + 1) (X.1 6 (svn) - 1)) = nI (X.1 1 (X.1 6 (svn) - 1)) from rfl) ?_
        have f7 := hWF.f1 (X.1 6 (svn) - 1)
        refine lv_iload_n hx hb dX4_as_48 rfl (lv_at hl 3 rfl) ?_
        refine ro_S (n := 2) (As := [.int (nI (X.1 1 (X.1 6 (svn) - 1))), .int (nI kdn)]) (rest := []) ⟨hx, hb, hml, hown, hts⟩ (c_X4_isUnder l D ci (wN ci am X kr q0 q1 q2 q3 q4 q5 iw kn y0 y1 y2 y3 y4 y5 y6) (X.1 1 (X.1 6 (svn) - 1)) (kdn) (by omega) (by omega)) gX4_as_X4_isUnder rfl ⟨rfl, rfl⟩ (by decide +kernel) rfl ⟨Nat.le_of_ble_eq_true rfl, Nat.le_of_ble_eq_true rfl⟩ hE trivial hK hP hl.1 rfl (Nat.le_of_ble_eq_true rfl) dX4_as_49 ⟨Nat.zero_le _, Nat.zero_le _⟩ ?_
        refine nv_ifeq_b (tgt := 59) hx hb dX4_as_52 (by decide) (fun c8 => ?_) (fun c8 => ?_)
        · refine lv_aload_n hx hb dX4_as_59 rfl (lv_at hl 1 rfl) ?_
          refine lv_ldcw (v := -1000003) hx hb hown (hts (.constant RX4 329 (-1000003)) (List.mem_of_getElem? (i := 4) rfl)) dX4_as_60 ?_
          refine mu_V (n := 1) (As := [.int (-1000003)]) (rest := []) ⟨hx, hb, hml, hown, hts⟩ (c_X4_finding l D ci am X kr q0 q1 q2 q3 q4 q5 iw kn y0 y1 y2 y3 y4 y5 y6 hI (-1000003) (2) (by omega) (by decide)) gX4_as_X4_finding rfl ⟨rfl, rfl⟩ (by decide +kernel) rfl ⟨Nat.le_of_ble_eq_true rfl, Nat.le_of_ble_eq_true rfl⟩ hE trivial hK hP (ci := 4) (q0 := 0) rfl rfl hl.1 rfl (Nat.le_of_ble_eq_true rfl) dX4_as_63 ⟨Nat.zero_le _, Nat.zero_le _⟩ hS (fun _ h => h) (fun H1 locs hz hfr hB hS => ?_)
          have hP := hB
          have hP : va_P D vwCl (wN ci am (toF X (inc X.2.2.2.1 2)) kr q0 q1 q2 q3 q4 q5 iw kn y0 y1 y2 y3 y4 y5 y6) H1 := hP
          generalize H1 = H at hP hS ⊢
          have hD : va_D (aM am) (wN ci am (toF X (inc X.2.2.2.1 2)) kr q0 q1 q2 q3 q4 q5 iw kn y0 y1 y2 y3 y4 y5 y6) := wN_D hI
          have hp : p_as X (nI svn) (nI kdn) = (fnd 2, toF X (inc X.2.2.2.1 2)) := by first | (simp [p_as, bk, fl_eq, c1, c2, c4, c8, t_svn, t_kdn]; done) | ((simp [p_as, bk, fl_eq, c1, c2, c4, c8, t_svn, t_kdn] <;> omega); done)
          refine nv_cv (show fnd 2 = (p_as X (nI svn) (nI kdn)).1 from by rw [hp]) ?_
          exact mu_iret hx hb hr hlocks hS ((by rw [hp]; exact ⟨_, _, _, _, _, _, _, _, _, _, _, _, _, _, _, hkr, hP⟩)) dX4_as_66
        · refine lv_iload_n hx hb dX4_as_55 rfl (lv_at hl 0 rfl) ?_
          refine lv_goto (tgt := 66) hx hb dX4_as_56 (by decide) ?_
          have hp : p_as X (nI svn) (nI kdn) = (nI ((X.1 6 (svn) - 1)), X) := by first | (simp [p_as, bk, fl_eq, c1, c2, c4, c8, t_svn, t_kdn]; done) | ((simp [p_as, bk, fl_eq, c1, c2, c4, c8, t_svn, t_kdn] <;> omega); done)
          refine nv_cv (show nI ((X.1 6 (svn) - 1)) = (p_as X (nI svn) (nI kdn)).1 from by rw [hp]) ?_
          exact mu_iret hx hb hr hlocks hS ((by rw [hp]; exact ⟨_, _, _, _, _, _, _, _, _, _, _, _, _, _, _, hkr, hP⟩)) dX4_as_66
      · refine lv_aload_n hx hb dX4_as_35 rfl (lv_at hl 1 rfl) ?_
        refine lv_ldc (v := -1000006) hx hb hown (hts (.constant RX4 232 (-1000006)) (List.mem_of_getElem? (i := 3) rfl)) dX4_as_36 ?_
        refine mu_V (n := 1) (As := [.int (-1000006)]) (rest := []) ⟨hx, hb, hml, hown, hts⟩ (c_X4_finding l D ci am X kr q0 q1 q2 q3 q4 q5 iw kn y0 y1 y2 y3 y4 y5 y6 hI (-1000006) (5) (by omega) (by decide)) gX4_as_X4_finding rfl ⟨rfl, rfl⟩ (by decide +kernel) rfl ⟨Nat.le_of_ble_eq_true rfl, Nat.le_of_ble_eq_true rfl⟩ hE trivial hK hP (ci := 4) (q0 := 0) rfl rfl hl.1 rfl (Nat.le_of_ble_eq_true rfl) dX4_as_38 ⟨Nat.zero_le _, Nat.zero_le _⟩ hS (fun _ h => h) (fun H1 locs hz hfr hB hS => ?_)
        have hP := hB
        have hP : va_P D vwCl (wN ci am (toF X (inc X.2.2.2.1 5)) kr q0 q1 q2 q3 q4 q5 iw kn y0 y1 y2 y3 y4 y5 y6) H1 := hP
        generalize H1 = H at hP hS ⊢
        have hD : va_D (aM am) (wN ci am (toF X (inc X.2.2.2.1 5)) kr q0 q1 q2 q3 q4 q5 iw kn y0 y1 y2 y3 y4 y5 y6) := wN_D hI
        have hp : p_as X (nI svn) (nI kdn) = (fnd 5, toF X (inc X.2.2.2.1 5)) := by first | (simp [p_as, bk, fl_eq, c1, c2, c4, t_svn, t_kdn]; done) | ((simp [p_as, bk, fl_eq, c1, c2, c4, t_svn, t_kdn] <;> omega); done)
        refine nv_cv (show fnd 5 = (p_as X (nI svn) (nI kdn)).1 from by rw [hp]) ?_
        exact mu_iret hx hb hr hlocks hS ((by rw [hp]; exact ⟨_, _, _, _, _, _, _, _, _, _, _, _, _, _, _, hkr, hP⟩)) dX4_as_41
    · refine lv_aload_n hx hb dX4_as_14 rfl (lv_at hl 0 rfl) ?_
      refine lv_ldc (v := -1000001) hx hb hown (hts (.constant RX4 72 (-1000001)) (List.mem_of_getElem? (i := 1) rfl)) dX4_as_15 ?_
      refine mu_V (n := 1) (As := [.int (-1000001)]) (rest := []) ⟨hx, hb, hml, hown, hts⟩ (c_X4_finding l D ci am X kr q0 q1 q2 q3 q4 q5 iw kn y0 y1 y2 y3 y4 y5 y6 hI (-1000001) (0) (by omega) (by decide)) gX4_as_X4_finding rfl ⟨rfl, rfl⟩ (by decide +kernel) rfl ⟨Nat.le_of_ble_eq_true rfl, Nat.le_of_ble_eq_true rfl⟩ hE trivial hK hP (ci := 4) (q0 := 0) rfl rfl hl.1 rfl (Nat.le_of_ble_eq_true rfl) dX4_as_17 ⟨Nat.zero_le _, Nat.zero_le _⟩ hS (fun _ h => h) (fun H1 locs hz hfr hB hS => ?_)
      have hP := hB
      have hP : va_P D vwCl (wN ci am (toF X (inc X.2.2.2.1 0)) kr q0 q1 q2 q3 q4 q5 iw kn y0 y1 y2 y3 y4 y5 y6) H1 := hP
      generalize H1 = H at hP hS ⊢
      have hD : va_D (aM am) (wN ci am (toF X (inc X.2.2.2.1 0)) kr q0 q1 q2 q3 q4 q5 iw kn y0 y1 y2 y3 y4 y5 y6) := wN_D hI
      have hp : p_as X (nI svn) kd = (fnd 0, toF X (inc X.2.2.2.1 0)) := by first | (simp [p_as, bk, fl_eq, c1, c2, t_svn]; done) | ((simp [p_as, bk, fl_eq, c1, c2, t_svn] <;> omega); done)
      refine nv_cv (show fnd 0 = (p_as X (nI svn) kd).1 from by rw [hp]) ?_
      exact mu_iret hx hb hr hlocks hS ((by rw [hp]; exact ⟨_, _, _, _, _, _, _, _, _, _, _, _, _, _, _, hkr, hP⟩)) dX4_as_20

set_option maxHeartbeats 4000000 in
set_option maxRecDepth 100000 in
/-- X4_sheet -/
theorem c_X4_sheet (l : Launch) (D : va_G) (ci : Nat → ClassId) (am : Nat → Nat) (X : AS) (kr : Nat → Int32) (q0 q1 q2 q3 q4 q5 : Int32) (iw : Bool) (kn : Nat → Option Nat) (y0 y1 y2 y3 y4 y5 y6 : Nat → Int32) (hI : injA am 16) (s_ bt nn : Int32) (hWX : WFX X) (hkr : kOK X kr) : Met l yX4_sheet wsX4_sheet ({ frames := 2, cells := 0, slots := 0, locals := 42 } : Room) (va_Pc [.ref (am 0), .int (s_), .int (bt), .int (nn)] (ro_B D (tyL ci) (wN ci am X kr q0 q1 q2 q3 q4 q5 iw kn y0 y1 y2 y3 y4 y5 y6) (enT))) (mu_Q (aM am) (some (.int ((p_sheet X s_ bt nn).1))) (fun H => ∃ (kr : Nat → Int32) (q0 : Int32) (q1 : Int32) (q2 : Int32) (q3 : Int32) (q4 : Int32) (q5 : Int32) (iw : Bool) (y0 : Nat → Int32) (y1 : Nat → Int32) (y2 : Nat → Int32) (y3 : Nat → Int32) (y4 : Nat → Int32) (y5 : Nat → Int32) (y6 : Nat → Int32), kOK (p_sheet X s_ bt nn).2 kr ∧ va_P D vwCl (wN ci am ((p_sheet X s_ bt nn).2) kr q0 q1 q2 q3 q4 q5 iw kn y0 y1 y2 y3 y4 y5 y6) H)) 0 0 (aM am) := by
  refine mu_Met (cc := cX4_sheet) (maxL := 5) (ret := (some .int)) [(0, .ref (am 0)), (1, .int (s_)), (2, .int (bt)), (3, .int (nn))] (wN_D hI) (by decide) rfl (Nat.le_of_ble_eq_true rfl) rfl ?_
  intro p e s m below meth c H locs hx hb hml hr hlocks hts hown hP hK hs0 hD hS ls hl
  have hown : s.vm.findClass RX4 = some m.cls := hown
  have hinX4 : ∀ w ∈ wsX40, w ∈ wsX4_sheet := by decide +kernel
  have hE := hE_T
  have hWF := hWX.w
  have f_n := hWF.n
  have f_e := hWX.e
  have f_tl := hWX.t
  refine lv_iload_n hx hb dX4_sheet_0 rfl (lv_at hl 1 rfl) ?_
  refine ro_S (n := 1) (As := [.int (s_)]) (rest := []) ⟨hx, hb, hml, hown, hts⟩ (c_X4_isSheet l D ci (wN ci am X kr q0 q1 q2 q3 q4 q5 iw kn y0 y1 y2 y3 y4 y5 y6) (s_) ) gX4_sheet_X4_isSheet rfl ⟨rfl, rfl⟩ (by decide +kernel) rfl ⟨Nat.le_of_ble_eq_true rfl, Nat.le_of_ble_eq_true rfl⟩ hE trivial hK hP hl.1 rfl (Nat.le_of_ble_eq_true rfl) dX4_sheet_1 ⟨Nat.zero_le _, Nat.zero_le _⟩ ?_
  refine nv_ifeq_b (tgt := 29) hx hb dX4_sheet_4 (by decide) (fun c1 => ?_) (fun c1 => ?_)
  · refine lv_aload_n hx hb dX4_sheet_29 rfl (lv_at hl 0 rfl) ?_
    refine lv_ldc (v := -1000001) hx hb hown (hts (.constant RX4 72 (-1000001)) (List.mem_of_getElem? (i := 1) rfl)) dX4_sheet_30 ?_
    refine mu_V (n := 1) (As := [.int (-1000001)]) (rest := []) ⟨hx, hb, hml, hown, hts⟩ (c_X4_finding l D ci am X kr q0 q1 q2 q3 q4 q5 iw kn y0 y1 y2 y3 y4 y5 y6 hI (-1000001) (0) (by omega) (by decide)) gX4_sheet_X4_finding rfl ⟨rfl, rfl⟩ (by decide +kernel) rfl ⟨Nat.le_of_ble_eq_true rfl, Nat.le_of_ble_eq_true rfl⟩ hE trivial hK hP (ci := 4) (q0 := 0) rfl rfl hl.1 rfl (Nat.le_of_ble_eq_true rfl) dX4_sheet_32 ⟨Nat.zero_le _, Nat.zero_le _⟩ hS (fun _ h => h) (fun H1 locs hz hfr hB hS => ?_)
    have hP := hB
    have hP : va_P D vwCl (wN ci am (toF X (inc X.2.2.2.1 0)) kr q0 q1 q2 q3 q4 q5 iw kn y0 y1 y2 y3 y4 y5 y6) H1 := hP
    generalize H1 = H at hP hS ⊢
    have hD : va_D (aM am) (wN ci am (toF X (inc X.2.2.2.1 0)) kr q0 q1 q2 q3 q4 q5 iw kn y0 y1 y2 y3 y4 y5 y6) := wN_D hI
    have hp : p_sheet X s_ bt nn = (fnd 0, toF X (inc X.2.2.2.1 0)) := by first | (simp [p_sheet, bk, fl_eq, updF_s, c1]; done)
    refine nv_cv (show fnd 0 = (p_sheet X s_ bt nn).1 from by rw [hp]) ?_
    exact mu_iret hx hb hr hlocks hS ((by rw [hp]; exact ⟨_, _, _, _, _, _, _, _, _, _, _, _, _, _, _, hkr, hP⟩)) dX4_sheet_35
  · obtain ⟨s_n, h_s_n, rfl⟩ := in_ex c1 (by omega)
    have t_s_n : tn (nI s_n) = s_n := tn_nI (by omega)
    have f2 := hWX.sl s_n
    have f3 := sb_lt hWX s_n
    refine lv_iload_n hx hb dX4_sheet_7 rfl (lv_at hl 2 rfl) ?_
    refine lv_if_eq (tgt := 36) hx hb dX4_sheet_8 (by decide) (fun c4 => ?_) (fun c4 => ?_)
    · obtain rfl : bt = nI 0 := c4
      have t_bt : tn (nI 0) = 0 := tn_nI (by decide)
      refine lv_iload_n hx hb dX4_sheet_36 rfl (lv_at hl 3 rfl) ?_
      refine lv_if_ge (tgt := 48) hx hb dX4_sheet_37 (by decide) (fun c5 => ?_) (fun c5 => ?_)
      · refine lv_iload_n hx hb dX4_sheet_48 rfl (lv_at hl 3 rfl) ?_
        refine lv_bipush (v := nI (40)) hx hb dX4_sheet_49 (by decide) ?_
        refine lv_icmp_le (tgt := 61) hx hb dX4_sheet_51 (by decide) (fun c6 => ?_) (fun c6 => ?_)
        · have i7 : inN nn 41 = true := in_t3 (by omega) (Int32.not_lt.mpr c5) c6
          obtain ⟨nnn, h_nnn, rfl⟩ := in_ex i7 (by omega)
          have t_nnn : tn (nI nnn) = nnn := tn_nI (by omega)
          refine lv_aload_n hx hb dX4_sheet_61 rfl (lv_at hl 0 rfl) ?_
          refine va_get (D := D) (ci := 4) (v := .ref (am 12)) (C := RX4) (T := TX4) (N := 24) hx hb hts hinX4 hown hK hP 0 rfl rfl 20 (by decide) (hts (.fieldLink RX4 60 "OneShortModel" "widths" "[I") (List.mem_of_getElem? (i := 3) rfl)) (fun _ h9 => h9) rfl dX4_sheet_62 ?_
          refine lv_iload_n hx hb dX4_sheet_65 rfl (lv_at hl 1 rfl) ?_
          refine lv_iload_n hx hb dX4_sheet_66 rfl (lv_at hl 2 rfl) ?_
          refine nv_iast hx hb hK hP hD hS 12 0 rfl rfl (by omega) (by decide) dX4_sheet_67 (fun H locs hP hD hS => ?_)
          have hP : va_P D vwCl (wN ci am (toH X (updF X.2.2.2.2.2.2.1 (s_n) (0)) X.2.2.2.2.2.2.2.1 X.2.2.2.2.2.2.2.2) kr q0 q1 q2 q3 q4 q5 iw kn y0 y1 y2 y3 y4 y5 y6) H := va_P.re (wN_sb ci am X kr q0 q1 q2 q3 q4 q5 iw kn y0 y1 y2 y3 y4 y5 y6 (s_n) (0)) hP
          have hD : va_D (aM am) (wN ci am (toH X (updF X.2.2.2.2.2.2.1 (s_n) (0)) X.2.2.2.2.2.2.2.1 X.2.2.2.2.2.2.2.2) kr q0 q1 q2 q3 q4 q5 iw kn y0 y1 y2 y3 y4 y5 y6) := wN_D hI
          refine lv_aload_n hx hb dX4_sheet_68 rfl (lv_at hl 0 rfl) ?_
          refine va_get (D := D) (ci := 4) (v := .ref (am 13)) (C := RX4) (T := TX4) (N := 24) hx hb hts hinX4 hown hK hP 0 rfl rfl 21 (by decide) (hts (.fieldLink RX4 63 "OneShortModel" "sizes" "[I") (List.mem_of_getElem? (i := 4) rfl)) (fun _ h9 => h9) rfl dX4_sheet_69 ?_
          refine lv_iload_n hx hb dX4_sheet_72 rfl (lv_at hl 1 rfl) ?_
          refine lv_iload_n hx hb dX4_sheet_73 rfl (lv_at hl 2 rfl) ?_
          refine lv_if_ne (tgt := 81) hx hb dX4_sheet_74 (by decide) (fun h => absurd (by decide) h) (fun _ => ?_)
          refine lv_iconst (v := nI (0)) hx hb dX4_sheet_77 (by decide) ?_
          refine lv_goto (tgt := 82) hx hb dX4_sheet_78 (by decide) ?_
          refine nv_iast hx hb hK hP hD hS 13 0 rfl rfl (by omega) (by decide) dX4_sheet_82 (fun H locs hP hD hS => ?_)
          have hP : va_P D vwCl (wN ci am (toH (toH X (updF X.2.2.2.2.2.2.1 (s_n) (0)) X.2.2.2.2.2.2.2.1 X.2.2.2.2.2.2.2.2) (updF X.2.2.2.2.2.2.1 (s_n) (0)) (updF X.2.2.2.2.2.2.2.1 (s_n) (0)) X.2.2.2.2.2.2.2.2) kr q0 q1 q2 q3 q4 q5 iw kn y0 y1 y2 y3 y4 y5 y6) H := va_P.re (wN_sl ci am (toH X (updF X.2.2.2.2.2.2.1 (s_n) (0)) X.2.2.2.2.2.2.2.1 X.2.2.2.2.2.2.2.2) kr q0 q1 q2 q3 q4 q5 iw kn y0 y1 y2 y3 y4 y5 y6 (s_n) (0)) hP
          have hD : va_D (aM am) (wN ci am (toH (toH X (updF X.2.2.2.2.2.2.1 (s_n) (0)) X.2.2.2.2.2.2.2.1 X.2.2.2.2.2.2.2.2) (updF X.2.2.2.2.2.2.1 (s_n) (0)) (updF X.2.2.2.2.2.2.2.1 (s_n) (0)) X.2.2.2.2.2.2.2.2) kr q0 q1 q2 q3 q4 q5 iw kn y0 y1 y2 y3 y4 y5 y6) := wN_D hI
          refine lv_iconst (v := nI (0)) hx hb dX4_sheet_83 (by decide) ?_
          refine lv_istore (lv' := [(4, .int (nI 0)), (0, .ref (am 0)), (1, .int (nI s_n)), (2, .int (nI 0)), (3, .int (nI nnn))]) hx hb dX4_sheet_84 hl (by decide) rfl (fun ls hl => ?_)
          have L86 : ∀ (k86 : Nat) (i : Nat), 40 - i < k86 → (i ≤ 40) → ∀ (x4 : Int32), x4 = nI (i) → ∀ (H : Heap) (locs : List Loc), va_P D vwCl (wN ci am (toH X (updF X.2.2.2.2.2.2.1 s_n (0)) (updF X.2.2.2.2.2.2.2.1 s_n (0)) (updF X.2.2.2.2.2.2.2.2 s_n (zr (X.2.2.2.2.2.2.2.2 s_n) (i)))) kr q0 q1 q2 q3 q4 q5 iw kn y0 y1 y2 y3 y4 y5 y6) H → va_S (aM am) s.heap H locs → ∀ ls : Array Slot, lv_has ls 5 [(4, .int (x4)), (0, .ref (am 0)), (1, .int (nI s_n)), (2, .int (nI 0)), (3, .int (nI nnn))] → W p l e (headSpec wsX4_sheet ({ frames := 2, cells := 0, slots := 0, locals := 42 } : Room)).room s m ([.ref (am 0), .int (nI s_n), .int (nI 0), .int (nI nnn)] : List Value).toArray below meth c H locs 0 0 (MQ below (mu_Q (aM am) (some (.int ((p_sheet X (nI s_n) (nI 0) (nI nnn)).1))) (fun H => ∃ (kr : Nat → Int32) (q0 : Int32) (q1 : Int32) (q2 : Int32) (q3 : Int32) (q4 : Int32) (q5 : Int32) (iw : Bool) (y0 : Nat → Int32) (y1 : Nat → Int32) (y2 : Nat → Int32) (y3 : Nat → Int32) (y4 : Nat → Int32) (y5 : Nat → Int32) (y6 : Nat → Int32), kOK (p_sheet X (nI s_n) (nI 0) (nI nnn)).2 kr ∧ va_P D vwCl (wN ci am ((p_sheet X (nI s_n) (nI 0) (nI nnn)).2) kr q0 q1 q2 q3 q4 q5 iw kn y0 y1 y2 y3 y4 y5 y6) H)) ([.ref (am 0), .int (nI s_n), .int (nI 0), .int (nI nnn)] : List Value).toArray s 0 0 (aM am)) (F0 m 86 ls []) := by
            intro k86
            induction k86 with
            | zero => intro i h0; exact absurd h0 (Nat.not_lt_zero _)
            | succ k86 ih86 =>
              intro i hk86 h_i x4 e4  H locs hP hS ls hl
              subst e4
              have hD : va_D (aM am) (wN ci am (toH X (updF X.2.2.2.2.2.2.1 s_n (0)) (updF X.2.2.2.2.2.2.2.1 s_n (0)) (updF X.2.2.2.2.2.2.2.2 s_n (zr (X.2.2.2.2.2.2.2.2 s_n) (i)))) kr q0 q1 q2 q3 q4 q5 iw kn y0 y1 y2 y3 y4 y5 y6) := wN_D hI
              refine lv_iload hx hb dX4_sheet_86 (lv_at hl 0 rfl) ?_
              refine lv_bipush (v := nI (40)) hx hb dX4_sheet_88 (by decide) ?_
              refine nv_icmp_ge (tgt := 112) hx hb (by omega) (by omega) dX4_sheet_90 (by decide) (fun c9 => ?_) (fun c9 => ?_)
              · have hP : va_P D vwCl (wN ci am (toH X (updF X.2.2.2.2.2.2.1 s_n (0)) (updF X.2.2.2.2.2.2.2.1 s_n (0)) (updF X.2.2.2.2.2.2.2.2 s_n (fun _ => 0))) kr q0 q1 q2 q3 q4 q5 iw kn y0 y1 y2 y3 y4 y5 y6) H := va_P.re (sn_zr X.2.2.2.2.2.2.2.2 s_n (fun j hj => if_pos (by omega))) hP
                have hD : va_D (aM am) (wN ci am (toH X (updF X.2.2.2.2.2.2.1 s_n (0)) (updF X.2.2.2.2.2.2.2.1 s_n (0)) (updF X.2.2.2.2.2.2.2.2 s_n (fun _ => 0))) kr q0 q1 q2 q3 q4 q5 iw kn y0 y1 y2 y3 y4 y5 y6) := wN_D hI
                refine lv_aload_n hx hb dX4_sheet_112 rfl (lv_at hl 1 rfl) ?_
                refine va_get (D := D) (ci := 4) (v := .ref (am 13)) (C := RX4) (T := TX4) (N := 24) hx hb hts hinX4 hown hK hP 0 rfl rfl 21 (by decide) (hts (.fieldLink RX4 63 "OneShortModel" "sizes" "[I") (List.mem_of_getElem? (i := 4) rfl)) (fun _ h9 => h9) rfl dX4_sheet_113 ?_
                refine lv_iload_n hx hb dX4_sheet_116 rfl (lv_at hl 2 rfl) ?_
                refine nv_iald (v := nI ((updF X.2.2.2.2.2.2.2.1 s_n (0)) (s_n))) hx hb hK hP 13 0 rfl rfl (by omega) (by decide) rfl dX4_sheet_117 ?_
                refine nv_cv (show nI ((updF X.2.2.2.2.2.2.2.1 s_n (0)) (s_n)) = nI (0) from congrArg nI (updF_s _ _ _)) ?_
                have hp : p_sheet X (nI s_n) (nI 0) (nI nnn) = (nI (0), toH X (updF X.2.2.2.2.2.2.1 s_n (0)) (updF X.2.2.2.2.2.2.2.1 s_n (0)) (updF X.2.2.2.2.2.2.2.2 s_n (fun _ => 0))) := by first | (simp [p_sheet, bk, fl_eq, updF_s, c1, Nat.lt_irrefl, c5, c6, c9, t_s_n, t_bt, i7, t_nnn]; done)
                refine nv_cv (show nI (0) = (p_sheet X (nI s_n) (nI 0) (nI nnn)).1 from by rw [hp]) ?_
                exact mu_iret hx hb hr hlocks hS ((by rw [hp]; exact ⟨_, _, _, _, _, _, _, _, _, _, _, _, _, _, _, hkr, hP⟩)) dX4_sheet_118
              · refine lv_aload_n hx hb dX4_sheet_93 rfl (lv_at hl 1 rfl) ?_
                refine va_get (D := D) (ci := 4) (v := .ref (am 14)) (C := RX4) (T := TX4) (N := 24) hx hb hts hinX4 hown hK hP 0 rfl rfl 22 (by decide) (hts (.fieldLink RX4 66 "OneShortModel" "numbers" "[I") (List.mem_of_getElem? (i := 5) rfl)) (fun _ h9 => h9) rfl dX4_sheet_94 ?_
                refine lv_bipush (v := nI (40)) hx hb dX4_sheet_97 (by decide) ?_
                refine lv_iload_n hx hb dX4_sheet_99 rfl (lv_at hl 2 rfl) ?_
                refine nv_imul hx hb dX4_sheet_100 ?_
                refine lv_iload hx hb dX4_sheet_101 (lv_at hl 0 rfl) ?_
                refine nv_iadd hx hb dX4_sheet_103 ?_
                refine lv_iconst (v := nI (0)) hx hb dX4_sheet_104 (by decide) ?_
                refine nv_iast hx hb hK hP hD hS 14 0 rfl rfl (by omega) (by decide) dX4_sheet_105 (fun H locs hP hD hS => ?_)
                have hP : va_P D vwCl (wN ci am (toH (toH X (updF X.2.2.2.2.2.2.1 s_n (0)) (updF X.2.2.2.2.2.2.2.1 s_n (0)) (updF X.2.2.2.2.2.2.2.2 s_n (zr (X.2.2.2.2.2.2.2.2 s_n) (i)))) (updF X.2.2.2.2.2.2.1 s_n (0)) (updF X.2.2.2.2.2.2.2.1 s_n (0)) (updF (updF X.2.2.2.2.2.2.2.2 s_n (zr (X.2.2.2.2.2.2.2.2 s_n) (i))) s_n (upd ((updF X.2.2.2.2.2.2.2.2 s_n (zr (X.2.2.2.2.2.2.2.2 s_n) (i))) s_n) i (nI (0))))) kr q0 q1 q2 q3 q4 q5 iw kn y0 y1 y2 y3 y4 y5 y6) H := va_P.re (wN_sn ci am (toH X (updF X.2.2.2.2.2.2.1 s_n (0)) (updF X.2.2.2.2.2.2.2.1 s_n (0)) (updF X.2.2.2.2.2.2.2.2 s_n (zr (X.2.2.2.2.2.2.2.2 s_n) (i)))) kr q0 q1 q2 q3 q4 q5 iw kn y0 y1 y2 y3 y4 y5 y6 (nI (0)) s_n i (by omega)) hP
                have hD : va_D (aM am) (wN ci am (toH (toH X (updF X.2.2.2.2.2.2.1 s_n (0)) (updF X.2.2.2.2.2.2.2.1 s_n (0)) (updF X.2.2.2.2.2.2.2.2 s_n (zr (X.2.2.2.2.2.2.2.2 s_n) (i)))) (updF X.2.2.2.2.2.2.1 s_n (0)) (updF X.2.2.2.2.2.2.2.1 s_n (0)) (updF (updF X.2.2.2.2.2.2.2.2 s_n (zr (X.2.2.2.2.2.2.2.2 s_n) (i))) s_n (upd ((updF X.2.2.2.2.2.2.2.2 s_n (zr (X.2.2.2.2.2.2.2.2 s_n) (i))) s_n) i (nI (0))))) kr q0 q1 q2 q3 q4 q5 iw kn y0 y1 y2 y3 y4 y5 y6) := wN_D hI
                refine nv_iinc1 (lv' := [(4, .int (nI (i + 1))), (0, .ref (am 0)), (1, .int (nI s_n)), (2, .int (nI 0)), (3, .int (nI nnn))]) hx hb dX4_sheet_106 hl (k := 0) rfl (by decide) rfl (fun ls hl => ?_)
                refine lv_goto (tgt := 86) hx hb dX4_sheet_109 (by decide) ?_
                exact ih86 (i + 1) (by omega) (by omega) (nI (i + 1)) rfl _ _ (va_P.re (by rw [updF_s, zr_s, updF_u]; rfl) hP) hS ls (lv_sub hl [0, 1, 2, 3, 4] rfl)
          exact L86 _ (0) (Nat.lt_succ_self _) (by omega) (nI (0)) rfl _ _ (va_P.re (by rw [zr_0, updF_self]; rfl) hP) hS ls (lv_sub hl [0, 1, 2, 3, 4] rfl)
        · have i10 : inN nn 41 = false := in_f3 (by omega) c6
          refine lv_aload_n hx hb dX4_sheet_54 rfl (lv_at hl 0 rfl) ?_
          refine lv_ldc (v := -1000001) hx hb hown (hts (.constant RX4 72 (-1000001)) (List.mem_of_getElem? (i := 1) rfl)) dX4_sheet_55 ?_
          refine mu_V (n := 1) (As := [.int (-1000001)]) (rest := []) ⟨hx, hb, hml, hown, hts⟩ (c_X4_finding l D ci am X kr q0 q1 q2 q3 q4 q5 iw kn y0 y1 y2 y3 y4 y5 y6 hI (-1000001) (0) (by omega) (by decide)) gX4_sheet_X4_finding rfl ⟨rfl, rfl⟩ (by decide +kernel) rfl ⟨Nat.le_of_ble_eq_true rfl, Nat.le_of_ble_eq_true rfl⟩ hE trivial hK hP (ci := 4) (q0 := 0) rfl rfl hl.1 rfl (Nat.le_of_ble_eq_true rfl) dX4_sheet_57 ⟨Nat.zero_le _, Nat.zero_le _⟩ hS (fun _ h => h) (fun H1 locs hz hfr hB hS => ?_)
          have hP := hB
          have hP : va_P D vwCl (wN ci am (toF X (inc X.2.2.2.1 0)) kr q0 q1 q2 q3 q4 q5 iw kn y0 y1 y2 y3 y4 y5 y6) H1 := hP
          generalize H1 = H at hP hS ⊢
          have hD : va_D (aM am) (wN ci am (toF X (inc X.2.2.2.1 0)) kr q0 q1 q2 q3 q4 q5 iw kn y0 y1 y2 y3 y4 y5 y6) := wN_D hI
          have hp : p_sheet X (nI s_n) (nI 0) nn = (fnd 0, toF X (inc X.2.2.2.1 0)) := by first | (simp [p_sheet, bk, fl_eq, updF_s, c1, Nat.lt_irrefl, c5, c6, t_s_n, t_bt, i10]; done)
          refine nv_cv (show fnd 0 = (p_sheet X (nI s_n) (nI 0) nn).1 from by rw [hp]) ?_
          exact mu_iret hx hb hr hlocks hS ((by rw [hp]; exact ⟨_, _, _, _, _, _, _, _, _, _, _, _, _, _, _, hkr, hP⟩)) dX4_sheet_60
      · have i11 : ∀ u9, inN nn u9 = false := fun u9 => in_f0 (Int32.not_le.mp c5)
        refine lv_aload_n hx hb dX4_sheet_40 rfl (lv_at hl 0 rfl) ?_
        refine lv_ldcw (v := -1000007) hx hb hown (hts (.constant RX4 330 (-1000007)) (List.mem_of_getElem? (i := 2) rfl)) dX4_sheet_41 ?_
        refine mu_V (n := 1) (As := [.int (-1000007)]) (rest := []) ⟨hx, hb, hml, hown, hts⟩ (c_X4_finding l D ci am X kr q0 q1 q2 q3 q4 q5 iw kn y0 y1 y2 y3 y4 y5 y6 hI (-1000007) (6) (by omega) (by decide)) gX4_sheet_X4_finding rfl ⟨rfl, rfl⟩ (by decide +kernel) rfl ⟨Nat.le_of_ble_eq_true rfl, Nat.le_of_ble_eq_true rfl⟩ hE trivial hK hP (ci := 4) (q0 := 0) rfl rfl hl.1 rfl (Nat.le_of_ble_eq_true rfl) dX4_sheet_44 ⟨Nat.zero_le _, Nat.zero_le _⟩ hS (fun _ h => h) (fun H1 locs hz hfr hB hS => ?_)
        have hP := hB
        have hP : va_P D vwCl (wN ci am (toF X (inc X.2.2.2.1 6)) kr q0 q1 q2 q3 q4 q5 iw kn y0 y1 y2 y3 y4 y5 y6) H1 := hP
        generalize H1 = H at hP hS ⊢
        have hD : va_D (aM am) (wN ci am (toF X (inc X.2.2.2.1 6)) kr q0 q1 q2 q3 q4 q5 iw kn y0 y1 y2 y3 y4 y5 y6) := wN_D hI
        have hp : p_sheet X (nI s_n) (nI 0) nn = (fnd 6, toF X (inc X.2.2.2.1 6)) := by first | (simp [p_sheet, bk, fl_eq, updF_s, c1, Nat.lt_irrefl, c5, t_s_n, t_bt, i11]; done)
        refine nv_cv (show fnd 6 = (p_sheet X (nI s_n) (nI 0) nn).1 from by rw [hp]) ?_
        exact mu_iret hx hb hr hlocks hS ((by rw [hp]; exact ⟨_, _, _, _, _, _, _, _, _, _, _, _, _, _, _, hkr, hP⟩)) dX4_sheet_47
    · have d12 : ¬ bt = nI 0 := c4
      refine lv_iload_n hx hb dX4_sheet_11 rfl (lv_at hl 2 rfl) ?_
      refine lv_bipush (v := nI (8)) hx hb dX4_sheet_12 (by decide) ?_
      refine lv_icmp_eq (tgt := 36) hx hb dX4_sheet_14 (by decide) (fun c13 => ?_) (fun c13 => ?_)
      · subst c13
        have t_bt : tn (nI 8) = 8 := tn_nI (by decide)
        refine lv_iload_n hx hb dX4_sheet_36 rfl (lv_at hl 3 rfl) ?_
        refine lv_if_ge (tgt := 48) hx hb dX4_sheet_37 (by decide) (fun c14 => ?_) (fun c14 => ?_)
        · refine lv_iload_n hx hb dX4_sheet_48 rfl (lv_at hl 3 rfl) ?_
          refine lv_bipush (v := nI (40)) hx hb dX4_sheet_49 (by decide) ?_
          refine lv_icmp_le (tgt := 61) hx hb dX4_sheet_51 (by decide) (fun c15 => ?_) (fun c15 => ?_)
          · have i16 : inN nn 41 = true := in_t3 (by omega) (Int32.not_lt.mpr c14) c15
            obtain ⟨nnn, h_nnn, rfl⟩ := in_ex i16 (by omega)
            have t_nnn : tn (nI nnn) = nnn := tn_nI (by omega)
            refine lv_aload_n hx hb dX4_sheet_61 rfl (lv_at hl 0 rfl) ?_
            refine va_get (D := D) (ci := 4) (v := .ref (am 12)) (C := RX4) (T := TX4) (N := 24) hx hb hts hinX4 hown hK hP 0 rfl rfl 20 (by decide) (hts (.fieldLink RX4 60 "OneShortModel" "widths" "[I") (List.mem_of_getElem? (i := 3) rfl)) (fun _ h9 => h9) rfl dX4_sheet_62 ?_
            refine lv_iload_n hx hb dX4_sheet_65 rfl (lv_at hl 1 rfl) ?_
            refine lv_iload_n hx hb dX4_sheet_66 rfl (lv_at hl 2 rfl) ?_
            refine nv_iast hx hb hK hP hD hS 12 0 rfl rfl (by omega) (by decide) dX4_sheet_67 (fun H locs hP hD hS => ?_)
            have hP : va_P D vwCl (wN ci am (toH X (updF X.2.2.2.2.2.2.1 (s_n) (8)) X.2.2.2.2.2.2.2.1 X.2.2.2.2.2.2.2.2) kr q0 q1 q2 q3 q4 q5 iw kn y0 y1 y2 y3 y4 y5 y6) H := va_P.re (wN_sb ci am X kr q0 q1 q2 q3 q4 q5 iw kn y0 y1 y2 y3 y4 y5 y6 (s_n) (8)) hP
            have hD : va_D (aM am) (wN ci am (toH X (updF X.2.2.2.2.2.2.1 (s_n) (8)) X.2.2.2.2.2.2.2.1 X.2.2.2.2.2.2.2.2) kr q0 q1 q2 q3 q4 q5 iw kn y0 y1 y2 y3 y4 y5 y6) := wN_D hI
            refine lv_aload_n hx hb dX4_sheet_68 rfl (lv_at hl 0 rfl) ?_
            refine va_get (D := D) (ci := 4) (v := .ref (am 13)) (C := RX4) (T := TX4) (N := 24) hx hb hts hinX4 hown hK hP 0 rfl rfl 21 (by decide) (hts (.fieldLink RX4 63 "OneShortModel" "sizes" "[I") (List.mem_of_getElem? (i := 4) rfl)) (fun _ h9 => h9) rfl dX4_sheet_69 ?_
            refine lv_iload_n hx hb dX4_sheet_72 rfl (lv_at hl 1 rfl) ?_
            refine lv_iload_n hx hb dX4_sheet_73 rfl (lv_at hl 2 rfl) ?_
            refine lv_if_ne (tgt := 81) hx hb dX4_sheet_74 (by decide) (fun _ => ?_) (fun h => absurd h (by decide))
            refine lv_iload_n hx hb dX4_sheet_81 rfl (lv_at hl 3 rfl) ?_
            refine nv_iast hx hb hK hP hD hS 13 0 rfl rfl (by omega) (by decide) dX4_sheet_82 (fun H locs hP hD hS => ?_)
            have hP : va_P D vwCl (wN ci am (toH (toH X (updF X.2.2.2.2.2.2.1 (s_n) (8)) X.2.2.2.2.2.2.2.1 X.2.2.2.2.2.2.2.2) (updF X.2.2.2.2.2.2.1 (s_n) (8)) (updF X.2.2.2.2.2.2.2.1 (s_n) (nnn)) X.2.2.2.2.2.2.2.2) kr q0 q1 q2 q3 q4 q5 iw kn y0 y1 y2 y3 y4 y5 y6) H := va_P.re (wN_sl ci am (toH X (updF X.2.2.2.2.2.2.1 (s_n) (8)) X.2.2.2.2.2.2.2.1 X.2.2.2.2.2.2.2.2) kr q0 q1 q2 q3 q4 q5 iw kn y0 y1 y2 y3 y4 y5 y6 (s_n) (nnn)) hP
            have hD : va_D (aM am) (wN ci am (toH (toH X (updF X.2.2.2.2.2.2.1 (s_n) (8)) X.2.2.2.2.2.2.2.1 X.2.2.2.2.2.2.2.2) (updF X.2.2.2.2.2.2.1 (s_n) (8)) (updF X.2.2.2.2.2.2.2.1 (s_n) (nnn)) X.2.2.2.2.2.2.2.2) kr q0 q1 q2 q3 q4 q5 iw kn y0 y1 y2 y3 y4 y5 y6) := wN_D hI
            refine lv_iconst (v := nI (0)) hx hb dX4_sheet_83 (by decide) ?_
            refine lv_istore (lv' := [(4, .int (nI 0)), (0, .ref (am 0)), (1, .int (nI s_n)), (2, .int (nI 8)), (3, .int (nI nnn))]) hx hb dX4_sheet_84 hl (by decide) rfl (fun ls hl => ?_)
            have L86 : ∀ (k86 : Nat) (i : Nat), 40 - i < k86 → (i ≤ 40) → ∀ (x4 : Int32), x4 = nI (i) → ∀ (H : Heap) (locs : List Loc), va_P D vwCl (wN ci am (toH X (updF X.2.2.2.2.2.2.1 s_n (8)) (updF X.2.2.2.2.2.2.2.1 s_n (nnn)) (updF X.2.2.2.2.2.2.2.2 s_n (zr (X.2.2.2.2.2.2.2.2 s_n) (i)))) kr q0 q1 q2 q3 q4 q5 iw kn y0 y1 y2 y3 y4 y5 y6) H → va_S (aM am) s.heap H locs → ∀ ls : Array Slot, lv_has ls 5 [(4, .int (x4)), (0, .ref (am 0)), (1, .int (nI s_n)), (2, .int (nI 8)), (3, .int (nI nnn))] → W p l e (headSpec wsX4_sheet ({ frames := 2, cells := 0, slots := 0, locals := 42 } : Room)).room s m ([.ref (am 0), .int (nI s_n), .int (nI 8), .int (nI nnn)] : List Value).toArray below meth c H locs 0 0 (MQ below (mu_Q (aM am) (some (.int ((p_sheet X (nI s_n) (nI 8) (nI nnn)).1))) (fun H => ∃ (kr : Nat → Int32) (q0 : Int32) (q1 : Int32) (q2 : Int32) (q3 : Int32) (q4 : Int32) (q5 : Int32) (iw : Bool) (y0 : Nat → Int32) (y1 : Nat → Int32) (y2 : Nat → Int32) (y3 : Nat → Int32) (y4 : Nat → Int32) (y5 : Nat → Int32) (y6 : Nat → Int32), kOK (p_sheet X (nI s_n) (nI 8) (nI nnn)).2 kr ∧ va_P D vwCl (wN ci am ((p_sheet X (nI s_n) (nI 8) (nI nnn)).2) kr q0 q1 q2 q3 q4 q5 iw kn y0 y1 y2 y3 y4 y5 y6) H)) ([.ref (am 0), .int (nI s_n), .int (nI 8), .int (nI nnn)] : List Value).toArray s 0 0 (aM am)) (F0 m 86 ls []) := by
              intro k86
              induction k86 with
              | zero => intro i h0; exact absurd h0 (Nat.not_lt_zero _)
              | succ k86 ih86 =>
                intro i hk86 h_i x4 e4  H locs hP hS ls hl
                subst e4
                have hD : va_D (aM am) (wN ci am (toH X (updF X.2.2.2.2.2.2.1 s_n (8)) (updF X.2.2.2.2.2.2.2.1 s_n (nnn)) (updF X.2.2.2.2.2.2.2.2 s_n (zr (X.2.2.2.2.2.2.2.2 s_n) (i)))) kr q0 q1 q2 q3 q4 q5 iw kn y0 y1 y2 y3 y4 y5 y6) := wN_D hI
                refine lv_iload hx hb dX4_sheet_86 (lv_at hl 0 rfl) ?_
                refine lv_bipush (v := nI (40)) hx hb dX4_sheet_88 (by decide) ?_
                refine nv_icmp_ge (tgt := 112) hx hb (by omega) (by omega) dX4_sheet_90 (by decide) (fun c18 => ?_) (fun c18 => ?_)
                · have hP : va_P D vwCl (wN ci am (toH X (updF X.2.2.2.2.2.2.1 s_n (8)) (updF X.2.2.2.2.2.2.2.1 s_n (nnn)) (updF X.2.2.2.2.2.2.2.2 s_n (fun _ => 0))) kr q0 q1 q2 q3 q4 q5 iw kn y0 y1 y2 y3 y4 y5 y6) H := va_P.re (sn_zr X.2.2.2.2.2.2.2.2 s_n (fun j hj => if_pos (by omega))) hP
                  have hD : va_D (aM am) (wN ci am (toH X (updF X.2.2.2.2.2.2.1 s_n (8)) (updF X.2.2.2.2.2.2.2.1 s_n (nnn)) (updF X.2.2.2.2.2.2.2.2 s_n (fun _ => 0))) kr q0 q1 q2 q3 q4 q5 iw kn y0 y1 y2 y3 y4 y5 y6) := wN_D hI
                  refine lv_aload_n hx hb dX4_sheet_112 rfl (lv_at hl 1 rfl) ?_
                  refine va_get (D := D) (ci := 4) (v := .ref (am 13)) (C := RX4) (T := TX4) (N := 24) hx hb hts hinX4 hown hK hP 0 rfl rfl 21 (by decide) (hts (.fieldLink RX4 63 "OneShortModel" "sizes" "[I") (List.mem_of_getElem? (i := 4) rfl)) (fun _ h9 => h9) rfl dX4_sheet_113 ?_
                  refine lv_iload_n hx hb dX4_sheet_116 rfl (lv_at hl 2 rfl) ?_
                  refine nv_iald (v := nI ((updF X.2.2.2.2.2.2.2.1 s_n (nnn)) (s_n))) hx hb hK hP 13 0 rfl rfl (by omega) (by decide) rfl dX4_sheet_117 ?_
                  refine nv_cv (show nI ((updF X.2.2.2.2.2.2.2.1 s_n (nnn)) (s_n)) = nI (nnn) from congrArg nI (updF_s _ _ _)) ?_
                  have hp : p_sheet X (nI s_n) (nI 8) (nI nnn) = (nI (nnn), toH X (updF X.2.2.2.2.2.2.1 s_n (8)) (updF X.2.2.2.2.2.2.2.1 s_n (nnn)) (updF X.2.2.2.2.2.2.2.2 s_n (fun _ => 0))) := by first | (simp [p_sheet, bk, fl_eq, updF_s, c1, c4, Nat.lt_irrefl, c14, c15, c18, t_s_n, d12, t_bt, i16, t_nnn]; done)
                  refine nv_cv (show nI (nnn) = (p_sheet X (nI s_n) (nI 8) (nI nnn)).1 from by rw [hp]) ?_
                  exact mu_iret hx hb hr hlocks hS ((by rw [hp]; exact ⟨_, _, _, _, _, _, _, _, _, _, _, _, _, _, _, hkr, hP⟩)) dX4_sheet_118
                · refine lv_aload_n hx hb dX4_sheet_93 rfl (lv_at hl 1 rfl) ?_
                  refine va_get (D := D) (ci := 4) (v := .ref (am 14)) (C := RX4) (T := TX4) (N := 24) hx hb hts hinX4 hown hK hP 0 rfl rfl 22 (by decide) (hts (.fieldLink RX4 66 "OneShortModel" "numbers" "[I") (List.mem_of_getElem? (i := 5) rfl)) (fun _ h9 => h9) rfl dX4_sheet_94 ?_
                  refine lv_bipush (v := nI (40)) hx hb dX4_sheet_97 (by decide) ?_
                  refine lv_iload_n hx hb dX4_sheet_99 rfl (lv_at hl 2 rfl) ?_
                  refine nv_imul hx hb dX4_sheet_100 ?_
                  refine lv_iload hx hb dX4_sheet_101 (lv_at hl 0 rfl) ?_
                  refine nv_iadd hx hb dX4_sheet_103 ?_
                  refine lv_iconst (v := nI (0)) hx hb dX4_sheet_104 (by decide) ?_
                  refine nv_iast hx hb hK hP hD hS 14 0 rfl rfl (by omega) (by decide) dX4_sheet_105 (fun H locs hP hD hS => ?_)
                  have hP : va_P D vwCl (wN ci am (toH (toH X (updF X.2.2.2.2.2.2.1 s_n (8)) (updF X.2.2.2.2.2.2.2.1 s_n (nnn)) (updF X.2.2.2.2.2.2.2.2 s_n (zr (X.2.2.2.2.2.2.2.2 s_n) (i)))) (updF X.2.2.2.2.2.2.1 s_n (8)) (updF X.2.2.2.2.2.2.2.1 s_n (nnn)) (updF (updF X.2.2.2.2.2.2.2.2 s_n (zr (X.2.2.2.2.2.2.2.2 s_n) (i))) s_n (upd ((updF X.2.2.2.2.2.2.2.2 s_n (zr (X.2.2.2.2.2.2.2.2 s_n) (i))) s_n) i (nI (0))))) kr q0 q1 q2 q3 q4 q5 iw kn y0 y1 y2 y3 y4 y5 y6) H := va_P.re (wN_sn ci am (toH X (updF X.2.2.2.2.2.2.1 s_n (8)) (updF X.2.2.2.2.2.2.2.1 s_n (nnn)) (updF X.2.2.2.2.2.2.2.2 s_n (zr (X.2.2.2.2.2.2.2.2 s_n) (i)))) kr q0 q1 q2 q3 q4 q5 iw kn y0 y1 y2 y3 y4 y5 y6 (nI (0)) s_n i (by omega)) hP
                  have hD : va_D (aM am) (wN ci am (toH (toH X (updF X.2.2.2.2.2.2.1 s_n (8)) (updF X.2.2.2.2.2.2.2.1 s_n (nnn)) (updF X.2.2.2.2.2.2.2.2 s_n (zr (X.2.2.2.2.2.2.2.2 s_n) (i)))) (updF X.2.2.2.2.2.2.1 s_n (8)) (updF X.2.2.2.2.2.2.2.1 s_n (nnn)) (updF (updF X.2.2.2.2.2.2.2.2 s_n (zr (X.2.2.2.2.2.2.2.2 s_n) (i))) s_n (upd ((updF X.2.2.2.2.2.2.2.2 s_n (zr (X.2.2.2.2.2.2.2.2 s_n) (i))) s_n) i (nI (0))))) kr q0 q1 q2 q3 q4 q5 iw kn y0 y1 y2 y3 y4 y5 y6) := wN_D hI
                  refine nv_iinc1 (lv' := [(4, .int (nI (i + 1))), (0, .ref (am 0)), (1, .int (nI s_n)), (2, .int (nI 8)), (3, .int (nI nnn))]) hx hb dX4_sheet_106 hl (k := 0) rfl (by decide) rfl (fun ls hl => ?_)
                  refine lv_goto (tgt := 86) hx hb dX4_sheet_109 (by decide) ?_
                  exact ih86 (i + 1) (by omega) (by omega) (nI (i + 1)) rfl _ _ (va_P.re (by rw [updF_s, zr_s, updF_u]; rfl) hP) hS ls (lv_sub hl [0, 1, 2, 3, 4] rfl)
            exact L86 _ (0) (Nat.lt_succ_self _) (by omega) (nI (0)) rfl _ _ (va_P.re (by rw [zr_0, updF_self]; rfl) hP) hS ls (lv_sub hl [0, 1, 2, 3, 4] rfl)
          · have i19 : inN nn 41 = false := in_f3 (by omega) c15
            refine lv_aload_n hx hb dX4_sheet_54 rfl (lv_at hl 0 rfl) ?_
            refine lv_ldc (v := -1000001) hx hb hown (hts (.constant RX4 72 (-1000001)) (List.mem_of_getElem? (i := 1) rfl)) dX4_sheet_55 ?_
            refine mu_V (n := 1) (As := [.int (-1000001)]) (rest := []) ⟨hx, hb, hml, hown, hts⟩ (c_X4_finding l D ci am X kr q0 q1 q2 q3 q4 q5 iw kn y0 y1 y2 y3 y4 y5 y6 hI (-1000001) (0) (by omega) (by decide)) gX4_sheet_X4_finding rfl ⟨rfl, rfl⟩ (by decide +kernel) rfl ⟨Nat.le_of_ble_eq_true rfl, Nat.le_of_ble_eq_true rfl⟩ hE trivial hK hP (ci := 4) (q0 := 0) rfl rfl hl.1 rfl (Nat.le_of_ble_eq_true rfl) dX4_sheet_57 ⟨Nat.zero_le _, Nat.zero_le _⟩ hS (fun _ h => h) (fun H1 locs hz hfr hB hS => ?_)
            have hP := hB
            have hP : va_P D vwCl (wN ci am (toF X (inc X.2.2.2.1 0)) kr q0 q1 q2 q3 q4 q5 iw kn y0 y1 y2 y3 y4 y5 y6) H1 := hP
            generalize H1 = H at hP hS ⊢
            have hD : va_D (aM am) (wN ci am (toF X (inc X.2.2.2.1 0)) kr q0 q1 q2 q3 q4 q5 iw kn y0 y1 y2 y3 y4 y5 y6) := wN_D hI
            have hp : p_sheet X (nI s_n) (nI 8) nn = (fnd 0, toF X (inc X.2.2.2.1 0)) := by first | (simp [p_sheet, bk, fl_eq, updF_s, c1, c4, Nat.lt_irrefl, c14, c15, t_s_n, d12, t_bt, i19]; done)
            refine nv_cv (show fnd 0 = (p_sheet X (nI s_n) (nI 8) nn).1 from by rw [hp]) ?_
            exact mu_iret hx hb hr hlocks hS ((by rw [hp]; exact ⟨_, _, _, _, _, _, _, _, _, _, _, _, _, _, _, hkr, hP⟩)) dX4_sheet_60
        · have i20 : ∀ u9, inN nn u9 = false := fun u9 => in_f0 (Int32.not_le.mp c14)
          refine lv_aload_n hx hb dX4_sheet_40 rfl (lv_at hl 0 rfl) ?_
          refine lv_ldcw (v := -1000007) hx hb hown (hts (.constant RX4 330 (-1000007)) (List.mem_of_getElem? (i := 2) rfl)) dX4_sheet_41 ?_
          refine mu_V (n := 1) (As := [.int (-1000007)]) (rest := []) ⟨hx, hb, hml, hown, hts⟩ (c_X4_finding l D ci am X kr q0 q1 q2 q3 q4 q5 iw kn y0 y1 y2 y3 y4 y5 y6 hI (-1000007) (6) (by omega) (by decide)) gX4_sheet_X4_finding rfl ⟨rfl, rfl⟩ (by decide +kernel) rfl ⟨Nat.le_of_ble_eq_true rfl, Nat.le_of_ble_eq_true rfl⟩ hE trivial hK hP (ci := 4) (q0 := 0) rfl rfl hl.1 rfl (Nat.le_of_ble_eq_true rfl) dX4_sheet_44 ⟨Nat.zero_le _, Nat.zero_le _⟩ hS (fun _ h => h) (fun H1 locs hz hfr hB hS => ?_)
          have hP := hB
          have hP : va_P D vwCl (wN ci am (toF X (inc X.2.2.2.1 6)) kr q0 q1 q2 q3 q4 q5 iw kn y0 y1 y2 y3 y4 y5 y6) H1 := hP
          generalize H1 = H at hP hS ⊢
          have hD : va_D (aM am) (wN ci am (toF X (inc X.2.2.2.1 6)) kr q0 q1 q2 q3 q4 q5 iw kn y0 y1 y2 y3 y4 y5 y6) := wN_D hI
          have hp : p_sheet X (nI s_n) (nI 8) nn = (fnd 6, toF X (inc X.2.2.2.1 6)) := by first | (simp [p_sheet, bk, fl_eq, updF_s, c1, c4, Nat.lt_irrefl, c14, t_s_n, d12, t_bt, i20]; done)
          refine nv_cv (show fnd 6 = (p_sheet X (nI s_n) (nI 8) nn).1 from by rw [hp]) ?_
          exact mu_iret hx hb hr hlocks hS ((by rw [hp]; exact ⟨_, _, _, _, _, _, _, _, _, _, _, _, _, _, _, hkr, hP⟩)) dX4_sheet_47
      · refine lv_iload_n hx hb dX4_sheet_17 rfl (lv_at hl 2 rfl) ?_
        refine lv_bipush (v := nI (16)) hx hb dX4_sheet_18 (by decide) ?_
        refine lv_icmp_eq (tgt := 36) hx hb dX4_sheet_20 (by decide) (fun c21 => ?_) (fun c21 => ?_)
        · subst c21
          have t_bt : tn (nI 16) = 16 := tn_nI (by decide)
          refine lv_iload_n hx hb dX4_sheet_36 rfl (lv_at hl 3 rfl) ?_
          refine lv_if_ge (tgt := 48) hx hb dX4_sheet_37 (by decide) (fun c22 => ?_) (fun c22 => ?_)
          · refine lv_iload_n hx hb dX4_sheet_48 rfl (lv_at hl 3 rfl) ?_
            refine lv_bipush (v := nI (40)) hx hb dX4_sheet_49 (by decide) ?_
            refine lv_icmp_le (tgt := 61) hx hb dX4_sheet_51 (by decide) (fun c23 => ?_) (fun c23 => ?_)
            · have i24 : inN nn 41 = true := in_t3 (by omega) (Int32.not_lt.mpr c22) c23
              obtain ⟨nnn, h_nnn, rfl⟩ := in_ex i24 (by omega)
              have t_nnn : tn (nI nnn) = nnn := tn_nI (by omega)
              refine lv_aload_n hx hb dX4_sheet_61 rfl (lv_at hl 0 rfl) ?_
              refine va_get (D := D) (ci := 4) (v := .ref (am 12)) (C := RX4) (T := TX4) (N := 24) hx hb hts hinX4 hown hK hP 0 rfl rfl 20 (by decide) (hts (.fieldLink RX4 60 "OneShortModel" "widths" "[I") (List.mem_of_getElem? (i := 3) rfl)) (fun _ h9 => h9) rfl dX4_sheet_62 ?_
              refine lv_iload_n hx hb dX4_sheet_65 rfl (lv_at hl 1 rfl) ?_
              refine lv_iload_n hx hb dX4_sheet_66 rfl (lv_at hl 2 rfl) ?_
              refine nv_iast hx hb hK hP hD hS 12 0 rfl rfl (by omega) (by decide) dX4_sheet_67 (fun H locs hP hD hS => ?_)
              have hP : va_P D vwCl (wN ci am (toH X (updF X.2.2.2.2.2.2.1 (s_n) (16)) X.2.2.2.2.2.2.2.1 X.2.2.2.2.2.2.2.2) kr q0 q1 q2 q3 q4 q5 iw kn y0 y1 y2 y3 y4 y5 y6) H := va_P.re (wN_sb ci am X kr q0 q1 q2 q3 q4 q5 iw kn y0 y1 y2 y3 y4 y5 y6 (s_n) (16)) hP
              have hD : va_D (aM am) (wN ci am (toH X (updF X.2.2.2.2.2.2.1 (s_n) (16)) X.2.2.2.2.2.2.2.1 X.2.2.2.2.2.2.2.2) kr q0 q1 q2 q3 q4 q5 iw kn y0 y1 y2 y3 y4 y5 y6) := wN_D hI
              refine lv_aload_n hx hb dX4_sheet_68 rfl (lv_at hl 0 rfl) ?_
              refine va_get (D := D) (ci := 4) (v := .ref (am 13)) (C := RX4) (T := TX4) (N := 24) hx hb hts hinX4 hown hK hP 0 rfl rfl 21 (by decide) (hts (.fieldLink RX4 63 "OneShortModel" "sizes" "[I") (List.mem_of_getElem? (i := 4) rfl)) (fun _ h9 => h9) rfl dX4_sheet_69 ?_
              refine lv_iload_n hx hb dX4_sheet_72 rfl (lv_at hl 1 rfl) ?_
              refine lv_iload_n hx hb dX4_sheet_73 rfl (lv_at hl 2 rfl) ?_
              refine lv_if_ne (tgt := 81) hx hb dX4_sheet_74 (by decide) (fun _ => ?_) (fun h => absurd h (by decide))
              refine lv_iload_n hx hb dX4_sheet_81 rfl (lv_at hl 3 rfl) ?_
              refine nv_iast hx hb hK hP hD hS 13 0 rfl rfl (by omega) (by decide) dX4_sheet_82 (fun H locs hP hD hS => ?_)
              have hP : va_P D vwCl (wN ci am (toH (toH X (updF X.2.2.2.2.2.2.1 (s_n) (16)) X.2.2.2.2.2.2.2.1 X.2.2.2.2.2.2.2.2) (updF X.2.2.2.2.2.2.1 (s_n) (16)) (updF X.2.2.2.2.2.2.2.1 (s_n) (nnn)) X.2.2.2.2.2.2.2.2) kr q0 q1 q2 q3 q4 q5 iw kn y0 y1 y2 y3 y4 y5 y6) H := va_P.re (wN_sl ci am (toH X (updF X.2.2.2.2.2.2.1 (s_n) (16)) X.2.2.2.2.2.2.2.1 X.2.2.2.2.2.2.2.2) kr q0 q1 q2 q3 q4 q5 iw kn y0 y1 y2 y3 y4 y5 y6 (s_n) (nnn)) hP
              have hD : va_D (aM am) (wN ci am (toH (toH X (updF X.2.2.2.2.2.2.1 (s_n) (16)) X.2.2.2.2.2.2.2.1 X.2.2.2.2.2.2.2.2) (updF X.2.2.2.2.2.2.1 (s_n) (16)) (updF X.2.2.2.2.2.2.2.1 (s_n) (nnn)) X.2.2.2.2.2.2.2.2) kr q0 q1 q2 q3 q4 q5 iw kn y0 y1 y2 y3 y4 y5 y6) := wN_D hI
              refine lv_iconst (v := nI (0)) hx hb dX4_sheet_83 (by decide) ?_
              refine lv_istore (lv' := [(4, .int (nI 0)), (0, .ref (am 0)), (1, .int (nI s_n)), (2, .int (nI 16)), (3, .int (nI nnn))]) hx hb dX4_sheet_84 hl (by decide) rfl (fun ls hl => ?_)
              have L86 : ∀ (k86 : Nat) (i : Nat), 40 - i < k86 → (i ≤ 40) → ∀ (x4 : Int32), x4 = nI (i) → ∀ (H : Heap) (locs : List Loc), va_P D vwCl (wN ci am (toH X (updF X.2.2.2.2.2.2.1 s_n (16)) (updF X.2.2.2.2.2.2.2.1 s_n (nnn)) (updF X.2.2.2.2.2.2.2.2 s_n (zr (X.2.2.2.2.2.2.2.2 s_n) (i)))) kr q0 q1 q2 q3 q4 q5 iw kn y0 y1 y2 y3 y4 y5 y6) H → va_S (aM am) s.heap H locs → ∀ ls : Array Slot, lv_has ls 5 [(4, .int (x4)), (0, .ref (am 0)), (1, .int (nI s_n)), (2, .int (nI 16)), (3, .int (nI nnn))] → W p l e (headSpec wsX4_sheet ({ frames := 2, cells := 0, slots := 0, locals := 42 } : Room)).room s m ([.ref (am 0), .int (nI s_n), .int (nI 16), .int (nI nnn)] : List Value).toArray below meth c H locs 0 0 (MQ below (mu_Q (aM am) (some (.int ((p_sheet X (nI s_n) (nI 16) (nI nnn)).1))) (fun H => ∃ (kr : Nat → Int32) (q0 : Int32) (q1 : Int32) (q2 : Int32) (q3 : Int32) (q4 : Int32) (q5 : Int32) (iw : Bool) (y0 : Nat → Int32) (y1 : Nat → Int32) (y2 : Nat → Int32) (y3 : Nat → Int32) (y4 : Nat → Int32) (y5 : Nat → Int32) (y6 : Nat → Int32), kOK (p_sheet X (nI s_n) (nI 16) (nI nnn)).2 kr ∧ va_P D vwCl (wN ci am ((p_sheet X (nI s_n) (nI 16) (nI nnn)).2) kr q0 q1 q2 q3 q4 q5 iw kn y0 y1 y2 y3 y4 y5 y6) H)) ([.ref (am 0), .int (nI s_n), .int (nI 16), .int (nI nnn)] : List Value).toArray s 0 0 (aM am)) (F0 m 86 ls []) := by
                intro k86
                induction k86 with
                | zero => intro i h0; exact absurd h0 (Nat.not_lt_zero _)
                | succ k86 ih86 =>
                  intro i hk86 h_i x4 e4  H locs hP hS ls hl
                  subst e4
                  have hD : va_D (aM am) (wN ci am (toH X (updF X.2.2.2.2.2.2.1 s_n (16)) (updF X.2.2.2.2.2.2.2.1 s_n (nnn)) (updF X.2.2.2.2.2.2.2.2 s_n (zr (X.2.2.2.2.2.2.2.2 s_n) (i)))) kr q0 q1 q2 q3 q4 q5 iw kn y0 y1 y2 y3 y4 y5 y6) := wN_D hI
                  refine lv_iload hx hb dX4_sheet_86 (lv_at hl 0 rfl) ?_
                  refine lv_bipush (v := nI (40)) hx hb dX4_sheet_88 (by decide) ?_
                  refine nv_icmp_ge (tgt := 112) hx hb (by omega) (by omega) dX4_sheet_90 (by decide) (fun c26 => ?_) (fun c26 => ?_)
                  · have hP : va_P D vwCl (wN ci am (toH X (updF X.2.2.2.2.2.2.1 s_n (16)) (updF X.2.2.2.2.2.2.2.1 s_n (nnn)) (updF X.2.2.2.2.2.2.2.2 s_n (fun _ => 0))) kr q0 q1 q2 q3 q4 q5 iw kn y0 y1 y2 y3 y4 y5 y6) H := va_P.re (sn_zr X.2.2.2.2.2.2.2.2 s_n (fun j hj => if_pos (by omega))) hP
                    have hD : va_D (aM am) (wN ci am (toH X (updF X.2.2.2.2.2.2.1 s_n (16)) (updF X.2.2.2.2.2.2.2.1 s_n (nnn)) (updF X.2.2.2.2.2.2.2.2 s_n (fun _ => 0))) kr q0 q1 q2 q3 q4 q5 iw kn y0 y1 y2 y3 y4 y5 y6) := wN_D hI
                    refine lv_aload_n hx hb dX4_sheet_112 rfl (lv_at hl 1 rfl) ?_
                    refine va_get (D := D) (ci := 4) (v := .ref (am 13)) (C := RX4) (T := TX4) (N := 24) hx hb hts hinX4 hown hK hP 0 rfl rfl 21 (by decide) (hts (.fieldLink RX4 63 "OneShortModel" "sizes" "[I") (List.mem_of_getElem? (i := 4) rfl)) (fun _ h9 => h9) rfl dX4_sheet_113 ?_
                    refine lv_iload_n hx hb dX4_sheet_116 rfl (lv_at hl 2 rfl) ?_
                    refine nv_iald (v := nI ((updF X.2.2.2.2.2.2.2.1 s_n (nnn)) (s_n))) hx hb hK hP 13 0 rfl rfl (by omega) (by decide) rfl dX4_sheet_117 ?_
                    refine nv_cv (show nI ((updF X.2.2.2.2.2.2.2.1 s_n (nnn)) (s_n)) = nI (nnn) from congrArg nI (updF_s _ _ _)) ?_
                    have hp : p_sheet X (nI s_n) (nI 16) (nI nnn) = (nI (nnn), toH X (updF X.2.2.2.2.2.2.1 s_n (16)) (updF X.2.2.2.2.2.2.2.1 s_n (nnn)) (updF X.2.2.2.2.2.2.2.2 s_n (fun _ => 0))) := by first | (simp [p_sheet, bk, fl_eq, updF_s, c1, c4, c13, Nat.lt_irrefl, c22, c23, c26, t_s_n, d12, t_bt, i24, t_nnn]; done)
                    refine nv_cv (show nI (nnn) = (p_sheet X (nI s_n) (nI 16) (nI nnn)).1 from by rw [hp]) ?_
                    exact mu_iret hx hb hr hlocks hS ((by rw [hp]; exact ⟨_, _, _, _, _, _, _, _, _, _, _, _, _, _, _, hkr, hP⟩)) dX4_sheet_118
                  · refine lv_aload_n hx hb dX4_sheet_93 rfl (lv_at hl 1 rfl) ?_
                    refine va_get (D := D) (ci := 4) (v := .ref (am 14)) (C := RX4) (T := TX4) (N := 24) hx hb hts hinX4 hown hK hP 0 rfl rfl 22 (by decide) (hts (.fieldLink RX4 66 "OneShortModel" "numbers" "[I") (List.mem_of_getElem? (i := 5) rfl)) (fun _ h9 => h9) rfl dX4_sheet_94 ?_
                    refine lv_bipush (v := nI (40)) hx hb dX4_sheet_97 (by decide) ?_
                    refine lv_iload_n hx hb dX4_sheet_99 rfl (lv_at hl 2 rfl) ?_
                    refine nv_imul hx hb dX4_sheet_100 ?_
                    refine lv_iload hx hb dX4_sheet_101 (lv_at hl 0 rfl) ?_
                    refine nv_iadd hx hb dX4_sheet_103 ?_
                    refine lv_iconst (v := nI (0)) hx hb dX4_sheet_104 (by decide) ?_
                    refine nv_iast hx hb hK hP hD hS 14 0 rfl rfl (by omega) (by decide) dX4_sheet_105 (fun H locs hP hD hS => ?_)
                    have hP : va_P D vwCl (wN ci am (toH (toH X (updF X.2.2.2.2.2.2.1 s_n (16)) (updF X.2.2.2.2.2.2.2.1 s_n (nnn)) (updF X.2.2.2.2.2.2.2.2 s_n (zr (X.2.2.2.2.2.2.2.2 s_n) (i)))) (updF X.2.2.2.2.2.2.1 s_n (16)) (updF X.2.2.2.2.2.2.2.1 s_n (nnn)) (updF (updF X.2.2.2.2.2.2.2.2 s_n (zr (X.2.2.2.2.2.2.2.2 s_n) (i))) s_n (upd ((updF X.2.2.2.2.2.2.2.2 s_n (zr (X.2.2.2.2.2.2.2.2 s_n) (i))) s_n) i (nI (0))))) kr q0 q1 q2 q3 q4 q5 iw kn y0 y1 y2 y3 y4 y5 y6) H := va_P.re (wN_sn ci am (toH X (updF X.2.2.2.2.2.2.1 s_n (16)) (updF X.2.2.2.2.2.2.2.1 s_n (nnn)) (updF X.2.2.2.2.2.2.2.2 s_n (zr (X.2.2.2.2.2.2.2.2 s_n) (i)))) kr q0 q1 q2 q3 q4 q5 iw kn y0 y1 y2 y3 y4 y5 y6 (nI (0)) s_n i (by omega)) hP
                    have hD : va_D (aM am) (wN ci am (toH (toH X (updF X.2.2.2.2.2.2.1 s_n (16)) (updF X.2.2.2.2.2.2.2.1 s_n (nnn)) (updF X.2.2.2.2.2.2.2.2 s_n (zr (X.2.2.2.2.2.2.2.2 s_n) (i)))) (updF X.2.2.2.2.2.2.1 s_n (16)) (updF X.2.2.2.2.2.2.2.1 s_n (nnn)) (updF (updF X.2.2.2.2.2.2.2.2 s_n (zr (X.2.2.2.2.2.2.2.2 s_n) (i))) s_n (upd ((updF X.2.2.2.2.2.2.2.2 s_n (zr (X.2.2.2.2.2.2.2.2 s_n) (i))) s_n) i (nI (0))))) kr q0 q1 q2 q3 q4 q5 iw kn y0 y1 y2 y3 y4 y5 y6) := wN_D hI
                    refine nv_iinc1 (lv' := [(4, .int (nI (i + 1))), (0, .ref (am 0)), (1, .int (nI s_n)), (2, .int (nI 16)), (3, .int (nI nnn))]) hx hb dX4_sheet_106 hl (k := 0) rfl (by decide) rfl (fun ls hl => ?_)
                    refine lv_goto (tgt := 86) hx hb dX4_sheet_109 (by decide) ?_
                    exact ih86 (i + 1) (by omega) (by omega) (nI (i + 1)) rfl _ _ (va_P.re (by rw [updF_s, zr_s, updF_u]; rfl) hP) hS ls (lv_sub hl [0, 1, 2, 3, 4] rfl)
              exact L86 _ (0) (Nat.lt_succ_self _) (by omega) (nI (0)) rfl _ _ (va_P.re (by rw [zr_0, updF_self]; rfl) hP) hS ls (lv_sub hl [0, 1, 2, 3, 4] rfl)
            · have i27 : inN nn 41 = false := in_f3 (by omega) c23
              refine lv_aload_n hx hb dX4_sheet_54 rfl (lv_at hl 0 rfl) ?_
              refine lv_ldc (v := -1000001) hx hb hown (hts (.constant RX4 72 (-1000001)) (List.mem_of_getElem? (i := 1) rfl)) dX4_sheet_55 ?_
              refine mu_V (n := 1) (As := [.int (-1000001)]) (rest := []) ⟨hx, hb, hml, hown, hts⟩ (c_X4_finding l D ci am X kr q0 q1 q2 q3 q4 q5 iw kn y0 y1 y2 y3 y4 y5 y6 hI (-1000001) (0) (by omega) (by decide)) gX4_sheet_X4_finding rfl ⟨rfl, rfl⟩ (by decide +kernel) rfl ⟨Nat.le_of_ble_eq_true rfl, Nat.le_of_ble_eq_true rfl⟩ hE trivial hK hP (ci := 4) (q0 := 0) rfl rfl hl.1 rfl (Nat.le_of_ble_eq_true rfl) dX4_sheet_57 ⟨Nat.zero_le _, Nat.zero_le _⟩ hS (fun _ h => h) (fun H1 locs hz hfr hB hS => ?_)
              have hP := hB
              have hP : va_P D vwCl (wN ci am (toF X (inc X.2.2.2.1 0)) kr q0 q1 q2 q3 q4 q5 iw kn y0 y1 y2 y3 y4 y5 y6) H1 := hP
              generalize H1 = H at hP hS ⊢
              have hD : va_D (aM am) (wN ci am (toF X (inc X.2.2.2.1 0)) kr q0 q1 q2 q3 q4 q5 iw kn y0 y1 y2 y3 y4 y5 y6) := wN_D hI
              have hp : p_sheet X (nI s_n) (nI 16) nn = (fnd 0, toF X (inc X.2.2.2.1 0)) := by first | (simp [p_sheet, bk, fl_eq, updF_s, c1, c4, c13, Nat.lt_irrefl, c22, c23, t_s_n, d12, t_bt, i27]; done)
              refine nv_cv (show fnd 0 = (p_sheet X (nI s_n) (nI 16) nn).1 from by rw [hp]) ?_
              exact mu_iret hx hb hr hlocks hS ((by rw [hp]; exact ⟨_, _, _, _, _, _, _, _, _, _, _, _, _, _, _, hkr, hP⟩)) dX4_sheet_60
          · have i28 : ∀ u9, inN nn u9 = false := fun u9 => in_f0 (Int32.not_le.mp c22)
            refine lv_aload_n hx hb dX4_sheet_40 rfl (lv_at hl 0 rfl) ?_
            refine lv_ldcw (v := -1000007) hx hb hown (hts (.constant RX4 330 (-1000007)) (List.mem_of_getElem? (i := 2) rfl)) dX4_sheet_41 ?_
            refine mu_V (n := 1) (As := [.int (-1000007)]) (rest := []) ⟨hx, hb, hml, hown, hts⟩ (c_X4_finding l D ci am X kr q0 q1 q2 q3 q4 q5 iw kn y0 y1 y2 y3 y4 y5 y6 hI (-1000007) (6) (by omega) (by decide)) gX4_sheet_X4_finding rfl ⟨rfl, rfl⟩ (by decide +kernel) rfl ⟨Nat.le_of_ble_eq_true rfl, Nat.le_of_ble_eq_true rfl⟩ hE trivial hK hP (ci := 4) (q0 := 0) rfl rfl hl.1 rfl (Nat.le_of_ble_eq_true rfl) dX4_sheet_44 ⟨Nat.zero_le _, Nat.zero_le _⟩ hS (fun _ h => h) (fun H1 locs hz hfr hB hS => ?_)
            have hP := hB
            have hP : va_P D vwCl (wN ci am (toF X (inc X.2.2.2.1 6)) kr q0 q1 q2 q3 q4 q5 iw kn y0 y1 y2 y3 y4 y5 y6) H1 := hP
            generalize H1 = H at hP hS ⊢
            have hD : va_D (aM am) (wN ci am (toF X (inc X.2.2.2.1 6)) kr q0 q1 q2 q3 q4 q5 iw kn y0 y1 y2 y3 y4 y5 y6) := wN_D hI
            have hp : p_sheet X (nI s_n) (nI 16) nn = (fnd 6, toF X (inc X.2.2.2.1 6)) := by first | (simp [p_sheet, bk, fl_eq, updF_s, c1, c4, c13, Nat.lt_irrefl, c22, t_s_n, d12, t_bt, i28]; done)
            refine nv_cv (show fnd 6 = (p_sheet X (nI s_n) (nI 16) nn).1 from by rw [hp]) ?_
            exact mu_iret hx hb hr hlocks hS ((by rw [hp]; exact ⟨_, _, _, _, _, _, _, _, _, _, _, _, _, _, _, hkr, hP⟩)) dX4_sheet_47
        · refine lv_iload_n hx hb dX4_sheet_23 rfl (lv_at hl 2 rfl) ?_
          refine lv_bipush (v := nI (32)) hx hb dX4_sheet_24 (by decide) ?_
          refine lv_icmp_eq (tgt := 36) hx hb dX4_sheet_26 (by decide) (fun c29 => ?_) (fun c29 => ?_)
          · subst c29
            have t_bt : tn (nI 32) = 32 := tn_nI (by decide)
            refine lv_iload_n hx hb dX4_sheet_36 rfl (lv_at hl 3 rfl) ?_
            refine lv_if_ge (tgt := 48) hx hb dX4_sheet_37 (by decide) (fun c30 => ?_) (fun c30 => ?_)
            · refine lv_iload_n hx hb dX4_sheet_48 rfl (lv_at hl 3 rfl) ?_
              refine lv_bipush (v := nI (40)) hx hb dX4_sheet_49 (by decide) ?_
              refine lv_icmp_le (tgt := 61) hx hb dX4_sheet_51 (by decide) (fun c31 => ?_) (fun c31 => ?_)
              · have i32 : inN nn 41 = true := in_t3 (by omega) (Int32.not_lt.mpr c30) c31
                obtain ⟨nnn, h_nnn, rfl⟩ := in_ex i32 (by omega)
                have t_nnn : tn (nI nnn) = nnn := tn_nI (by omega)
                refine lv_aload_n hx hb dX4_sheet_61 rfl (lv_at hl 0 rfl) ?_
                refine va_get (D := D) (ci := 4) (v := .ref (am 12)) (C := RX4) (T := TX4) (N := 24) hx hb hts hinX4 hown hK hP 0 rfl rfl 20 (by decide) (hts (.fieldLink RX4 60 "OneShortModel" "widths" "[I") (List.mem_of_getElem? (i := 3) rfl)) (fun _ h9 => h9) rfl dX4_sheet_62 ?_
                refine lv_iload_n hx hb dX4_sheet_65 rfl (lv_at hl 1 rfl) ?_
                refine lv_iload_n hx hb dX4_sheet_66 rfl (lv_at hl 2 rfl) ?_
                refine nv_iast hx hb hK hP hD hS 12 0 rfl rfl (by omega) (by decide) dX4_sheet_67 (fun H locs hP hD hS => ?_)
                have hP : va_P D vwCl (wN ci am (toH X (updF X.2.2.2.2.2.2.1 (s_n) (32)) X.2.2.2.2.2.2.2.1 X.2.2.2.2.2.2.2.2) kr q0 q1 q2 q3 q4 q5 iw kn y0 y1 y2 y3 y4 y5 y6) H := va_P.re (wN_sb ci am X kr q0 q1 q2 q3 q4 q5 iw kn y0 y1 y2 y3 y4 y5 y6 (s_n) (32)) hP
                have hD : va_D (aM am) (wN ci am (toH X (updF X.2.2.2.2.2.2.1 (s_n) (32)) X.2.2.2.2.2.2.2.1 X.2.2.2.2.2.2.2.2) kr q0 q1 q2 q3 q4 q5 iw kn y0 y1 y2 y3 y4 y5 y6) := wN_D hI
                refine lv_aload_n hx hb dX4_sheet_68 rfl (lv_at hl 0 rfl) ?_
                refine va_get (D := D) (ci := 4) (v := .ref (am 13)) (C := RX4) (T := TX4) (N := 24) hx hb hts hinX4 hown hK hP 0 rfl rfl 21 (by decide) (hts (.fieldLink RX4 63 "OneShortModel" "sizes" "[I") (List.mem_of_getElem? (i := 4) rfl)) (fun _ h9 => h9) rfl dX4_sheet_69 ?_
                refine lv_iload_n hx hb dX4_sheet_72 rfl (lv_at hl 1 rfl) ?_
                refine lv_iload_n hx hb dX4_sheet_73 rfl (lv_at hl 2 rfl) ?_
                refine lv_if_ne (tgt := 81) hx hb dX4_sheet_74 (by decide) (fun _ => ?_) (fun h => absurd h (by decide))
                refine lv_iload_n hx hb dX4_sheet_81 rfl (lv_at hl 3 rfl) ?_
                refine nv_iast hx hb hK hP hD hS 13 0 rfl rfl (by omega) (by decide) dX4_sheet_82 (fun H locs hP hD hS => ?_)
                have hP : va_P D vwCl (wN ci am (toH (toH X (updF X.2.2.2.2.2.2.1 (s_n) (32)) X.2.2.2.2.2.2.2.1 X.2.2.2.2.2.2.2.2) (updF X.2.2.2.2.2.2.1 (s_n) (32)) (updF X.2.2.2.2.2.2.2.1 (s_n) (nnn)) X.2.2.2.2.2.2.2.2) kr q0 q1 q2 q3 q4 q5 iw kn y0 y1 y2 y3 y4 y5 y6) H := va_P.re (wN_sl ci am (toH X (updF X.2.2.2.2.2.2.1 (s_n) (32)) X.2.2.2.2.2.2.2.1 X.2.2.2.2.2.2.2.2) kr q0 q1 q2 q3 q4 q5 iw kn y0 y1 y2 y3 y4 y5 y6 (s_n) (nnn)) hP
                have hD : va_D (aM am) (wN ci am (toH (toH X (updF X.2.2.2.2.2.2.1 (s_n) (32)) X.2.2.2.2.2.2.2.1 X.2.2.2.2.2.2.2.2) (updF X.2.2.2.2.2.2.1 (s_n) (32)) (updF X.2.2.2.2.2.2.2.1 (s_n) (nnn)) X.2.2.2.2.2.2.2.2) kr q0 q1 q2 q3 q4 q5 iw kn y0 y1 y2 y3 y4 y5 y6) := wN_D hI
                refine lv_iconst (v := nI (0)) hx hb dX4_sheet_83 (by decide) ?_
                refine lv_istore (lv' := [(4, .int (nI 0)), (0, .ref (am 0)), (1, .int (nI s_n)), (2, .int (nI 32)), (3, .int (nI nnn))]) hx hb dX4_sheet_84 hl (by decide) rfl (fun ls hl => ?_)
                have L86 : ∀ (k86 : Nat) (i : Nat), 40 - i < k86 → (i ≤ 40) → ∀ (x4 : Int32), x4 = nI (i) → ∀ (H : Heap) (locs : List Loc), va_P D vwCl (wN ci am (toH X (updF X.2.2.2.2.2.2.1 s_n (32)) (updF X.2.2.2.2.2.2.2.1 s_n (nnn)) (updF X.2.2.2.2.2.2.2.2 s_n (zr (X.2.2.2.2.2.2.2.2 s_n) (i)))) kr q0 q1 q2 q3 q4 q5 iw kn y0 y1 y2 y3 y4 y5 y6) H → va_S (aM am) s.heap H locs → ∀ ls : Array Slot, lv_has ls 5 [(4, .int (x4)), (0, .ref (am 0)), (1, .int (nI s_n)), (2, .int (nI 32)), (3, .int (nI nnn))] → W p l e (headSpec wsX4_sheet ({ frames := 2, cells := 0, slots := 0, locals := 42 } : Room)).room s m ([.ref (am 0), .int (nI s_n), .int (nI 32), .int (nI nnn)] : List Value).toArray below meth c H locs 0 0 (MQ below (mu_Q (aM am) (some (.int ((p_sheet X (nI s_n) (nI 32) (nI nnn)).1))) (fun H => ∃ (kr : Nat → Int32) (q0 : Int32) (q1 : Int32) (q2 : Int32) (q3 : Int32) (q4 : Int32) (q5 : Int32) (iw : Bool) (y0 : Nat → Int32) (y1 : Nat → Int32) (y2 : Nat → Int32) (y3 : Nat → Int32) (y4 : Nat → Int32) (y5 : Nat → Int32) (y6 : Nat → Int32), kOK (p_sheet X (nI s_n) (nI 32) (nI nnn)).2 kr ∧ va_P D vwCl (wN ci am ((p_sheet X (nI s_n) (nI 32) (nI nnn)).2) kr q0 q1 q2 q3 q4 q5 iw kn y0 y1 y2 y3 y4 y5 y6) H)) ([.ref (am 0), .int (nI s_n), .int (nI 32), .int (nI nnn)] : List Value).toArray s 0 0 (aM am)) (F0 m 86 ls []) := by
                  intro k86
                  induction k86 with
                  | zero => intro i h0; exact absurd h0 (Nat.not_lt_zero _)
                  | succ k86 ih86 =>
                    intro i hk86 h_i x4 e4  H locs hP hS ls hl
                    subst e4
                    have hD : va_D (aM am) (wN ci am (toH X (updF X.2.2.2.2.2.2.1 s_n (32)) (updF X.2.2.2.2.2.2.2.1 s_n (nnn)) (updF X.2.2.2.2.2.2.2.2 s_n (zr (X.2.2.2.2.2.2.2.2 s_n) (i)))) kr q0 q1 q2 q3 q4 q5 iw kn y0 y1 y2 y3 y4 y5 y6) := wN_D hI
                    refine lv_iload hx hb dX4_sheet_86 (lv_at hl 0 rfl) ?_
                    refine lv_bipush (v := nI (40)) hx hb dX4_sheet_88 (by decide) ?_
                    refine nv_icmp_ge (tgt := 112) hx hb (by omega) (by omega) dX4_sheet_90 (by decide) (fun c34 => ?_) (fun c34 => ?_)
                    · have hP : va_P D vwCl (wN ci am (toH X (updF X.2.2.2.2.2.2.1 s_n (32)) (updF X.2.2.2.2.2.2.2.1 s_n (nnn)) (updF X.2.2.2.2.2.2.2.2 s_n (fun _ => 0))) kr q0 q1 q2 q3 q4 q5 iw kn y0 y1 y2 y3 y4 y5 y6) H := va_P.re (sn_zr X.2.2.2.2.2.2.2.2 s_n (fun j hj => if_pos (by omega))) hP
                      have hD : va_D (aM am) (wN ci am (toH X (updF X.2.2.2.2.2.2.1 s_n (32)) (updF X.2.2.2.2.2.2.2.1 s_n (nnn)) (updF X.2.2.2.2.2.2.2.2 s_n (fun _ => 0))) kr q0 q1 q2 q3 q4 q5 iw kn y0 y1 y2 y3 y4 y5 y6) := wN_D hI
                      refine lv_aload_n hx hb dX4_sheet_112 rfl (lv_at hl 1 rfl) ?_
                      refine va_get (D := D) (ci := 4) (v := .ref (am 13)) (C := RX4) (T := TX4) (N := 24) hx hb hts hinX4 hown hK hP 0 rfl rfl 21 (by decide) (hts (.fieldLink RX4 63 "OneShortModel" "sizes" "[I") (List.mem_of_getElem? (i := 4) rfl)) (fun _ h9 => h9) rfl dX4_sheet_113 ?_
                      refine lv_iload_n hx hb dX4_sheet_116 rfl (lv_at hl 2 rfl) ?_
                      refine nv_iald (v := nI ((updF X.2.2.2.2.2.2.2.1 s_n (nnn)) (s_n))) hx hb hK hP 13 0 rfl rfl (by omega) (by decide) rfl dX4_sheet_117 ?_
                      refine nv_cv (show nI ((updF X.2.2.2.2.2.2.2.1 s_n (nnn)) (s_n)) = nI (nnn) from congrArg nI (updF_s _ _ _)) ?_
                      have hp : p_sheet X (nI s_n) (nI 32) (nI nnn) = (nI (nnn), toH X (updF X.2.2.2.2.2.2.1 s_n (32)) (updF X.2.2.2.2.2.2.2.1 s_n (nnn)) (updF X.2.2.2.2.2.2.2.2 s_n (fun _ => 0))) := by first | (simp [p_sheet, bk, fl_eq, updF_s, c1, c4, c13, c21, Nat.lt_irrefl, c30, c31, c34, t_s_n, d12, t_bt, i32, t_nnn]; done)
                      refine nv_cv (show nI (nnn) = (p_sheet X (nI s_n) (nI 32) (nI nnn)).1 from by rw [hp]) ?_
                      exact mu_iret hx hb hr hlocks hS ((by rw [hp]; exact ⟨_, _, _, _, _, _, _, _, _, _, _, _, _, _, _, hkr, hP⟩)) dX4_sheet_118
                    · refine lv_aload_n hx hb dX4_sheet_93 rfl (lv_at hl 1 rfl) ?_
                      refine va_get (D := D) (ci := 4) (v := .ref (am 14)) (C := RX4) (T := TX4) (N := 24) hx hb hts hinX4 hown hK hP 0 rfl rfl 22 (by decide) (hts (.fieldLink RX4 66 "OneShortModel" "numbers" "[I") (List.mem_of_getElem? (i := 5) rfl)) (fun _ h9 => h9) rfl dX4_sheet_94 ?_
                      refine lv_bipush (v := nI (40)) hx hb dX4_sheet_97 (by decide) ?_
                      refine lv_iload_n hx hb dX4_sheet_99 rfl (lv_at hl 2 rfl) ?_
                      refine nv_imul hx hb dX4_sheet_100 ?_
                      refine lv_iload hx hb dX4_sheet_101 (lv_at hl 0 rfl) ?_
                      refine nv_iadd hx hb dX4_sheet_103 ?_
                      refine lv_iconst (v := nI (0)) hx hb dX4_sheet_104 (by decide) ?_
                      refine nv_iast hx hb hK hP hD hS 14 0 rfl rfl (by omega) (by decide) dX4_sheet_105 (fun H locs hP hD hS => ?_)
                      have hP : va_P D vwCl (wN ci am (toH (toH X (updF X.2.2.2.2.2.2.1 s_n (32)) (updF X.2.2.2.2.2.2.2.1 s_n (nnn)) (updF X.2.2.2.2.2.2.2.2 s_n (zr (X.2.2.2.2.2.2.2.2 s_n) (i)))) (updF X.2.2.2.2.2.2.1 s_n (32)) (updF X.2.2.2.2.2.2.2.1 s_n (nnn)) (updF (updF X.2.2.2.2.2.2.2.2 s_n (zr (X.2.2.2.2.2.2.2.2 s_n) (i))) s_n (upd ((updF X.2.2.2.2.2.2.2.2 s_n (zr (X.2.2.2.2.2.2.2.2 s_n) (i))) s_n) i (nI (0))))) kr q0 q1 q2 q3 q4 q5 iw kn y0 y1 y2 y3 y4 y5 y6) H := va_P.re (wN_sn ci am (toH X (updF X.2.2.2.2.2.2.1 s_n (32)) (updF X.2.2.2.2.2.2.2.1 s_n (nnn)) (updF X.2.2.2.2.2.2.2.2 s_n (zr (X.2.2.2.2.2.2.2.2 s_n) (i)))) kr q0 q1 q2 q3 q4 q5 iw kn y0 y1 y2 y3 y4 y5 y6 (nI (0)) s_n i (by omega)) hP
                      have hD : va_D (aM am) (wN ci am (toH (toH X (updF X.2.2.2.2.2.2.1 s_n (32)) (updF X.2.2.2.2.2.2.2.1 s_n (nnn)) (updF X.2.2.2.2.2.2.2.2 s_n (zr (X.2.2.2.2.2.2.2.2 s_n) (i)))) (updF X.2.2.2.2.2.2.1 s_n (32)) (updF X.2.2.2.2.2.2.2.1 s_n (nnn)) (updF (updF X.2.2.2.2.2.2.2.2 s_n (zr (X.2.2.2.2.2.2.2.2 s_n) (i))) s_n (upd ((updF X.2.2.2.2.2.2.2.2 s_n (zr (X.2.2.2.2.2.2.2.2 s_n) (i))) s_n) i (nI (0))))) kr q0 q1 q2 q3 q4 q5 iw kn y0 y1 y2 y3 y4 y5 y6) := wN_D hI
                      refine nv_iinc1 (lv' := [(4, .int (nI (i + 1))), (0, .ref (am 0)), (1, .int (nI s_n)), (2, .int (nI 32)), (3, .int (nI nnn))]) hx hb dX4_sheet_106 hl (k := 0) rfl (by decide) rfl (fun ls hl => ?_)
                      refine lv_goto (tgt := 86) hx hb dX4_sheet_109 (by decide) ?_
                      exact ih86 (i + 1) (by omega) (by omega) (nI (i + 1)) rfl _ _ (va_P.re (by rw [updF_s, zr_s, updF_u]; rfl) hP) hS ls (lv_sub hl [0, 1, 2, 3, 4] rfl)
                exact L86 _ (0) (Nat.lt_succ_self _) (by omega) (nI (0)) rfl _ _ (va_P.re (by rw [zr_0, updF_self]; rfl) hP) hS ls (lv_sub hl [0, 1, 2, 3, 4] rfl)
              · have i35 : inN nn 41 = false := in_f3 (by omega) c31
                refine lv_aload_n hx hb dX4_sheet_54 rfl (lv_at hl 0 rfl) ?_
                refine lv_ldc (v := -1000001) hx hb hown (hts (.constant RX4 72 (-1000001)) (List.mem_of_getElem? (i := 1) rfl)) dX4_sheet_55 ?_
                refine mu_V (n := 1) (As := [.int (-1000001)]) (rest := []) ⟨hx, hb, hml, hown, hts⟩ (c_X4_finding l D ci am X kr q0 q1 q2 q3 q4 q5 iw kn y0 y1 y2 y3 y4 y5 y6 hI (-1000001) (0) (by omega) (by decide)) gX4_sheet_X4_finding rfl ⟨rfl, rfl⟩ (by decide +kernel) rfl ⟨Nat.le_of_ble_eq_true rfl, Nat.le_of_ble_eq_true rfl⟩ hE trivial hK hP (ci := 4) (q0 := 0) rfl rfl hl.1 rfl (Nat.le_of_ble_eq_true rfl) dX4_sheet_57 ⟨Nat.zero_le _, Nat.zero_le _⟩ hS (fun _ h => h) (fun H1 locs hz hfr hB hS => ?_)
                have hP := hB
                have hP : va_P D vwCl (wN ci am (toF X (inc X.2.2.2.1 0)) kr q0 q1 q2 q3 q4 q5 iw kn y0 y1 y2 y3 y4 y5 y6) H1 := hP
                generalize H1 = H at hP hS ⊢
                have hD : va_D (aM am) (wN ci am (toF X (inc X.2.2.2.1 0)) kr q0 q1 q2 q3 q4 q5 iw kn y0 y1 y2 y3 y4 y5 y6) := wN_D hI
                have hp : p_sheet X (nI s_n) (nI 32) nn = (fnd 0, toF X (inc X.2.2.2.1 0)) := by first | (simp [p_sheet, bk, fl_eq, updF_s, c1, c4, c13, c21, Nat.lt_irrefl, c30, c31, t_s_n, d12, t_bt, i35]; done)
                refine nv_cv (show fnd 0 = (p_sheet X (nI s_n) (nI 32) nn).1 from by rw [hp]) ?_
                exact mu_iret hx hb hr hlocks hS ((by rw [hp]; exact ⟨_, _, _, _, _, _, _, _, _, _, _, _, _, _, _, hkr, hP⟩)) dX4_sheet_60
            · have i36 : ∀ u9, inN nn u9 = false := fun u9 => in_f0 (Int32.not_le.mp c30)
              refine lv_aload_n hx hb dX4_sheet_40 rfl (lv_at hl 0 rfl) ?_
              refine lv_ldcw (v := -1000007) hx hb hown (hts (.constant RX4 330 (-1000007)) (List.mem_of_getElem? (i := 2) rfl)) dX4_sheet_41 ?_
              refine mu_V (n := 1) (As := [.int (-1000007)]) (rest := []) ⟨hx, hb, hml, hown, hts⟩ (c_X4_finding l D ci am X kr q0 q1 q2 q3 q4 q5 iw kn y0 y1 y2 y3 y4 y5 y6 hI (-1000007) (6) (by omega) (by decide)) gX4_sheet_X4_finding rfl ⟨rfl, rfl⟩ (by decide +kernel) rfl ⟨Nat.le_of_ble_eq_true rfl, Nat.le_of_ble_eq_true rfl⟩ hE trivial hK hP (ci := 4) (q0 := 0) rfl rfl hl.1 rfl (Nat.le_of_ble_eq_true rfl) dX4_sheet_44 ⟨Nat.zero_le _, Nat.zero_le _⟩ hS (fun _ h => h) (fun H1 locs hz hfr hB hS => ?_)
              have hP := hB
              have hP : va_P D vwCl (wN ci am (toF X (inc X.2.2.2.1 6)) kr q0 q1 q2 q3 q4 q5 iw kn y0 y1 y2 y3 y4 y5 y6) H1 := hP
              generalize H1 = H at hP hS ⊢
              have hD : va_D (aM am) (wN ci am (toF X (inc X.2.2.2.1 6)) kr q0 q1 q2 q3 q4 q5 iw kn y0 y1 y2 y3 y4 y5 y6) := wN_D hI
              have hp : p_sheet X (nI s_n) (nI 32) nn = (fnd 6, toF X (inc X.2.2.2.1 6)) := by first | (simp [p_sheet, bk, fl_eq, updF_s, c1, c4, c13, c21, Nat.lt_irrefl, c30, t_s_n, d12, t_bt, i36]; done)
              refine nv_cv (show fnd 6 = (p_sheet X (nI s_n) (nI 32) nn).1 from by rw [hp]) ?_
              exact mu_iret hx hb hr hlocks hS ((by rw [hp]; exact ⟨_, _, _, _, _, _, _, _, _, _, _, _, _, _, _, hkr, hP⟩)) dX4_sheet_47
          · refine lv_aload_n hx hb dX4_sheet_29 rfl (lv_at hl 0 rfl) ?_
            refine lv_ldc (v := -1000001) hx hb hown (hts (.constant RX4 72 (-1000001)) (List.mem_of_getElem? (i := 1) rfl)) dX4_sheet_30 ?_
            refine mu_V (n := 1) (As := [.int (-1000001)]) (rest := []) ⟨hx, hb, hml, hown, hts⟩ (c_X4_finding l D ci am X kr q0 q1 q2 q3 q4 q5 iw kn y0 y1 y2 y3 y4 y5 y6 hI (-1000001) (0) (by omega) (by decide)) gX4_sheet_X4_finding rfl ⟨rfl, rfl⟩ (by decide +kernel) rfl ⟨Nat.le_of_ble_eq_true rfl, Nat.le_of_ble_eq_true rfl⟩ hE trivial hK hP (ci := 4) (q0 := 0) rfl rfl hl.1 rfl (Nat.le_of_ble_eq_true rfl) dX4_sheet_32 ⟨Nat.zero_le _, Nat.zero_le _⟩ hS (fun _ h => h) (fun H1 locs hz hfr hB hS => ?_)
            have hP := hB
            have hP : va_P D vwCl (wN ci am (toF X (inc X.2.2.2.1 0)) kr q0 q1 q2 q3 q4 q5 iw kn y0 y1 y2 y3 y4 y5 y6) H1 := hP
            generalize H1 = H at hP hS ⊢
            have hD : va_D (aM am) (wN ci am (toF X (inc X.2.2.2.1 0)) kr q0 q1 q2 q3 q4 q5 iw kn y0 y1 y2 y3 y4 y5 y6) := wN_D hI
            have hp : p_sheet X (nI s_n) bt nn = (fnd 0, toF X (inc X.2.2.2.1 0)) := by first | (simp [p_sheet, bk, fl_eq, updF_s, c1, c4, c13, c21, c29, t_s_n, d12]; done)
            refine nv_cv (show fnd 0 = (p_sheet X (nI s_n) bt nn).1 from by rw [hp]) ?_
            exact mu_iret hx hb hr hlocks hS ((by rw [hp]; exact ⟨_, _, _, _, _, _, _, _, _, _, _, _, _, _, _, hkr, hP⟩)) dX4_sheet_35

set_option maxHeartbeats 4000000 in
set_option maxRecDepth 100000 in
/-- X4_write -/
theorem c_X4_write (l : Launch) (D : va_G) (ci : Nat → ClassId) (am : Nat → Nat) (X : AS) (kr : Nat → Int32) (q0 q1 q2 q3 q4 q5 : Int32) (iw : Bool) (kn : Nat → Option Nat) (y0 y1 y2 y3 y4 y5 y6 : Nat → Int32) (hI : injA am 16) (s_ i_ v : Int32) (hWX : WFX X) (hkr : kOK X kr) : Met l yX4_write wsX4_write ({ frames := 2, cells := 0, slots := 0, locals := 42 } : Room) (va_Pc [.ref (am 0), .int (s_), .int (i_), .int (v)] (ro_B D (tyL ci) (wN ci am X kr q0 q1 q2 q3 q4 q5 iw kn y0 y1 y2 y3 y4 y5 y6) (enT))) (mu_Q (aM am) (some (.int ((p_write X s_ i_ v).1))) (fun H => ∃ (kr : Nat → Int32) (q0 : Int32) (q1 : Int32) (q2 : Int32) (q3 : Int32) (q4 : Int32) (q5 : Int32) (iw : Bool) (y0 : Nat → Int32) (y1 : Nat → Int32) (y2 : Nat → Int32) (y3 : Nat → Int32) (y4 : Nat → Int32) (y5 : Nat → Int32) (y6 : Nat → Int32), kOK (p_write X s_ i_ v).2 kr ∧ va_P D vwCl (wN ci am ((p_write X s_ i_ v).2) kr q0 q1 q2 q3 q4 q5 iw kn y0 y1 y2 y3 y4 y5 y6) H)) 0 0 (aM am) := by
  refine mu_Met (cc := cX4_write) (maxL := 4) (ret := (some .int)) [(0, .ref (am 0)), (1, .int (s_)), (2, .int (i_)), (3, .int (v))] (wN_D hI) (by decide) rfl (Nat.le_of_ble_eq_true rfl) rfl ?_
  intro p e s m below meth c H locs hx hb hml hr hlocks hts hown hP hK hs0 hD hS ls hl
  have hown : s.vm.findClass RX4 = some m.cls := hown
  have hinX4 : ∀ w ∈ wsX40, w ∈ wsX4_write := by decide +kernel
  have hE := hE_T
  have hWF := hWX.w
  have f_n := hWF.n
  have f_e := hWX.e
  have f_tl := hWX.t
  refine lv_iload_n hx hb dX4_write_0 rfl (lv_at hl 1 rfl) ?_
  refine ro_S (n := 1) (As := [.int (s_)]) (rest := []) ⟨hx, hb, hml, hown, hts⟩ (c_X4_isSheet l D ci (wN ci am X kr q0 q1 q2 q3 q4 q5 iw kn y0 y1 y2 y3 y4 y5 y6) (s_) ) gX4_write_X4_isSheet rfl ⟨rfl, rfl⟩ (by decide +kernel) rfl ⟨Nat.le_of_ble_eq_true rfl, Nat.le_of_ble_eq_true rfl⟩ hE trivial hK hP hl.1 rfl (Nat.le_of_ble_eq_true rfl) dX4_write_1 ⟨Nat.zero_le _, Nat.zero_le _⟩ ?_
  refine nv_ifne_b (tgt := 14) hx hb dX4_write_4 (by decide) (fun c1 => ?_) (fun c1 => ?_)
  · obtain ⟨s_n, h_s_n, rfl⟩ := in_ex c1 (by omega)
    have t_s_n : tn (nI s_n) = s_n := tn_nI (by omega)
    have f2 := hWX.sl s_n
    have f3 := sb_lt hWX s_n
    refine lv_aload_n hx hb dX4_write_14 rfl (lv_at hl 0 rfl) ?_
    refine va_get (D := D) (ci := 4) (v := .ref (am 12)) (C := RX4) (T := TX4) (N := 24) hx hb hts hinX4 hown hK hP 0 rfl rfl 20 (by decide) (hts (.fieldLink RX4 60 "OneShortModel" "widths" "[I") (List.mem_of_getElem? (i := 2) rfl)) (fun _ h9 => h9) rfl dX4_write_15 ?_
    refine lv_iload_n hx hb dX4_write_18 rfl (lv_at hl 1 rfl) ?_
    refine nv_iald (v := nI (X.2.2.2.2.2.2.1 (s_n))) hx hb hK hP 12 0 rfl rfl (by omega) (by decide) rfl dX4_write_19 ?_
    refine nv_ifne (tgt := 30) hx hb (by omega) dX4_write_20 (by decide) (fun c4 => ?_) (fun c4 => ?_)
    · refine lv_iload_n hx hb dX4_write_30 rfl (lv_at hl 2 rfl) ?_
      refine lv_iconst (v := nI (0)) hx hb dX4_write_31 (by decide) ?_
      refine lv_aload_n hx hb dX4_write_32 rfl (lv_at hl 0 rfl) ?_
      refine va_get (D := D) (ci := 4) (v := .ref (am 13)) (C := RX4) (T := TX4) (N := 24) hx hb hts hinX4 hown hK hP 0 rfl rfl 21 (by decide) (hts (.fieldLink RX4 63 "OneShortModel" "sizes" "[I") (List.mem_of_getElem? (i := 4) rfl)) (fun _ h9 => h9) rfl dX4_write_33 ?_
      refine lv_iload_n hx hb dX4_write_36 rfl (lv_at hl 1 rfl) ?_
      refine nv_iald (v := nI (X.2.2.2.2.2.2.2.1 (s_n))) hx hb hK hP 13 0 rfl rfl (by omega) (by decide) rfl dX4_write_37 ?_
      refine lv_iconst (v := nI (1)) hx hb dX4_write_38 (by decide) ?_
      refine lv_isub hx hb dX4_write_39 ?_
      refine ro_S (n := 3) (As := [.int (i_), .int (nI 0), .int (nI (X.2.2.2.2.2.2.2.1 (s_n)) - nI (1))]) (rest := []) ⟨hx, hb, hml, hown, hts⟩ (c_X4_within l D ci (wN ci am X kr q0 q1 q2 q3 q4 q5 iw kn y0 y1 y2 y3 y4 y5 y6) (i_) (nI (0)) (nI (X.2.2.2.2.2.2.2.1 (s_n)) - nI (1)) ) gX4_write_X4_within rfl ⟨rfl, rfl⟩ (by decide +kernel) rfl ⟨Nat.le_of_ble_eq_true rfl, Nat.le_of_ble_eq_true rfl⟩ hE trivial hK hP hl.1 rfl (Nat.le_of_ble_eq_true rfl) dX4_write_40 ⟨Nat.zero_le _, Nat.zero_le _⟩ ?_
      refine nv_cv (congrArg bI (wth_n i_ (by omega))) ?_
      refine nv_ifne_b (tgt := 53) hx hb dX4_write_43 (by decide) (fun c5 => ?_) (fun c5 => ?_)
      · obtain ⟨i_n, h_i_n, rfl⟩ := in_ex c5 (by omega)
        have t_i_n : tn (nI i_n) = i_n := tn_nI (by omega)
        refine lv_aload_n hx hb dX4_write_53 rfl (lv_at hl 0 rfl) ?_
        refine va_get (D := D) (ci := 4) (v := .ref (am 14)) (C := RX4) (T := TX4) (N := 24) hx hb hts hinX4 hown hK hP 0 rfl rfl 22 (by decide) (hts (.fieldLink RX4 66 "OneShortModel" "numbers" "[I") (List.mem_of_getElem? (i := 5) rfl)) (fun _ h9 => h9) rfl dX4_write_54 ?_
        refine lv_bipush (v := nI (40)) hx hb dX4_write_57 (by decide) ?_
        refine lv_iload_n hx hb dX4_write_59 rfl (lv_at hl 1 rfl) ?_
        refine nv_imul hx hb dX4_write_60 ?_
        refine lv_iload_n hx hb dX4_write_61 rfl (lv_at hl 2 rfl) ?_
        refine nv_iadd hx hb dX4_write_62 ?_
        refine lv_iload_n hx hb dX4_write_63 rfl (lv_at hl 3 rfl) ?_
        refine lv_aload_n hx hb dX4_write_64 rfl (lv_at hl 0 rfl) ?_
        refine va_get (D := D) (ci := 4) (v := .ref (am 12)) (C := RX4) (T := TX4) (N := 24) hx hb hts hinX4 hown hK hP 0 rfl rfl 20 (by decide) (hts (.fieldLink RX4 60 "OneShortModel" "widths" "[I") (List.mem_of_getElem? (i := 2) rfl)) (fun _ h9 => h9) rfl dX4_write_65 ?_
        refine lv_iload_n hx hb dX4_write_68 rfl (lv_at hl 1 rfl) ?_
        refine nv_iald (v := nI (X.2.2.2.2.2.2.1 (s_n))) hx hb hK hP 12 0 rfl rfl (by omega) (by decide) rfl dX4_write_69 ?_
        refine ro_S (n := 2) (As := [.int (v), .int (nI (X.2.2.2.2.2.2.1 (s_n)))]) (rest := [.int (nI (((40 * s_n) + i_n))), .ref (am 14)]) ⟨hx, hb, hml, hown, hts⟩ (c_X4_cutTo l D ci (wN ci am X kr q0 q1 q2 q3 q4 q5 iw kn y0 y1 y2 y3 y4 y5 y6) (v) (X.2.2.2.2.2.2.1 (s_n)) (by omega)) gX4_write_X4_cutTo rfl ⟨rfl, rfl⟩ (by decide +kernel) rfl ⟨Nat.le_of_ble_eq_true rfl, Nat.le_of_ble_eq_true rfl⟩ hE trivial hK hP hl.1 rfl (Nat.le_of_ble_eq_true rfl) dX4_write_70 ⟨Nat.zero_le _, Nat.zero_le _⟩ ?_
        refine nv_iast hx hb hK hP hD hS 14 0 rfl rfl (by omega) (by decide) dX4_write_73 (fun H locs hP hD hS => ?_)
        have hP : va_P D vwCl (wN ci am (toH X X.2.2.2.2.2.2.1 X.2.2.2.2.2.2.2.1 (updF X.2.2.2.2.2.2.2.2 s_n (upd (X.2.2.2.2.2.2.2.2 s_n) i_n (cutN (X.2.2.2.2.2.2.1 (s_n)) v)))) kr q0 q1 q2 q3 q4 q5 iw kn y0 y1 y2 y3 y4 y5 y6) H := va_P.re (wN_sn ci am X kr q0 q1 q2 q3 q4 q5 iw kn y0 y1 y2 y3 y4 y5 y6 (cutN (X.2.2.2.2.2.2.1 (s_n)) v) s_n i_n (by omega)) hP
        have hD : va_D (aM am) (wN ci am (toH X X.2.2.2.2.2.2.1 X.2.2.2.2.2.2.2.1 (updF X.2.2.2.2.2.2.2.2 s_n (upd (X.2.2.2.2.2.2.2.2 s_n) i_n (cutN (X.2.2.2.2.2.2.1 (s_n)) v)))) kr q0 q1 q2 q3 q4 q5 iw kn y0 y1 y2 y3 y4 y5 y6) := wN_D hI
        refine lv_iconst (v := nI (1)) hx hb dX4_write_74 (by decide) ?_
        have hp : p_write X (nI s_n) (nI i_n) v = (nI (1), toH X X.2.2.2.2.2.2.1 X.2.2.2.2.2.2.2.1 (updF X.2.2.2.2.2.2.2.2 s_n (upd (X.2.2.2.2.2.2.2.2 s_n) i_n (cutN (X.2.2.2.2.2.2.1 (s_n)) v)))) := by first | (simp [p_write, lackN, bk, fl_eq, updF_self, c1, c4, c5, t_s_n, t_i_n]; done)
        refine nv_cv (show nI (1) = (p_write X (nI s_n) (nI i_n) v).1 from by rw [hp]) ?_
        exact mu_iret hx hb hr hlocks hS ((by rw [hp]; exact ⟨_, _, _, _, _, _, _, _, _, _, _, _, _, _, _, hkr, hP⟩)) dX4_write_75
      · refine lv_aload_n hx hb dX4_write_46 rfl (lv_at hl 0 rfl) ?_
        refine lv_ldc (v := -1000001) hx hb hown (hts (.constant RX4 72 (-1000001)) (List.mem_of_getElem? (i := 1) rfl)) dX4_write_47 ?_
        refine mu_V (n := 1) (As := [.int (-1000001)]) (rest := []) ⟨hx, hb, hml, hown, hts⟩ (c_X4_finding l D ci am X kr q0 q1 q2 q3 q4 q5 iw kn y0 y1 y2 y3 y4 y5 y6 hI (-1000001) (0) (by omega) (by decide)) gX4_write_X4_finding rfl ⟨rfl, rfl⟩ (by decide +kernel) rfl ⟨Nat.le_of_ble_eq_true rfl, Nat.le_of_ble_eq_true rfl⟩ hE trivial hK hP (ci := 4) (q0 := 0) rfl rfl hl.1 rfl (Nat.le_of_ble_eq_true rfl) dX4_write_49 ⟨Nat.zero_le _, Nat.zero_le _⟩ hS (fun _ h => h) (fun H1 locs hz hfr hB hS => ?_)
        have hP := hB
        have hP : va_P D vwCl (wN ci am (toF X (inc X.2.2.2.1 0)) kr q0 q1 q2 q3 q4 q5 iw kn y0 y1 y2 y3 y4 y5 y6) H1 := hP
        generalize H1 = H at hP hS ⊢
        have hD : va_D (aM am) (wN ci am (toF X (inc X.2.2.2.1 0)) kr q0 q1 q2 q3 q4 q5 iw kn y0 y1 y2 y3 y4 y5 y6) := wN_D hI
        have hp : p_write X (nI s_n) i_ v = (fnd 0, toF X (inc X.2.2.2.1 0)) := by first | (simp [p_write, lackN, bk, fl_eq, updF_self, c1, c4, c5, t_s_n]; done)
        refine nv_cv (show fnd 0 = (p_write X (nI s_n) i_ v).1 from by rw [hp]) ?_
        exact mu_iret hx hb hr hlocks hS ((by rw [hp]; exact ⟨_, _, _, _, _, _, _, _, _, _, _, _, _, _, _, hkr, hP⟩)) dX4_write_52
    · refine lv_aload_n hx hb dX4_write_23 rfl (lv_at hl 0 rfl) ?_
      refine lv_ldc (v := -1000006) hx hb hown (hts (.constant RX4 232 (-1000006)) (List.mem_of_getElem? (i := 3) rfl)) dX4_write_24 ?_
      refine mu_V (n := 1) (As := [.int (-1000006)]) (rest := []) ⟨hx, hb, hml, hown, hts⟩ (c_X4_finding l D ci am X kr q0 q1 q2 q3 q4 q5 iw kn y0 y1 y2 y3 y4 y5 y6 hI (-1000006) (5) (by omega) (by decide)) gX4_write_X4_finding rfl ⟨rfl, rfl⟩ (by decide +kernel) rfl ⟨Nat.le_of_ble_eq_true rfl, Nat.le_of_ble_eq_true rfl⟩ hE trivial hK hP (ci := 4) (q0 := 0) rfl rfl hl.1 rfl (Nat.le_of_ble_eq_true rfl) dX4_write_26 ⟨Nat.zero_le _, Nat.zero_le _⟩ hS (fun _ h => h) (fun H1 locs hz hfr hB hS => ?_)
      have hP := hB
      have hP : va_P D vwCl (wN ci am (toF X (inc X.2.2.2.1 5)) kr q0 q1 q2 q3 q4 q5 iw kn y0 y1 y2 y3 y4 y5 y6) H1 := hP
      generalize H1 = H at hP hS ⊢
      have hD : va_D (aM am) (wN ci am (toF X (inc X.2.2.2.1 5)) kr q0 q1 q2 q3 q4 q5 iw kn y0 y1 y2 y3 y4 y5 y6) := wN_D hI
      have hp : p_write X (nI s_n) i_ v = (fnd 5, toF X (inc X.2.2.2.1 5)) := by first | (simp [p_write, lackN, bk, fl_eq, updF_self, c1, c4, t_s_n]; done)
      refine nv_cv (show fnd 5 = (p_write X (nI s_n) i_ v).1 from by rw [hp]) ?_
      exact mu_iret hx hb hr hlocks hS ((by rw [hp]; exact ⟨_, _, _, _, _, _, _, _, _, _, _, _, _, _, _, hkr, hP⟩)) dX4_write_29
  · refine lv_aload_n hx hb dX4_write_7 rfl (lv_at hl 0 rfl) ?_
    refine lv_ldc (v := -1000001) hx hb hown (hts (.constant RX4 72 (-1000001)) (List.mem_of_getElem? (i := 1) rfl)) dX4_write_8 ?_
    refine mu_V (n := 1) (As := [.int (-1000001)]) (rest := []) ⟨hx, hb, hml, hown, hts⟩ (c_X4_finding l D ci am X kr q0 q1 q2 q3 q4 q5 iw kn y0 y1 y2 y3 y4 y5 y6 hI (-1000001) (0) (by omega) (by decide)) gX4_write_X4_finding rfl ⟨rfl, rfl⟩ (by decide +kernel) rfl ⟨Nat.le_of_ble_eq_true rfl, Nat.le_of_ble_eq_true rfl⟩ hE trivial hK hP (ci := 4) (q0 := 0) rfl rfl hl.1 rfl (Nat.le_of_ble_eq_true rfl) dX4_write_10 ⟨Nat.zero_le _, Nat.zero_le _⟩ hS (fun _ h => h) (fun H1 locs hz hfr hB hS => ?_)
    have hP := hB
    have hP : va_P D vwCl (wN ci am (toF X (inc X.2.2.2.1 0)) kr q0 q1 q2 q3 q4 q5 iw kn y0 y1 y2 y3 y4 y5 y6) H1 := hP
    generalize H1 = H at hP hS ⊢
    have hD : va_D (aM am) (wN ci am (toF X (inc X.2.2.2.1 0)) kr q0 q1 q2 q3 q4 q5 iw kn y0 y1 y2 y3 y4 y5 y6) := wN_D hI
    have hp : p_write X s_ i_ v = (fnd 0, toF X (inc X.2.2.2.1 0)) := by first | (simp [p_write, lackN, bk, fl_eq, updF_self, c1]; done)
    refine nv_cv (show fnd 0 = (p_write X s_ i_ v).1 from by rw [hp]) ?_
    exact mu_iret hx hb hr hlocks hS ((by rw [hp]; exact ⟨_, _, _, _, _, _, _, _, _, _, _, _, _, _, _, hkr, hP⟩)) dX4_write_13

set_option maxHeartbeats 4000000 in
set_option maxRecDepth 100000 in
/-- X4_copy -/
theorem c_X4_copy (l : Launch) (D : va_G) (ci : Nat → ClassId) (am : Nat → Nat) (X : AS) (kr : Nat → Int32) (q0 q1 q2 q3 q4 q5 : Int32) (iw : Bool) (kn : Nat → Option Nat) (y0 y1 y2 y3 y4 y5 y6 : Nat → Int32) (hI : injA am 16) (s_ fr t_ to_ nn : Int32) (hWX : WFX X) (hkr : kOK X kr) : Met l yX4_copy wsX4_copy ({ frames := 2, cells := 0, slots := 0, locals := 42 } : Room) (va_Pc [.ref (am 0), .int (s_), .int (fr), .int (t_), .int (to_), .int (nn)] (ro_B D (tyL ci) (wN ci am X kr q0 q1 q2 q3 q4 q5 iw kn y0 y1 y2 y3 y4 y5 y6) (enT))) (mu_Q (aM am) (some (.int ((p_copy X s_ fr t_ to_ nn).1))) (fun H => ∃ (kr : Nat → Int32) (q0 : Int32) (q1 : Int32) (q2 : Int32) (q3 : Int32) (q4 : Int32) (q5 : Int32) (iw : Bool) (y0 : Nat → Int32) (y1 : Nat → Int32) (y2 : Nat → Int32) (y3 : Nat → Int32) (y4 : Nat → Int32) (y5 : Nat → Int32) (y6 : Nat → Int32), kOK (p_copy X s_ fr t_ to_ nn).2 kr ∧ va_P D vwCl (wN ci am ((p_copy X s_ fr t_ to_ nn).2) kr q0 q1 q2 q3 q4 q5 iw kn y0 y1 y2 y3 y4 y5 y6) H)) 0 0 (aM am) := by
  refine mu_Met (cc := cX4_copy) (maxL := 7) (ret := (some .int)) [(0, .ref (am 0)), (1, .int (s_)), (2, .int (fr)), (3, .int (t_)), (4, .int (to_)), (5, .int (nn))] (wN_D hI) (by decide) rfl (Nat.le_of_ble_eq_true rfl) rfl ?_
  intro p e s m below meth c H locs hx hb hml hr hlocks hts hown hP hK hs0 hD hS ls hl
  have hown : s.vm.findClass RX4 = some m.cls := hown
  have hinX4 : ∀ w ∈ wsX40, w ∈ wsX4_copy := by decide +kernel
  have hE := hE_T
  have hWF := hWX.w
  have f_n := hWF.n
  have f_e := hWX.e
  have f_tl := hWX.t
  refine lv_iload_n hx hb dX4_copy_0 rfl (lv_at hl 1 rfl) ?_
  refine ro_S (n := 1) (As := [.int (s_)]) (rest := []) ⟨hx, hb, hml, hown, hts⟩ (c_X4_isSheet l D ci (wN ci am X kr q0 q1 q2 q3 q4 q5 iw kn y0 y1 y2 y3 y4 y5 y6) (s_) ) gX4_copy_X4_isSheet rfl ⟨rfl, rfl⟩ (by decide +kernel) rfl ⟨Nat.le_of_ble_eq_true rfl, Nat.le_of_ble_eq_true rfl⟩ hE trivial hK hP hl.1 rfl (Nat.le_of_ble_eq_true rfl) dX4_copy_1 ⟨Nat.zero_le _, Nat.zero_le _⟩ ?_
  refine nv_ifeq_b (tgt := 14) hx hb dX4_copy_4 (by decide) (fun c1 => ?_) (fun c1 => ?_)
  · refine lv_aload_n hx hb dX4_copy_14 rfl (lv_at hl 0 rfl) ?_
    refine lv_ldc (v := -1000001) hx hb hown (hts (.constant RX4 72 (-1000001)) (List.mem_of_getElem? (i := 1) rfl)) dX4_copy_15 ?_
    refine mu_V (n := 1) (As := [.int (-1000001)]) (rest := []) ⟨hx, hb, hml, hown, hts⟩ (c_X4_finding l D ci am X kr q0 q1 q2 q3 q4 q5 iw kn y0 y1 y2 y3 y4 y5 y6 hI (-1000001) (0) (by omega) (by decide)) gX4_copy_X4_finding rfl ⟨rfl, rfl⟩ (by decide +kernel) rfl ⟨Nat.le_of_ble_eq_true rfl, Nat.le_of_ble_eq_true rfl⟩ hE trivial hK hP (ci := 4) (q0 := 0) rfl rfl hl.1 rfl (Nat.le_of_ble_eq_true rfl) dX4_copy_17 ⟨Nat.zero_le _, Nat.zero_le _⟩ hS (fun _ h => h) (fun H1 locs hz hfr hB hS => ?_)
    have hP := hB
    have hP : va_P D vwCl (wN ci am (toF X (inc X.2.2.2.1 0)) kr q0 q1 q2 q3 q4 q5 iw kn y0 y1 y2 y3 y4 y5 y6) H1 := hP
    generalize H1 = H at hP hS ⊢
    have hD : va_D (aM am) (wN ci am (toF X (inc X.2.2.2.1 0)) kr q0 q1 q2 q3 q4 q5 iw kn y0 y1 y2 y3 y4 y5 y6) := wN_D hI
    have hp : p_copy X s_ fr t_ to_ nn = (fnd 0, toF X (inc X.2.2.2.1 0)) := by first | (simp [p_copy, bk, fl_eq, c1]; done)
    refine nv_cv (show fnd 0 = (p_copy X s_ fr t_ to_ nn).1 from by rw [hp]) ?_
    exact mu_iret hx hb hr hlocks hS ((by rw [hp]; exact ⟨_, _, _, _, _, _, _, _, _, _, _, _, _, _, _, hkr, hP⟩)) dX4_copy_20
  · obtain ⟨s_n, h_s_n, rfl⟩ := in_ex c1 (by omega)
    have t_s_n : tn (nI s_n) = s_n := tn_nI (by omega)
    have f2 := hWX.sl s_n
    have f3 := sb_lt hWX s_n
    refine lv_iload_n hx hb dX4_copy_7 rfl (lv_at hl 3 rfl) ?_
    refine ro_S (n := 1) (As := [.int (t_)]) (rest := []) ⟨hx, hb, hml, hown, hts⟩ (c_X4_isSheet l D ci (wN ci am X kr q0 q1 q2 q3 q4 q5 iw kn y0 y1 y2 y3 y4 y5 y6) (t_) ) gX4_copy_X4_isSheet rfl ⟨rfl, rfl⟩ (by decide +kernel) rfl ⟨Nat.le_of_ble_eq_true rfl, Nat.le_of_ble_eq_true rfl⟩ hE trivial hK hP hl.1 rfl (Nat.le_of_ble_eq_true rfl) dX4_copy_8 ⟨Nat.zero_le _, Nat.zero_le _⟩ ?_
    refine nv_ifne_b (tgt := 21) hx hb dX4_copy_11 (by decide) (fun c4 => ?_) (fun c4 => ?_)
    · obtain ⟨t_n, h_t_n, rfl⟩ := in_ex c4 (by omega)
      have t_t_n : tn (nI t_n) = t_n := tn_nI (by omega)
      have f5 := hWX.sl t_n
      have f6 := sb_lt hWX t_n
      refine lv_aload_n hx hb dX4_copy_21 rfl (lv_at hl 0 rfl) ?_
      refine va_get (D := D) (ci := 4) (v := .ref (am 12)) (C := RX4) (T := TX4) (N := 24) hx hb hts hinX4 hown hK hP 0 rfl rfl 20 (by decide) (hts (.fieldLink RX4 60 "OneShortModel" "widths" "[I") (List.mem_of_getElem? (i := 2) rfl)) (fun _ h9 => h9) rfl dX4_copy_22 ?_
      refine lv_iload_n hx hb dX4_copy_25 rfl (lv_at hl 1 rfl) ?_
      refine nv_iald (v := nI (X.2.2.2.2.2.2.1 (s_n))) hx hb hK hP 12 0 rfl rfl (by omega) (by decide) rfl dX4_copy_26 ?_
      refine nv_ifeq (tgt := 39) hx hb (by omega) dX4_copy_27 (by decide) (fun c7 => ?_) (fun c7 => ?_)
      · refine lv_aload_n hx hb dX4_copy_39 rfl (lv_at hl 0 rfl) ?_
        refine lv_ldc (v := -1000006) hx hb hown (hts (.constant RX4 232 (-1000006)) (List.mem_of_getElem? (i := 3) rfl)) dX4_copy_40 ?_
        refine mu_V (n := 1) (As := [.int (-1000006)]) (rest := []) ⟨hx, hb, hml, hown, hts⟩ (c_X4_finding l D ci am X kr q0 q1 q2 q3 q4 q5 iw kn y0 y1 y2 y3 y4 y5 y6 hI (-1000006) (5) (by omega) (by decide)) gX4_copy_X4_finding rfl ⟨rfl, rfl⟩ (by decide +kernel) rfl ⟨Nat.le_of_ble_eq_true rfl, Nat.le_of_ble_eq_true rfl⟩ hE trivial hK hP (ci := 4) (q0 := 0) rfl rfl hl.1 rfl (Nat.le_of_ble_eq_true rfl) dX4_copy_42 ⟨Nat.zero_le _, Nat.zero_le _⟩ hS (fun _ h => h) (fun H1 locs hz hfr hB hS => ?_)
        have hP := hB
        have hP : va_P D vwCl (wN ci am (toF X (inc X.2.2.2.1 5)) kr q0 q1 q2 q3 q4 q5 iw kn y0 y1 y2 y3 y4 y5 y6) H1 := hP
        generalize H1 = H at hP hS ⊢
        have hD : va_D (aM am) (wN ci am (toF X (inc X.2.2.2.1 5)) kr q0 q1 q2 q3 q4 q5 iw kn y0 y1 y2 y3 y4 y5 y6) := wN_D hI
        have hp : p_copy X (nI s_n) fr (nI t_n) to_ nn = (fnd 5, toF X (inc X.2.2.2.1 5)) := by first | (simp [p_copy, bk, fl_eq, c1, c4, c7, t_s_n, t_t_n]; done)
        refine nv_cv (show fnd 5 = (p_copy X (nI s_n) fr (nI t_n) to_ nn).1 from by rw [hp]) ?_
        exact mu_iret hx hb hr hlocks hS ((by rw [hp]; exact ⟨_, _, _, _, _, _, _, _, _, _, _, _, _, _, _, hkr, hP⟩)) dX4_copy_45
      · refine lv_aload_n hx hb dX4_copy_30 rfl (lv_at hl 0 rfl) ?_
        refine va_get (D := D) (ci := 4) (v := .ref (am 12)) (C := RX4) (T := TX4) (N := 24) hx hb hts hinX4 hown hK hP 0 rfl rfl 20 (by decide) (hts (.fieldLink RX4 60 "OneShortModel" "widths" "[I") (List.mem_of_getElem? (i := 2) rfl)) (fun _ h9 => h9) rfl dX4_copy_31 ?_
        refine lv_iload_n hx hb dX4_copy_34 rfl (lv_at hl 3 rfl) ?_
        refine nv_iald (v := nI (X.2.2.2.2.2.2.1 (t_n))) hx hb hK hP 12 0 rfl rfl (by omega) (by decide) rfl dX4_copy_35 ?_
        refine nv_ifne (tgt := 46) hx hb (by omega) dX4_copy_36 (by decide) (fun c8 => ?_) (fun c8 => ?_)
        · refine lv_aload_n hx hb dX4_copy_46 rfl (lv_at hl 0 rfl) ?_
          refine va_get (D := D) (ci := 4) (v := .ref (am 12)) (C := RX4) (T := TX4) (N := 24) hx hb hts hinX4 hown hK hP 0 rfl rfl 20 (by decide) (hts (.fieldLink RX4 60 "OneShortModel" "widths" "[I") (List.mem_of_getElem? (i := 2) rfl)) (fun _ h9 => h9) rfl dX4_copy_47 ?_
          refine lv_iload_n hx hb dX4_copy_50 rfl (lv_at hl 1 rfl) ?_
          refine nv_iald (v := nI (X.2.2.2.2.2.2.1 (s_n))) hx hb hK hP 12 0 rfl rfl (by omega) (by decide) rfl dX4_copy_51 ?_
          refine lv_aload_n hx hb dX4_copy_52 rfl (lv_at hl 0 rfl) ?_
          refine va_get (D := D) (ci := 4) (v := .ref (am 12)) (C := RX4) (T := TX4) (N := 24) hx hb hts hinX4 hown hK hP 0 rfl rfl 20 (by decide) (hts (.fieldLink RX4 60 "OneShortModel" "widths" "[I") (List.mem_of_getElem? (i := 2) rfl)) (fun _ h9 => h9) rfl dX4_copy_53 ?_
          refine lv_iload_n hx hb dX4_copy_56 rfl (lv_at hl 3 rfl) ?_
          refine nv_iald (v := nI (X.2.2.2.2.2.2.1 (t_n))) hx hb hK hP 12 0 rfl rfl (by omega) (by decide) rfl dX4_copy_57 ?_
          refine nv_icmp_eq (tgt := 69) hx hb (by omega) (by omega) dX4_copy_58 (by decide) (fun c9 => ?_) (fun c9 => ?_)
          · refine lv_iload_n hx hb dX4_copy_69 rfl (lv_at hl 2 rfl) ?_
            refine lv_if_lt (tgt := 118) hx hb dX4_copy_70 (by decide) (fun c10 => ?_) (fun c10 => ?_)
            · have hr1 := (hasR_a c10 (X.2.2.2.2.2.2.2.1 s_n) nn)
              refine lv_aload_n hx hb dX4_copy_118 rfl (lv_at hl 0 rfl) ?_
              refine lv_ldc (v := -1000001) hx hb hown (hts (.constant RX4 72 (-1000001)) (List.mem_of_getElem? (i := 1) rfl)) dX4_copy_119 ?_
              refine mu_V (n := 1) (As := [.int (-1000001)]) (rest := []) ⟨hx, hb, hml, hown, hts⟩ (c_X4_finding l D ci am X kr q0 q1 q2 q3 q4 q5 iw kn y0 y1 y2 y3 y4 y5 y6 hI (-1000001) (0) (by omega) (by decide)) gX4_copy_X4_finding rfl ⟨rfl, rfl⟩ (by decide +kernel) rfl ⟨Nat.le_of_ble_eq_true rfl, Nat.le_of_ble_eq_true rfl⟩ hE trivial hK hP (ci := 4) (q0 := 0) rfl rfl hl.1 rfl (Nat.le_of_ble_eq_true rfl) dX4_copy_121 ⟨Nat.zero_le _, Nat.zero_le _⟩ hS (fun _ h => h) (fun H1 locs hz hfr hB hS => ?_)
              have hP := hB
              have hP : va_P D vwCl (wN ci am (toF X (inc X.2.2.2.1 0)) kr q0 q1 q2 q3 q4 q5 iw kn y0 y1 y2 y3 y4 y5 y6) H1 := hP
              generalize H1 = H at hP hS ⊢
              have hD : va_D (aM am) (wN ci am (toF X (inc X.2.2.2.1 0)) kr q0 q1 q2 q3 q4 q5 iw kn y0 y1 y2 y3 y4 y5 y6) := wN_D hI
              have hp : p_copy X (nI s_n) fr (nI t_n) to_ nn = (fnd 0, toF X (inc X.2.2.2.1 0)) := by first | (simp [p_copy, bk, fl_eq, c1, c4, c7, c8, c9, c10, t_s_n, t_t_n, hr1]; done)
              refine nv_cv (show fnd 0 = (p_copy X (nI s_n) fr (nI t_n) to_ nn).1 from by rw [hp]) ?_
              exact mu_iret hx hb hr hlocks hS ((by rw [hp]; exact ⟨_, _, _, _, _, _, _, _, _, _, _, _, _, _, _, hkr, hP⟩)) dX4_copy_124
            · refine lv_iload hx hb dX4_copy_73 (lv_at hl 4 rfl) ?_
              refine lv_if_lt (tgt := 118) hx hb dX4_copy_75 (by decide) (fun c11 => ?_) (fun c11 => ?_)
              · have hr2 := (hasR_a c11 (X.2.2.2.2.2.2.2.1 t_n) nn)
                refine lv_aload_n hx hb dX4_copy_118 rfl (lv_at hl 0 rfl) ?_
                refine lv_ldc (v := -1000001) hx hb hown (hts (.constant RX4 72 (-1000001)) (List.mem_of_getElem? (i := 1) rfl)) dX4_copy_119 ?_
                refine mu_V (n := 1) (As := [.int (-1000001)]) (rest := []) ⟨hx, hb, hml, hown, hts⟩ (c_X4_finding l D ci am X kr q0 q1 q2 q3 q4 q5 iw kn y0 y1 y2 y3 y4 y5 y6 hI (-1000001) (0) (by omega) (by decide)) gX4_copy_X4_finding rfl ⟨rfl, rfl⟩ (by decide +kernel) rfl ⟨Nat.le_of_ble_eq_true rfl, Nat.le_of_ble_eq_true rfl⟩ hE trivial hK hP (ci := 4) (q0 := 0) rfl rfl hl.1 rfl (Nat.le_of_ble_eq_true rfl) dX4_copy_121 ⟨Nat.zero_le _, Nat.zero_le _⟩ hS (fun _ h => h) (fun H1 locs hz hfr hB hS => ?_)
                have hP := hB
                have hP : va_P D vwCl (wN ci am (toF X (inc X.2.2.2.1 0)) kr q0 q1 q2 q3 q4 q5 iw kn y0 y1 y2 y3 y4 y5 y6) H1 := hP
                generalize H1 = H at hP hS ⊢
                have hD : va_D (aM am) (wN ci am (toF X (inc X.2.2.2.1 0)) kr q0 q1 q2 q3 q4 q5 iw kn y0 y1 y2 y3 y4 y5 y6) := wN_D hI
                have hp : p_copy X (nI s_n) fr (nI t_n) to_ nn = (fnd 0, toF X (inc X.2.2.2.1 0)) := by first | (simp [p_copy, bk, fl_eq, c1, c4, c7, c8, c9, c10, c11, t_s_n, t_t_n, hr2]; done)
                refine nv_cv (show fnd 0 = (p_copy X (nI s_n) fr (nI t_n) to_ nn).1 from by rw [hp]) ?_
                exact mu_iret hx hb hr hlocks hS ((by rw [hp]; exact ⟨_, _, _, _, _, _, _, _, _, _, _, _, _, _, _, hkr, hP⟩)) dX4_copy_124
              · refine lv_iload hx hb dX4_copy_78 (lv_at hl 5 rfl) ?_
                refine lv_if_lt (tgt := 118) hx hb dX4_copy_80 (by decide) (fun c12 => ?_) (fun c12 => ?_)
                · have hr1 := (hasR_b c12 (X.2.2.2.2.2.2.2.1 s_n) fr)
                  have hr2 := (hasR_b c12 (X.2.2.2.2.2.2.2.1 t_n) to_)
                  refine lv_aload_n hx hb dX4_copy_118 rfl (lv_at hl 0 rfl) ?_
                  refine lv_ldc (v := -1000001) hx hb hown (hts (.constant RX4 72 (-1000001)) (List.mem_of_getElem? (i := 1) rfl)) dX4_copy_119 ?_
                  refine mu_V (n := 1) (As := [.int (-1000001)]) (rest := []) ⟨hx, hb, hml, hown, hts⟩ (c_X4_finding l D ci am X kr q0 q1 q2 q3 q4 q5 iw kn y0 y1 y2 y3 y4 y5 y6 hI (-1000001) (0) (by omega) (by decide)) gX4_copy_X4_finding rfl ⟨rfl, rfl⟩ (by decide +kernel) rfl ⟨Nat.le_of_ble_eq_true rfl, Nat.le_of_ble_eq_true rfl⟩ hE trivial hK hP (ci := 4) (q0 := 0) rfl rfl hl.1 rfl (Nat.le_of_ble_eq_true rfl) dX4_copy_121 ⟨Nat.zero_le _, Nat.zero_le _⟩ hS (fun _ h => h) (fun H1 locs hz hfr hB hS => ?_)
                  have hP := hB
                  have hP : va_P D vwCl (wN ci am (toF X (inc X.2.2.2.1 0)) kr q0 q1 q2 q3 q4 q5 iw kn y0 y1 y2 y3 y4 y5 y6) H1 := hP
                  generalize H1 = H at hP hS ⊢
                  have hD : va_D (aM am) (wN ci am (toF X (inc X.2.2.2.1 0)) kr q0 q1 q2 q3 q4 q5 iw kn y0 y1 y2 y3 y4 y5 y6) := wN_D hI
                  have hp : p_copy X (nI s_n) fr (nI t_n) to_ nn = (fnd 0, toF X (inc X.2.2.2.1 0)) := by first | (simp [p_copy, bk, fl_eq, c1, c4, c7, c8, c9, c10, c11, c12, t_s_n, t_t_n, hr1, hr2]; done)
                  refine nv_cv (show fnd 0 = (p_copy X (nI s_n) fr (nI t_n) to_ nn).1 from by rw [hp]) ?_
                  exact mu_iret hx hb hr hlocks hS ((by rw [hp]; exact ⟨_, _, _, _, _, _, _, _, _, _, _, _, _, _, _, hkr, hP⟩)) dX4_copy_124
                · refine lv_iload_n hx hb dX4_copy_83 rfl (lv_at hl 2 rfl) ?_
                  refine lv_i2l hx hb dX4_copy_84 rfl ?_
                  refine lv_iload hx hb dX4_copy_85 (lv_at hl 5 rfl) ?_
                  refine lv_i2l hx hb dX4_copy_87 rfl ?_
                  refine lv_ladd hx hb dX4_copy_88 ?_
                  refine lv_aload_n hx hb dX4_copy_89 rfl (lv_at hl 0 rfl) ?_
                  refine va_get (D := D) (ci := 4) (v := .ref (am 13)) (C := RX4) (T := TX4) (N := 24) hx hb hts hinX4 hown hK hP 0 rfl rfl 21 (by decide) (hts (.fieldLink RX4 63 "OneShortModel" "sizes" "[I") (List.mem_of_getElem? (i := 5) rfl)) (fun _ h9 => h9) rfl dX4_copy_90 ?_
                  refine lv_iload_n hx hb dX4_copy_93 rfl (lv_at hl 1 rfl) ?_
                  refine nv_iald (v := nI (X.2.2.2.2.2.2.2.1 (s_n))) hx hb hK hP 13 0 rfl rfl (by omega) (by decide) rfl dX4_copy_94 ?_
                  refine lv_i2l hx hb dX4_copy_95 rfl ?_
                  refine W.lcmp hx hb dX4_copy_96 ?_
                  refine lv_if_gt (tgt := 118) hx hb dX4_copy_97 (by decide) (fun c13 => ?_) (fun c13 => ?_)
                  · have hr1 : hasR (X.2.2.2.2.2.2.2.1 s_n) fr nn = false := lcR_f c10 c12 (by omega) c13
                    refine lv_aload_n hx hb dX4_copy_118 rfl (lv_at hl 0 rfl) ?_
                    refine lv_ldc (v := -1000001) hx hb hown (hts (.constant RX4 72 (-1000001)) (List.mem_of_getElem? (i := 1) rfl)) dX4_copy_119 ?_
                    refine mu_V (n := 1) (As := [.int (-1000001)]) (rest := []) ⟨hx, hb, hml, hown, hts⟩ (c_X4_finding l D ci am X kr q0 q1 q2 q3 q4 q5 iw kn y0 y1 y2 y3 y4 y5 y6 hI (-1000001) (0) (by omega) (by decide)) gX4_copy_X4_finding rfl ⟨rfl, rfl⟩ (by decide +kernel) rfl ⟨Nat.le_of_ble_eq_true rfl, Nat.le_of_ble_eq_true rfl⟩ hE trivial hK hP (ci := 4) (q0 := 0) rfl rfl hl.1 rfl (Nat.le_of_ble_eq_true rfl) dX4_copy_121 ⟨Nat.zero_le _, Nat.zero_le _⟩ hS (fun _ h => h) (fun H1 locs hz hfr hB hS => ?_)
                    have hP := hB
                    have hP : va_P D vwCl (wN ci am (toF X (inc X.2.2.2.1 0)) kr q0 q1 q2 q3 q4 q5 iw kn y0 y1 y2 y3 y4 y5 y6) H1 := hP
                    generalize H1 = H at hP hS ⊢
                    have hD : va_D (aM am) (wN ci am (toF X (inc X.2.2.2.1 0)) kr q0 q1 q2 q3 q4 q5 iw kn y0 y1 y2 y3 y4 y5 y6) := wN_D hI
                    have hp : p_copy X (nI s_n) fr (nI t_n) to_ nn = (fnd 0, toF X (inc X.2.2.2.1 0)) := by first | (simp [p_copy, bk, fl_eq, c1, c4, c7, c8, c9, c10, c11, c12, c13, t_s_n, t_t_n, hr1]; done)
                    refine nv_cv (show fnd 0 = (p_copy X (nI s_n) fr (nI t_n) to_ nn).1 from by rw [hp]) ?_
                    exact mu_iret hx hb hr hlocks hS ((by rw [hp]; exact ⟨_, _, _, _, _, _, _, _, _, _, _, _, _, _, _, hkr, hP⟩)) dX4_copy_124
                  · have hr1 : hasR (X.2.2.2.2.2.2.2.1 s_n) fr nn = true := lcR_t c10 c12 (by omega) c13
                    refine lv_iload hx hb dX4_copy_100 (lv_at hl 4 rfl) ?_
                    refine lv_i2l hx hb dX4_copy_102 rfl ?_
                    refine lv_iload hx hb dX4_copy_103 (lv_at hl 5 rfl) ?_
                    refine lv_i2l hx hb dX4_copy_105 rfl ?_
                    refine lv_ladd hx hb dX4_copy_106 ?_
                    refine lv_aload_n hx hb dX4_copy_107 rfl (lv_at hl 0 rfl) ?_
                    refine va_get (D := D) (ci := 4) (v := .ref (am 13)) (C := RX4) (T := TX4) (N := 24) hx hb hts hinX4 hown hK hP 0 rfl rfl 21 (by decide) (hts (.fieldLink RX4 63 "OneShortModel" "sizes" "[I") (List.mem_of_getElem? (i := 5) rfl)) (fun _ h9 => h9) rfl dX4_copy_108 ?_
                    refine lv_iload_n hx hb dX4_copy_111 rfl (lv_at hl 3 rfl) ?_
                    refine nv_iald (v := nI (X.2.2.2.2.2.2.2.1 (t_n))) hx hb hK hP 13 0 rfl rfl (by omega) (by decide) rfl dX4_copy_112 ?_
                    refine lv_i2l hx hb dX4_copy_113 rfl ?_
                    refine W.lcmp hx hb dX4_copy_114 ?_
                    refine lv_if_le (tgt := 125) hx hb dX4_copy_115 (by decide) (fun c14 => ?_) (fun c14 => ?_)
                    · have hr2 : hasR (X.2.2.2.2.2.2.2.1 t_n) to_ nn = true := lcR_t c11 c12 (by omega) (Int32.not_lt.mpr c14)
                      obtain ⟨frn, nnn, h_fn, rfl, rfl⟩ := hasR_ex hr1 (by omega)
                      have t_frn : tn (nI frn) = frn := tn_nI (by omega)
                      have t_nnn : tn (nI nnn) = nnn := tn_nI (by omega)
                      obtain ⟨to_n, h_tn, rfl⟩ := hasR_ex2 hr2 (by omega) (by omega)
                      have t_to_n : tn (nI to_n) = to_n := tn_nI (by omega)
                      refine lv_iconst (v := nI (0)) hx hb dX4_copy_125 (by decide) ?_
                      refine lv_istore (lv' := [(6, .int (nI 0)), (0, .ref (am 0)), (1, .int (nI s_n)), (2, .int (nI frn)), (3, .int (nI t_n)), (4, .int (nI to_n)), (5, .int (nI nnn))]) hx hb dX4_copy_126 hl (by decide) rfl (fun ls hl => ?_)
                      have L128 : ∀ (k128 : Nat) (i : Nat) (y6 : Nat → Int32), nnn - i < k128 → (i ≤ nnn) → (∀ q, q < i → y6 q = X.2.2.2.2.2.2.2.2 s_n (frn + q)) → ∀ (x6 : Int32), x6 = nI (i) → ∀ (H : Heap) (locs : List Loc), va_P D vwCl (wN ci am X kr q0 q1 q2 q3 q4 q5 iw kn y0 y1 y2 y3 y4 y5 y6) H → va_S (aM am) s.heap H locs → ∀ ls : Array Slot, lv_has ls 7 [(6, .int (x6)), (0, .ref (am 0)), (1, .int (nI s_n)), (2, .int (nI frn)), (3, .int (nI t_n)), (4, .int (nI to_n)), (5, .int (nI nnn))] → W p l e (headSpec wsX4_copy ({ frames := 2, cells := 0, slots := 0, locals := 42 } : Room)).room s m ([.ref (am 0), .int (nI s_n), .int (nI frn), .int (nI t_n), .int (nI to_n), .int (nI nnn)] : List Value).toArray below meth c H locs 0 0 (MQ below (mu_Q (aM am) (some (.int ((p_copy X (nI s_n) (nI frn) (nI t_n) (nI to_n) (nI nnn)).1))) (fun H => ∃ (kr : Nat → Int32) (q0 : Int32) (q1 : Int32) (q2 : Int32) (q3 : Int32) (q4 : Int32) (q5 : Int32) (iw : Bool) (y0 : Nat → Int32) (y1 : Nat → Int32) (y2 : Nat → Int32) (y3 : Nat → Int32) (y4 : Nat → Int32) (y5 : Nat → Int32) (y6 : Nat → Int32), kOK (p_copy X (nI s_n) (nI frn) (nI t_n) (nI to_n) (nI nnn)).2 kr ∧ va_P D vwCl (wN ci am ((p_copy X (nI s_n) (nI frn) (nI t_n) (nI to_n) (nI nnn)).2) kr q0 q1 q2 q3 q4 q5 iw kn y0 y1 y2 y3 y4 y5 y6) H)) ([.ref (am 0), .int (nI s_n), .int (nI frn), .int (nI t_n), .int (nI to_n), .int (nI nnn)] : List Value).toArray s 0 0 (aM am)) (F0 m 128 ls []) := by
                        intro k128
                        induction k128 with
                        | zero => intro i y6 h0; exact absurd h0 (Nat.not_lt_zero _)
                        | succ k128 ih128 =>
                          intro i y6 hk128 h_i h_y x6 e6  H locs hP hS ls hl
                          subst e6
                          have hD : va_D (aM am) (wN ci am X kr q0 q1 q2 q3 q4 q5 iw kn y0 y1 y2 y3 y4 y5 y6) := wN_D hI
                          refine lv_iload hx hb dX4_copy_128 (lv_at hl 0 rfl) ?_
                          refine lv_iload hx hb dX4_copy_130 (lv_at hl 6 rfl) ?_
                          refine nv_icmp_ge (tgt := 162) hx hb (by omega) (by omega) dX4_copy_132 (by decide) (fun c15 => ?_) (fun c15 => ?_)
                          · refine lv_iconst (v := nI (0)) hx hb dX4_copy_162 (by decide) ?_
                            refine lv_istore (lv' := [(6, .int (nI 0)), (0, .ref (am 0)), (1, .int (nI s_n)), (2, .int (nI frn)), (3, .int (nI t_n)), (4, .int (nI to_n)), (5, .int (nI nnn))]) hx hb dX4_copy_163 hl (by decide) rfl (fun ls hl => ?_)
                            have L165 : ∀ (k165 : Nat) (i : Nat), nnn - i < k165 → (i ≤ nnn) → ∀ (x6 : Int32), x6 = nI (i) → ∀ (H : Heap) (locs : List Loc), va_P D vwCl (wN ci am (toH X X.2.2.2.2.2.2.1 X.2.2.2.2.2.2.2.1 (updF X.2.2.2.2.2.2.2.2 t_n (va_cpy (X.2.2.2.2.2.2.2.2 s_n) (X.2.2.2.2.2.2.2.2 t_n) frn to_n (i)))) kr q0 q1 q2 q3 q4 q5 iw kn y0 y1 y2 y3 y4 y5 y6) H → va_S (aM am) s.heap H locs → ∀ ls : Array Slot, lv_has ls 7 [(6, .int (x6)), (0, .ref (am 0)), (1, .int (nI s_n)), (2, .int (nI frn)), (3, .int (nI t_n)), (4, .int (nI to_n)), (5, .int (nI nnn))] → W p l e (headSpec wsX4_copy ({ frames := 2, cells := 0, slots := 0, locals := 42 } : Room)).room s m ([.ref (am 0), .int (nI s_n), .int (nI frn), .int (nI t_n), .int (nI to_n), .int (nI nnn)] : List Value).toArray below meth c H locs 0 0 (MQ below (mu_Q (aM am) (some (.int ((p_copy X (nI s_n) (nI frn) (nI t_n) (nI to_n) (nI nnn)).1))) (fun H => ∃ (kr : Nat → Int32) (q0 : Int32) (q1 : Int32) (q2 : Int32) (q3 : Int32) (q4 : Int32) (q5 : Int32) (iw : Bool) (y0 : Nat → Int32) (y1 : Nat → Int32) (y2 : Nat → Int32) (y3 : Nat → Int32) (y4 : Nat → Int32) (y5 : Nat → Int32) (y6 : Nat → Int32), kOK (p_copy X (nI s_n) (nI frn) (nI t_n) (nI to_n) (nI nnn)).2 kr ∧ va_P D vwCl (wN ci am ((p_copy X (nI s_n) (nI frn) (nI t_n) (nI to_n) (nI nnn)).2) kr q0 q1 q2 q3 q4 q5 iw kn y0 y1 y2 y3 y4 y5 y6) H)) ([.ref (am 0), .int (nI s_n), .int (nI frn), .int (nI t_n), .int (nI to_n), .int (nI nnn)] : List Value).toArray s 0 0 (aM am)) (F0 m 165 ls []) := by
                              intro k165
                              induction k165 with
                              | zero => intro i h0; exact absurd h0 (Nat.not_lt_zero _)
                              | succ k165 ih165 =>
                                intro i hk165 h_i2 x6 e6  H locs hP hS ls hl
                                subst e6
                                have hD : va_D (aM am) (wN ci am (toH X X.2.2.2.2.2.2.1 X.2.2.2.2.2.2.2.1 (updF X.2.2.2.2.2.2.2.2 t_n (va_cpy (X.2.2.2.2.2.2.2.2 s_n) (X.2.2.2.2.2.2.2.2 t_n) frn to_n (i)))) kr q0 q1 q2 q3 q4 q5 iw kn y0 y1 y2 y3 y4 y5 y6) := wN_D hI
                                have h_y9 : i < nnn → y6 i = X.2.2.2.2.2.2.2.2 s_n (frn + i) := fun h => h_y i (by omega)
                                refine lv_iload hx hb dX4_copy_165 (lv_at hl 0 rfl) ?_
                                refine lv_iload hx hb dX4_copy_167 (lv_at hl 6 rfl) ?_
                                refine nv_icmp_ge (tgt := 200) hx hb (by omega) (by omega) dX4_copy_169 (by decide) (fun c16 => ?_) (fun c16 => ?_)
                                · refine lv_iload hx hb dX4_copy_200 (lv_at hl 6 rfl) ?_
                                  have hp : p_copy X (nI s_n) (nI frn) (nI t_n) (nI to_n) (nI nnn) = (nI (nnn), toH X X.2.2.2.2.2.2.1 X.2.2.2.2.2.2.2.1 (updF X.2.2.2.2.2.2.2.2 t_n (va_cpy (X.2.2.2.2.2.2.2.2 s_n) (X.2.2.2.2.2.2.2.2 t_n) frn to_n (i)))) := by first | (rw [show i = nnn by omega]; simp [p_copy, bk, fl_eq, c1, c4, c7, c8, c9, c10, c11, c12, c13, Nat.lt_irrefl, c15, c16, t_s_n, t_t_n, hr1, hr2, t_frn, t_nnn, t_to_n]; done)
                                  refine nv_cv (show nI (nnn) = (p_copy X (nI s_n) (nI frn) (nI t_n) (nI to_n) (nI nnn)).1 from by rw [hp]) ?_
                                  exact mu_iret hx hb hr hlocks hS ((by rw [hp]; exact ⟨_, _, _, _, _, _, _, _, _, _, _, _, _, _, _, hkr, hP⟩)) dX4_copy_202
                                · refine lv_aload_n hx hb dX4_copy_172 rfl (lv_at hl 1 rfl) ?_
                                  refine va_get (D := D) (ci := 4) (v := .ref (am 14)) (C := RX4) (T := TX4) (N := 24) hx hb hts hinX4 hown hK hP 0 rfl rfl 22 (by decide) (hts (.fieldLink RX4 66 "OneShortModel" "numbers" "[I") (List.mem_of_getElem? (i := 7) rfl)) (fun _ h9 => h9) rfl dX4_copy_173 ?_
                                  refine lv_bipush (v := nI (40)) hx hb dX4_copy_176 (by decide) ?_
                                  refine lv_iload_n hx hb dX4_copy_178 rfl (lv_at hl 4 rfl) ?_
                                  refine nv_imul hx hb dX4_copy_179 ?_
                                  refine lv_iload hx hb dX4_copy_180 (lv_at hl 5 rfl) ?_
                                  refine nv_iadd hx hb dX4_copy_182 ?_
                                  refine lv_iload hx hb dX4_copy_183 (lv_at hl 0 rfl) ?_
                                  refine nv_iadd hx hb dX4_copy_185 ?_
                                  refine nv_cv (show nI ((((40 * t_n) + to_n) + i)) = nI (((40 * t_n) + (to_n + i))) from congrArg nI (Nat.add_assoc _ _ _)) ?_
                                  refine lv_aload_n hx hb dX4_copy_186 rfl (lv_at hl 1 rfl) ?_
                                  refine va_get (D := D) (ci := 4) (v := .ref (am 15)) (C := RX4) (T := TX4) (N := 24) hx hb hts hinX4 hown hK hP 0 rfl rfl 23 (by decide) (hts (.fieldLink RX4 69 "OneShortModel" "moved" "[I") (List.mem_of_getElem? (i := 6) rfl)) (fun _ h9 => h9) rfl dX4_copy_187 ?_
                                  refine lv_iload hx hb dX4_copy_190 (lv_at hl 0 rfl) ?_
                                  refine nv_iald (v := X.2.2.2.2.2.2.2.2 s_n (frn + i)) hx hb hK hP 15 0 rfl rfl (by omega) (by decide) (h_y9 (by omega)) dX4_copy_192 ?_
                                  refine nv_iast hx hb hK hP hD hS 14 0 rfl rfl (by omega) (by decide) dX4_copy_193 (fun H locs hP hD hS => ?_)
                                  have hP : va_P D vwCl (wN ci am (toH (toH X X.2.2.2.2.2.2.1 X.2.2.2.2.2.2.2.1 (updF X.2.2.2.2.2.2.2.2 t_n (va_cpy (X.2.2.2.2.2.2.2.2 s_n) (X.2.2.2.2.2.2.2.2 t_n) frn to_n (i)))) X.2.2.2.2.2.2.1 X.2.2.2.2.2.2.2.1 (updF (updF X.2.2.2.2.2.2.2.2 t_n (va_cpy (X.2.2.2.2.2.2.2.2 s_n) (X.2.2.2.2.2.2.2.2 t_n) frn to_n (i))) t_n (upd ((updF X.2.2.2.2.2.2.2.2 t_n (va_cpy (X.2.2.2.2.2.2.2.2 s_n) (X.2.2.2.2.2.2.2.2 t_n) frn to_n (i))) t_n) (to_n + i) (X.2.2.2.2.2.2.2.2 s_n (frn + i))))) kr q0 q1 q2 q3 q4 q5 iw kn y0 y1 y2 y3 y4 y5 y6) H := va_P.re (wN_sn ci am (toH X X.2.2.2.2.2.2.1 X.2.2.2.2.2.2.2.1 (updF X.2.2.2.2.2.2.2.2 t_n (va_cpy (X.2.2.2.2.2.2.2.2 s_n) (X.2.2.2.2.2.2.2.2 t_n) frn to_n (i)))) kr q0 q1 q2 q3 q4 q5 iw kn y0 y1 y2 y3 y4 y5 y6 (X.2.2.2.2.2.2.2.2 s_n (frn + i)) t_n (to_n + i) (by omega)) hP
                                  have hD : va_D (aM am) (wN ci am (toH (toH X X.2.2.2.2.2.2.1 X.2.2.2.2.2.2.2.1 (updF X.2.2.2.2.2.2.2.2 t_n (va_cpy (X.2.2.2.2.2.2.2.2 s_n) (X.2.2.2.2.2.2.2.2 t_n) frn to_n (i)))) X.2.2.2.2.2.2.1 X.2.2.2.2.2.2.2.1 (updF (updF X.2.2.2.2.2.2.2.2 t_n (va_cpy (X.2.2.2.2.2.2.2.2 s_n) (X.2.2.2.2.2.2.2.2 t_n) frn to_n (i))) t_n (upd ((updF X.2.2.2.2.2.2.2.2 t_n (va_cpy (X.2.2.2.2.2.2.2.2 s_n) (X.2.2.2.2.2.2.2.2 t_n) frn to_n (i))) t_n) (to_n + i) (X.2.2.2.2.2.2.2.2 s_n (frn + i))))) kr q0 q1 q2 q3 q4 q5 iw kn y0 y1 y2 y3 y4 y5 y6) := wN_D hI
                                  refine nv_iinc1 (lv' := [(6, .int (nI (i + 1))), (0, .ref (am 0)), (1, .int (nI s_n)), (2, .int (nI frn)), (3, .int (nI t_n)), (4, .int (nI to_n)), (5, .int (nI nnn))]) hx hb dX4_copy_194 hl (k := 0) rfl (by decide) rfl (fun ls hl => ?_)
                                  refine lv_goto (tgt := 165) hx hb dX4_copy_197 (by decide) ?_
                                  exact ih165 (i + 1) (by omega) (by omega) (nI (i + 1)) rfl _ _ (va_P.re (by rw [updF_s, cpy_s, updF_u]; rfl) hP) hS ls (lv_sub hl [0, 1, 2, 3, 4, 5, 6] rfl)
                            exact L165 _ (0) (Nat.lt_succ_self _) (by omega) (nI (0)) rfl _ _ (va_P.re (by rw [cpy_0, updF_self]; rfl) hP) hS ls (lv_sub hl [0, 1, 2, 3, 4, 5, 6] rfl)
                          · refine lv_aload_n hx hb dX4_copy_135 rfl (lv_at hl 1 rfl) ?_
                            refine va_get (D := D) (ci := 4) (v := .ref (am 15)) (C := RX4) (T := TX4) (N := 24) hx hb hts hinX4 hown hK hP 0 rfl rfl 23 (by decide) (hts (.fieldLink RX4 69 "OneShortModel" "moved" "[I") (List.mem_of_getElem? (i := 6) rfl)) (fun _ h9 => h9) rfl dX4_copy_136 ?_
                            refine lv_iload hx hb dX4_copy_139 (lv_at hl 0 rfl) ?_
                            refine lv_aload_n hx hb dX4_copy_141 rfl (lv_at hl 1 rfl) ?_
                            refine va_get (D := D) (ci := 4) (v := .ref (am 14)) (C := RX4) (T := TX4) (N := 24) hx hb hts hinX4 hown hK hP 0 rfl rfl 22 (by decide) (hts (.fieldLink RX4 66 "OneShortModel" "numbers" "[I") (List.mem_of_getElem? (i := 7) rfl)) (fun _ h9 => h9) rfl dX4_copy_142 ?_
                            refine lv_bipush (v := nI (40)) hx hb dX4_copy_145 (by decide) ?_
                            refine lv_iload_n hx hb dX4_copy_147 rfl (lv_at hl 2 rfl) ?_
                            refine nv_imul hx hb dX4_copy_148 ?_
                            refine lv_iload_n hx hb dX4_copy_149 rfl (lv_at hl 3 rfl) ?_
                            refine nv_iadd hx hb dX4_copy_150 ?_
                            refine lv_iload hx hb dX4_copy_151 (lv_at hl 0 rfl) ?_
                            refine nv_iadd hx hb dX4_copy_153 ?_
                            refine nv_cv (show nI ((((40 * s_n) + frn) + i)) = nI (((40 * s_n) + (frn + i))) from congrArg nI (Nat.add_assoc _ _ _)) ?_
                            refine nv_iald (v := X.2.2.2.2.2.2.2.2 s_n (frn + i)) hx hb hK hP 14 0 rfl rfl (by omega) (by decide) (sn_at X.2.2.2.2.2.2.2.2 s_n (by omega)) dX4_copy_154 ?_
                            refine nv_iast hx hb hK hP hD hS 15 0 rfl rfl (by omega) (by decide) dX4_copy_155 (fun H locs hP hD hS => ?_)
                            have hP : va_P D vwCl (wN ci am X kr q0 q1 q2 q3 q4 q5 iw kn y0 y1 y2 y3 y4 y5 (upd y6 (i) (X.2.2.2.2.2.2.2.2 s_n (frn + i)))) H := va_P.re (wN_y6 ci am X kr q0 q1 q2 q3 q4 q5 iw kn y0 y1 y2 y3 y4 y5 y6 (i) (X.2.2.2.2.2.2.2.2 s_n (frn + i))) hP
                            have hD : va_D (aM am) (wN ci am X kr q0 q1 q2 q3 q4 q5 iw kn y0 y1 y2 y3 y4 y5 (upd y6 (i) (X.2.2.2.2.2.2.2.2 s_n (frn + i)))) := wN_D hI
                            refine nv_iinc1 (lv' := [(6, .int (nI (i + 1))), (0, .ref (am 0)), (1, .int (nI s_n)), (2, .int (nI frn)), (3, .int (nI t_n)), (4, .int (nI to_n)), (5, .int (nI nnn))]) hx hb dX4_copy_156 hl (k := 0) rfl (by decide) rfl (fun ls hl => ?_)
                            refine lv_goto (tgt := 128) hx hb dX4_copy_159 (by decide) ?_
                            exact ih128 (i + 1) ((upd y6 (i) (X.2.2.2.2.2.2.2.2 s_n (frn + i)))) (by omega) (by omega) (upd_all (F := fun q => X.2.2.2.2.2.2.2.2 s_n (frn + q)) h_y rfl) (nI (i + 1)) rfl _ _ hP hS ls (lv_sub hl [0, 1, 2, 3, 4, 5, 6] rfl)
                      exact L128 _ (0) (y6) (Nat.lt_succ_self _) (by omega) (fun _ h => absurd h (Nat.not_lt_zero _)) (nI (0)) rfl _ _ hP hS ls (lv_sub hl [0, 1, 2, 3, 4, 5, 6] rfl)
                    · have hr2 : hasR (X.2.2.2.2.2.2.2.1 t_n) to_ nn = false := lcR_f c11 c12 (by omega) (Int32.not_le.mp c14)
                      refine lv_aload_n hx hb dX4_copy_118 rfl (lv_at hl 0 rfl) ?_
                      refine lv_ldc (v := -1000001) hx hb hown (hts (.constant RX4 72 (-1000001)) (List.mem_of_getElem? (i := 1) rfl)) dX4_copy_119 ?_
                      refine mu_V (n := 1) (As := [.int (-1000001)]) (rest := []) ⟨hx, hb, hml, hown, hts⟩ (c_X4_finding l D ci am X kr q0 q1 q2 q3 q4 q5 iw kn y0 y1 y2 y3 y4 y5 y6 hI (-1000001) (0) (by omega) (by decide)) gX4_copy_X4_finding rfl ⟨rfl, rfl⟩ (by decide +kernel) rfl ⟨Nat.le_of_ble_eq_true rfl, Nat.le_of_ble_eq_true rfl⟩ hE trivial hK hP (ci := 4) (q0 := 0) rfl rfl hl.1 rfl (Nat.le_of_ble_eq_true rfl) dX4_copy_121 ⟨Nat.zero_le _, Nat.zero_le _⟩ hS (fun _ h => h) (fun H1 locs hz hfr hB hS => ?_)
                      have hP := hB
                      have hP : va_P D vwCl (wN ci am (toF X (inc X.2.2.2.1 0)) kr q0 q1 q2 q3 q4 q5 iw kn y0 y1 y2 y3 y4 y5 y6) H1 := hP
                      generalize H1 = H at hP hS ⊢
                      have hD : va_D (aM am) (wN ci am (toF X (inc X.2.2.2.1 0)) kr q0 q1 q2 q3 q4 q5 iw kn y0 y1 y2 y3 y4 y5 y6) := wN_D hI
                      have hp : p_copy X (nI s_n) fr (nI t_n) to_ nn = (fnd 0, toF X (inc X.2.2.2.1 0)) := by first | (simp [p_copy, bk, fl_eq, c1, c4, c7, c8, c9, c10, c11, c12, c13, c14, t_s_n, t_t_n, hr1, hr2]; done)
                      refine nv_cv (show fnd 0 = (p_copy X (nI s_n) fr (nI t_n) to_ nn).1 from by rw [hp]) ?_
                      exact mu_iret hx hb hr hlocks hS ((by rw [hp]; exact ⟨_, _, _, _, _, _, _, _, _, _, _, _, _, _, _, hkr, hP⟩)) dX4_copy_124
          · refine lv_aload_n hx hb dX4_copy_61 rfl (lv_at hl 0 rfl) ?_
            refine lv_ldcw (v := -1000003) hx hb hown (hts (.constant RX4 329 (-1000003)) (List.mem_of_getElem? (i := 4) rfl)) dX4_copy_62 ?_
            refine mu_V (n := 1) (As := [.int (-1000003)]) (rest := []) ⟨hx, hb, hml, hown, hts⟩ (c_X4_finding l D ci am X kr q0 q1 q2 q3 q4 q5 iw kn y0 y1 y2 y3 y4 y5 y6 hI (-1000003) (2) (by omega) (by decide)) gX4_copy_X4_finding rfl ⟨rfl, rfl⟩ (by decide +kernel) rfl ⟨Nat.le_of_ble_eq_true rfl, Nat.le_of_ble_eq_true rfl⟩ hE trivial hK hP (ci := 4) (q0 := 0) rfl rfl hl.1 rfl (Nat.le_of_ble_eq_true rfl) dX4_copy_65 ⟨Nat.zero_le _, Nat.zero_le _⟩ hS (fun _ h => h) (fun H1 locs hz hfr hB hS => ?_)
            have hP := hB
            have hP : va_P D vwCl (wN ci am (toF X (inc X.2.2.2.1 2)) kr q0 q1 q2 q3 q4 q5 iw kn y0 y1 y2 y3 y4 y5 y6) H1 := hP
            generalize H1 = H at hP hS ⊢
            have hD : va_D (aM am) (wN ci am (toF X (inc X.2.2.2.1 2)) kr q0 q1 q2 q3 q4 q5 iw kn y0 y1 y2 y3 y4 y5 y6) := wN_D hI
            have hp : p_copy X (nI s_n) fr (nI t_n) to_ nn = (fnd 2, toF X (inc X.2.2.2.1 2)) := by first | (simp [p_copy, bk, fl_eq, c1, c4, c7, c8, c9, t_s_n, t_t_n]; done)
            refine nv_cv (show fnd 2 = (p_copy X (nI s_n) fr (nI t_n) to_ nn).1 from by rw [hp]) ?_
            exact mu_iret hx hb hr hlocks hS ((by rw [hp]; exact ⟨_, _, _, _, _, _, _, _, _, _, _, _, _, _, _, hkr, hP⟩)) dX4_copy_68
        · refine lv_aload_n hx hb dX4_copy_39 rfl (lv_at hl 0 rfl) ?_
          refine lv_ldc (v := -1000006) hx hb hown (hts (.constant RX4 232 (-1000006)) (List.mem_of_getElem? (i := 3) rfl)) dX4_copy_40 ?_
          refine mu_V (n := 1) (As := [.int (-1000006)]) (rest := []) ⟨hx, hb, hml, hown, hts⟩ (c_X4_finding l D ci am X kr q0 q1 q2 q3 q4 q5 iw kn y0 y1 y2 y3 y4 y5 y6 hI (-1000006) (5) (by omega) (by decide)) gX4_copy_X4_finding rfl ⟨rfl, rfl⟩ (by decide +kernel) rfl ⟨Nat.le_of_ble_eq_true rfl, Nat.le_of_ble_eq_true rfl⟩ hE trivial hK hP (ci := 4) (q0 := 0) rfl rfl hl.1 rfl (Nat.le_of_ble_eq_true rfl) dX4_copy_42 ⟨Nat.zero_le _, Nat.zero_le _⟩ hS (fun _ h => h) (fun H1 locs hz hfr hB hS => ?_)
          have hP := hB
          have hP : va_P D vwCl (wN ci am (toF X (inc X.2.2.2.1 5)) kr q0 q1 q2 q3 q4 q5 iw kn y0 y1 y2 y3 y4 y5 y6) H1 := hP
          generalize H1 = H at hP hS ⊢
          have hD : va_D (aM am) (wN ci am (toF X (inc X.2.2.2.1 5)) kr q0 q1 q2 q3 q4 q5 iw kn y0 y1 y2 y3 y4 y5 y6) := wN_D hI
          have hp : p_copy X (nI s_n) fr (nI t_n) to_ nn = (fnd 5, toF X (inc X.2.2.2.1 5)) := by first | (simp [p_copy, bk, fl_eq, c1, c4, c7, c8, t_s_n, t_t_n]; done)
          refine nv_cv (show fnd 5 = (p_copy X (nI s_n) fr (nI t_n) to_ nn).1 from by rw [hp]) ?_
          exact mu_iret hx hb hr hlocks hS ((by rw [hp]; exact ⟨_, _, _, _, _, _, _, _, _, _, _, _, _, _, _, hkr, hP⟩)) dX4_copy_45
    · refine lv_aload_n hx hb dX4_copy_14 rfl (lv_at hl 0 rfl) ?_
      refine lv_ldc (v := -1000001) hx hb hown (hts (.constant RX4 72 (-1000001)) (List.mem_of_getElem? (i := 1) rfl)) dX4_copy_15 ?_
      refine mu_V (n := 1) (As := [.int (-1000001)]) (rest := []) ⟨hx, hb, hml, hown, hts⟩ (c_X4_finding l D ci am X kr q0 q1 q2 q3 q4 q5 iw kn y0 y1 y2 y3 y4 y5 y6 hI (-1000001) (0) (by omega) (by decide)) gX4_copy_X4_finding rfl ⟨rfl, rfl⟩ (by decide +kernel) rfl ⟨Nat.le_of_ble_eq_true rfl, Nat.le_of_ble_eq_true rfl⟩ hE trivial hK hP (ci := 4) (q0 := 0) rfl rfl hl.1 rfl (Nat.le_of_ble_eq_true rfl) dX4_copy_17 ⟨Nat.zero_le _, Nat.zero_le _⟩ hS (fun _ h => h) (fun H1 locs hz hfr hB hS => ?_)
      have hP := hB
      have hP : va_P D vwCl (wN ci am (toF X (inc X.2.2.2.1 0)) kr q0 q1 q2 q3 q4 q5 iw kn y0 y1 y2 y3 y4 y5 y6) H1 := hP
      generalize H1 = H at hP hS ⊢
      have hD : va_D (aM am) (wN ci am (toF X (inc X.2.2.2.1 0)) kr q0 q1 q2 q3 q4 q5 iw kn y0 y1 y2 y3 y4 y5 y6) := wN_D hI
      have hp : p_copy X (nI s_n) fr t_ to_ nn = (fnd 0, toF X (inc X.2.2.2.1 0)) := by first | (simp [p_copy, bk, fl_eq, c1, c4, t_s_n]; done)
      refine nv_cv (show fnd 0 = (p_copy X (nI s_n) fr t_ to_ nn).1 from by rw [hp]) ?_
      exact mu_iret hx hb hr hlocks hS ((by rw [hp]; exact ⟨_, _, _, _, _, _, _, _, _, _, _, _, _, _, _, hkr, hP⟩)) dX4_copy_20

set_option maxHeartbeats 4000000 in
set_option maxRecDepth 100000 in
/-- X4_feed -/
theorem c_X4_feed (l : Launch) (D : va_G) (ci : Nat → ClassId) (am : Nat → Nat) (X : AS) (kr : Nat → Int32) (q0 q1 q2 q3 q4 q5 : Int32) (iw : Bool) (kn : Nat → Option Nat) (y0 y1 y2 y3 y4 y5 y6 : Nat → Int32) (hI : injA am 16) (bv n : Int32) (hWX : WFX X) (hkr : kOK X kr) : Met l yX4_feed wsX4_feed ({ frames := 1, cells := 0, slots := 0, locals := 22 } : Room) (va_Pc [.ref (am 0), .int (bv), .int (n)] (ro_B D (tyL ci) (wN ci am X kr q0 q1 q2 q3 q4 q5 iw kn y0 y1 y2 y3 y4 y5 y6) (enT))) (mu_Q (aM am) (some (.int ((p_feed X bv n).1))) (fun H => ∃ (kr : Nat → Int32) (q0 : Int32) (q1 : Int32) (q2 : Int32) (q3 : Int32) (q4 : Int32) (q5 : Int32) (iw : Bool) (y0 : Nat → Int32) (y1 : Nat → Int32) (y2 : Nat → Int32) (y3 : Nat → Int32) (y4 : Nat → Int32) (y5 : Nat → Int32) (y6 : Nat → Int32), kOK (p_feed X bv n).2 kr ∧ va_P D vwCl (wN ci am ((p_feed X bv n).2) kr q0 q1 q2 q3 q4 q5 iw kn y0 y1 y2 y3 y4 y5 y6) H)) 0 0 (aM am) := by
  refine mu_Met (cc := cX4_feed) (maxL := 4) (ret := (some .int)) [(0, .ref (am 0)), (1, .int (bv)), (2, .int (n))] (wN_D hI) (by decide) rfl (Nat.le_of_ble_eq_true rfl) rfl ?_
  intro p e s m below meth c H locs hx hb hml hr hlocks hts hown hP hK hs0 hD hS ls hl
  have hown : s.vm.findClass RX4 = some m.cls := hown
  have hinX4 : ∀ w ∈ wsX40, w ∈ wsX4_feed := by decide +kernel
  have hE := hE_T
  have hWF := hWX.w
  have f_n := hWF.n
  have f_e := hWX.e
  have f_tl := hWX.t
  refine lv_iload_n hx hb dX4_feed_0 rfl (lv_at hl 2 rfl) ?_
  refine lv_iconst (v := nI (1)) hx hb dX4_feed_1 (by decide) ?_
  refine lv_iconst (v := nI (4)) hx hb dX4_feed_2 (by decide) ?_
  refine ro_S (n := 3) (As := [.int (n), .int (nI 1), .int (nI 4)]) (rest := []) ⟨hx, hb, hml, hown, hts⟩ (c_X4_within l D ci (wN ci am X kr q0 q1 q2 q3 q4 q5 iw kn y0 y1 y2 y3 y4 y5 y6) (n) (nI (1)) (nI (4)) ) gX4_feed_X4_within rfl ⟨rfl, rfl⟩ (by decide +kernel) rfl ⟨Nat.le_of_ble_eq_true rfl, Nat.le_of_ble_eq_true rfl⟩ hE trivial hK hP hl.1 rfl (Nat.le_of_ble_eq_true rfl) dX4_feed_3 ⟨Nat.zero_le _, Nat.zero_le _⟩ ?_
  refine nv_cv (congrArg bI (wth_inR n 1 4 (by decide) (by decide))) ?_
  refine nv_ifne_b (tgt := 16) hx hb dX4_feed_6 (by decide) (fun c1 => ?_) (fun c1 => ?_)
  · obtain ⟨nn, h_nn, h_nn2, rfl⟩ := inR_ex c1 (by decide)
    have t_nn : tn (nI nn) = nn := tn_nI (by omega)
    refine lv_aload_n hx hb dX4_feed_16 rfl (lv_at hl 0 rfl) ?_
    refine va_get (D := D) (ci := 4) (v := .int (nI (X.2.2.2.2.1))) (C := RX4) (T := TX4) (N := 24) hx hb hts hinX4 hown hK hP 0 rfl rfl 10 (by decide) (hts (.fieldLink RX4 246 "OneShortModel" "taped" "I") (List.mem_of_getElem? (i := 2) rfl)) (fun _ h9 => h9) rfl dX4_feed_17 ?_
    refine lv_iload_n hx hb dX4_feed_20 rfl (lv_at hl 2 rfl) ?_
    refine nv_iadd hx hb dX4_feed_21 ?_
    refine lv_bipush (v := nI (120)) hx hb dX4_feed_22 (by decide) ?_
    refine nv_icmp_le (tgt := 34) hx hb (by omega) (by omega) dX4_feed_24 (by decide) (fun c2 => ?_) (fun c2 => ?_)
    · refine lv_iload_n hx hb dX4_feed_34 rfl (lv_at hl 2 rfl) ?_
      refine lv_iconst (v := nI (1)) hx hb dX4_feed_35 (by decide) ?_
      refine nv_isub hx hb (by omega) dX4_feed_36 ?_
      refine lv_istore_n (lv' := [(3, .int (nI ((nn - 1)))), (0, .ref (am 0)), (1, .int (bv)), (2, .int (nI nn))]) hx hb dX4_feed_37 rfl hl (by decide) rfl (fun ls hl => ?_)
      have L38 : ∀ (k38 : Nat) (cn : Nat), cn < k38 → (cn ≤ nn) → ∀ (x3 : Int32), x3 = nI (cn) - nI (1) → ∀ (H : Heap) (locs : List Loc), va_P D vwCl (wN ci am (toB X (X.2.2.2.2.1 + (nn - cn)) (fdB X.2.2.2.2.2.1 (X.2.2.2.2.1) bv nn (nn - cn))) kr q0 q1 q2 q3 q4 q5 iw kn y0 y1 y2 y3 y4 y5 y6) H → va_S (aM am) s.heap H locs → ∀ ls : Array Slot, lv_has ls 4 [(3, .int (x3)), (0, .ref (am 0)), (1, .int (bv)), (2, .int (nI nn))] → W p l e (headSpec wsX4_feed ({ frames := 1, cells := 0, slots := 0, locals := 22 } : Room)).room s m ([.ref (am 0), .int (bv), .int (nI nn)] : List Value).toArray below meth c H locs 0 0 (MQ below (mu_Q (aM am) (some (.int ((p_feed X bv (nI nn)).1))) (fun H => ∃ (kr : Nat → Int32) (q0 : Int32) (q1 : Int32) (q2 : Int32) (q3 : Int32) (q4 : Int32) (q5 : Int32) (iw : Bool) (y0 : Nat → Int32) (y1 : Nat → Int32) (y2 : Nat → Int32) (y3 : Nat → Int32) (y4 : Nat → Int32) (y5 : Nat → Int32) (y6 : Nat → Int32), kOK (p_feed X bv (nI nn)).2 kr ∧ va_P D vwCl (wN ci am ((p_feed X bv (nI nn)).2) kr q0 q1 q2 q3 q4 q5 iw kn y0 y1 y2 y3 y4 y5 y6) H)) ([.ref (am 0), .int (bv), .int (nI nn)] : List Value).toArray s 0 0 (aM am)) (F0 m 38 ls []) := by
        intro k38
        induction k38 with
        | zero => intro cn h0; exact absurd h0 (Nat.not_lt_zero _)
        | succ k38 ih38 =>
          intro cn hk38 h_c x3 e3  H locs hP hS ls hl
          subst e3
          have hD : va_D (aM am) (wN ci am (toB X (X.2.2.2.2.1 + (nn - cn)) (fdB X.2.2.2.2.2.1 (X.2.2.2.2.1) bv nn (nn - cn))) kr q0 q1 q2 q3 q4 q5 iw kn y0 y1 y2 y3 y4 y5 y6) := wN_D hI
          refine lv_iload_n hx hb dX4_feed_38 rfl (lv_at hl 0 rfl) ?_
          refine nv_iflt_D (tgt := 77) hx hb (by omega) dX4_feed_39 (by decide) (fun c3 => ?_) (fun c3 => ?_)
          · refine lv_aload_n hx hb dX4_feed_77 rfl (lv_at hl 1 rfl) ?_
            refine va_get (D := D) (ci := 4) (v := .int (nI ((X.2.2.2.2.1 + (nn - cn))))) (C := RX4) (T := TX4) (N := 24) hx hb hts hinX4 hown hK hP 0 rfl rfl 10 (by decide) (hts (.fieldLink RX4 246 "OneShortModel" "taped" "I") (List.mem_of_getElem? (i := 2) rfl)) (fun _ h9 => h9) rfl dX4_feed_78 ?_
            have hp : p_feed X bv (nI nn) = (nI ((X.2.2.2.2.1 + (nn - cn))), toB X (X.2.2.2.2.1 + (nn - cn)) (fdB X.2.2.2.2.2.1 (X.2.2.2.2.1) bv nn (nn - cn))) := by first | (simp [p_feed, bk, fl_eq, c1, c2, c3, t_nn]; done) | ((rw [show cn = 0 by omega]; simp [p_feed, bk, fl_eq, show X.2.2.2.2.1 + nn ≤ 120 by omega, c1, c2, c3, t_nn]); done) | (simp [p_feed, bk, fl_eq, show ¬ X.2.2.2.2.1 + nn ≤ 120 by omega, c1, c2, c3, t_nn]; done)
            refine nv_cv (show nI ((X.2.2.2.2.1 + (nn - cn))) = (p_feed X bv (nI nn)).1 from by rw [hp]) ?_
            exact mu_iret hx hb hr hlocks hS ((by rw [hp]; exact ⟨_, _, _, _, _, _, _, _, _, _, _, _, _, _, _, hkr, hP⟩)) dX4_feed_81
          · obtain ⟨c1n, e_c⟩ : ∃ c1n, cn = c1n + 1 := ⟨cn - 1, by omega⟩
            rw [show nI cn - nI 1 = nI c1n by rw [e_c]; exact nI_pred c1n] at hl
            refine lv_aload_n hx hb dX4_feed_42 rfl (lv_at hl 1 rfl) ?_
            refine va_get (D := D) (ci := 4) (v := .ref (am 9)) (C := RX4) (T := TX4) (N := 24) hx hb hts hinX4 hown hK hP 0 rfl rfl 9 (by decide) (hts (.fieldLink RX4 34 "OneShortModel" "tape" "[I") (List.mem_of_getElem? (i := 4) rfl)) (fun _ h9 => h9) rfl dX4_feed_43 ?_
            refine lv_aload_n hx hb dX4_feed_46 rfl (lv_at hl 1 rfl) ?_
            refine va_get (D := D) (ci := 4) (v := .int (nI ((X.2.2.2.2.1 + (nn - cn))))) (C := RX4) (T := TX4) (N := 24) hx hb hts hinX4 hown hK hP 0 rfl rfl 10 (by decide) (hts (.fieldLink RX4 246 "OneShortModel" "taped" "I") (List.mem_of_getElem? (i := 2) rfl)) (fun _ h9 => h9) rfl dX4_feed_47 ?_
            refine lv_iload_n hx hb dX4_feed_50 rfl (lv_at hl 2 rfl) ?_
            refine lv_bipush (v := nI (8)) hx hb dX4_feed_51 (by decide) ?_
            refine lv_iload_n hx hb dX4_feed_53 rfl (lv_at hl 0 rfl) ?_
            refine nv_imul hx hb dX4_feed_54 ?_
            refine lv_ishr hx hb dX4_feed_55 ?_
            refine lv_sipush (v := nI (255)) hx hb dX4_feed_56 (by decide) ?_
            refine lv_iand hx hb dX4_feed_59 ?_
            have f4 := byteN_lt bv c1n
            refine nv_cv (show ((bv >>> (nI ((8 * c1n)) &&& 31)) &&& nI (255)) = nI (byteN bv c1n) from byteN_eq bv c1n) ?_
            refine nv_iast hx hb hK hP hD hS 9 0 rfl rfl (by omega) (by decide) dX4_feed_60 (fun H locs hP hD hS => ?_)
            have hP : va_P D vwCl (wN ci am (toB (toB X (X.2.2.2.2.1 + (nn - cn)) (fdB X.2.2.2.2.2.1 (X.2.2.2.2.1) bv nn (nn - cn))) (X.2.2.2.2.1 + (nn - cn)) (updF (fdB X.2.2.2.2.2.1 (X.2.2.2.2.1) bv nn (nn - cn)) ((X.2.2.2.2.1 + (nn - cn))) (byteN bv c1n))) kr q0 q1 q2 q3 q4 q5 iw kn y0 y1 y2 y3 y4 y5 y6) H := va_P.re (wN_tb ci am (toB X (X.2.2.2.2.1 + (nn - cn)) (fdB X.2.2.2.2.2.1 (X.2.2.2.2.1) bv nn (nn - cn))) kr q0 q1 q2 q3 q4 q5 iw kn y0 y1 y2 y3 y4 y5 y6 ((X.2.2.2.2.1 + (nn - cn))) (byteN bv c1n)) hP
            have hD : va_D (aM am) (wN ci am (toB (toB X (X.2.2.2.2.1 + (nn - cn)) (fdB X.2.2.2.2.2.1 (X.2.2.2.2.1) bv nn (nn - cn))) (X.2.2.2.2.1 + (nn - cn)) (updF (fdB X.2.2.2.2.2.1 (X.2.2.2.2.1) bv nn (nn - cn)) ((X.2.2.2.2.1 + (nn - cn))) (byteN bv c1n))) kr q0 q1 q2 q3 q4 q5 iw kn y0 y1 y2 y3 y4 y5 y6) := wN_D hI
            refine lv_aload_n hx hb dX4_feed_61 rfl (lv_at hl 1 rfl) ?_
            refine lv_dup hx hb dX4_feed_62 rfl ?_
            refine va_get (D := D) (ci := 4) (v := .int (nI ((X.2.2.2.2.1 + (nn - cn))))) (C := RX4) (T := TX4) (N := 24) hx hb hts hinX4 hown hK hP 0 rfl rfl 10 (by decide) (hts (.fieldLink RX4 246 "OneShortModel" "taped" "I") (List.mem_of_getElem? (i := 2) rfl)) (fun _ h9 => h9) rfl dX4_feed_63 ?_
            refine lv_iconst (v := nI (1)) hx hb dX4_feed_66 (by decide) ?_
            refine nv_iadd hx hb dX4_feed_67 ?_
            refine va_put (D := D) (ci := 4) (v := .int (nI (((X.2.2.2.2.1 + (nn - cn)) + 1)))) (ty := .int) (C := RX4) (T := TX4) (N := 24) hx hb hts hinX4 tyX4 tyX4_ok nmX4 hown hK hP hD hS 0 rfl rfl 10 (by decide) (hts (.fieldLink RX4 246 "OneShortModel" "taped" "I") (List.mem_of_getElem? (i := 2) rfl)) (fun _ h9 => h9) rfl (by decide +kernel) rfl rfl (Nat.le_of_ble_eq_true rfl) dX4_feed_68 (fun H locs hP hD hS => ?_)
            have hP : va_P D vwCl (wN ci am (toL (toB (toB X (X.2.2.2.2.1 + (nn - cn)) (fdB X.2.2.2.2.2.1 (X.2.2.2.2.1) bv nn (nn - cn))) (X.2.2.2.2.1 + (nn - cn)) (updF (fdB X.2.2.2.2.2.1 (X.2.2.2.2.1) bv nn (nn - cn)) ((X.2.2.2.2.1 + (nn - cn))) (byteN bv c1n))) (((X.2.2.2.2.1 + (nn - cn)) + 1))) kr q0 q1 q2 q3 q4 q5 iw kn y0 y1 y2 y3 y4 y5 y6) H := va_P.re (wN_tl ci am (toB (toB X (X.2.2.2.2.1 + (nn - cn)) (fdB X.2.2.2.2.2.1 (X.2.2.2.2.1) bv nn (nn - cn))) (X.2.2.2.2.1 + (nn - cn)) (updF (fdB X.2.2.2.2.2.1 (X.2.2.2.2.1) bv nn (nn - cn)) ((X.2.2.2.2.1 + (nn - cn))) (byteN bv c1n))) kr q0 q1 q2 q3 q4 q5 iw kn y0 y1 y2 y3 y4 y5 y6 (((X.2.2.2.2.1 + (nn - cn)) + 1))) hP
            have hD : va_D (aM am) (wN ci am (toL (toB (toB X (X.2.2.2.2.1 + (nn - cn)) (fdB X.2.2.2.2.2.1 (X.2.2.2.2.1) bv nn (nn - cn))) (X.2.2.2.2.1 + (nn - cn)) (updF (fdB X.2.2.2.2.2.1 (X.2.2.2.2.1) bv nn (nn - cn)) ((X.2.2.2.2.1 + (nn - cn))) (byteN bv c1n))) (((X.2.2.2.2.1 + (nn - cn)) + 1))) kr q0 q1 q2 q3 q4 q5 iw kn y0 y1 y2 y3 y4 y5 y6) := wN_D hI
            refine nv_iincm1 (lv' := [(3, .int (nI (c1n) - nI (1))), (0, .ref (am 0)), (1, .int (bv)), (2, .int (nI nn))]) hx hb dX4_feed_71 hl (k := 0) rfl (by decide) rfl (fun ls hl => ?_)
            refine lv_goto (tgt := 38) hx hb dX4_feed_74 (by decide) ?_
            exact ih38 (c1n) (by omega) (by omega) (nI (c1n) - nI (1)) rfl _ _ (va_P.re (by rw [show nn - c1n = (nn - cn) + 1 by omega]; rw [fdB, show nn - 1 - (nn - cn) = c1n by omega]; rfl) hP) hS ls (lv_sub hl [0, 1, 2, 3] rfl)
      exact L38 _ (nn) (Nat.lt_succ_self _) (by omega) (nI ((nn - 1))) (by rw [pk_sub (by omega)]) _ _ (va_P.re (by rw [Nat.sub_self]; rfl) hP) hS ls (lv_sub hl [0, 1, 2, 3] rfl)
    · refine lv_aload_n hx hb dX4_feed_27 rfl (lv_at hl 0 rfl) ?_
      refine lv_ldc (v := -1000002) hx hb hown (hts (.constant RX4 141 (-1000002)) (List.mem_of_getElem? (i := 3) rfl)) dX4_feed_28 ?_
      refine mu_V (n := 1) (As := [.int (-1000002)]) (rest := []) ⟨hx, hb, hml, hown, hts⟩ (c_X4_finding l D ci am X kr q0 q1 q2 q3 q4 q5 iw kn y0 y1 y2 y3 y4 y5 y6 hI (-1000002) (1) (by omega) (by decide)) gX4_feed_X4_finding rfl ⟨rfl, rfl⟩ (by decide +kernel) rfl ⟨Nat.le_of_ble_eq_true rfl, Nat.le_of_ble_eq_true rfl⟩ hE trivial hK hP (ci := 4) (q0 := 0) rfl rfl hl.1 rfl (Nat.le_of_ble_eq_true rfl) dX4_feed_30 ⟨Nat.zero_le _, Nat.zero_le _⟩ hS (fun _ h => h) (fun H1 locs hz hfr hB hS => ?_)
      have hP := hB
      have hP : va_P D vwCl (wN ci am (toF X (inc X.2.2.2.1 1)) kr q0 q1 q2 q3 q4 q5 iw kn y0 y1 y2 y3 y4 y5 y6) H1 := hP
      generalize H1 = H at hP hS ⊢
      have hD : va_D (aM am) (wN ci am (toF X (inc X.2.2.2.1 1)) kr q0 q1 q2 q3 q4 q5 iw kn y0 y1 y2 y3 y4 y5 y6) := wN_D hI
      have hp : p_feed X bv (nI nn) = (fnd 1, toF X (inc X.2.2.2.1 1)) := by first | (simp [p_feed, bk, fl_eq, c1, c2, t_nn]; done) | ((rw [show cn = 0 by omega]; simp [p_feed, bk, fl_eq, show X.2.2.2.2.1 + nn ≤ 120 by omega, c1, c2, t_nn]); done) | (simp [p_feed, bk, fl_eq, show ¬ X.2.2.2.2.1 + nn ≤ 120 by omega, c1, c2, t_nn]; done)
      refine nv_cv (show fnd 1 = (p_feed X bv (nI nn)).1 from by rw [hp]) ?_
      exact mu_iret hx hb hr hlocks hS ((by rw [hp]; exact ⟨_, _, _, _, _, _, _, _, _, _, _, _, _, _, _, hkr, hP⟩)) dX4_feed_33
  · refine lv_aload_n hx hb dX4_feed_9 rfl (lv_at hl 0 rfl) ?_
    refine lv_ldc (v := -1000001) hx hb hown (hts (.constant RX4 72 (-1000001)) (List.mem_of_getElem? (i := 1) rfl)) dX4_feed_10 ?_
    refine mu_V (n := 1) (As := [.int (-1000001)]) (rest := []) ⟨hx, hb, hml, hown, hts⟩ (c_X4_finding l D ci am X kr q0 q1 q2 q3 q4 q5 iw kn y0 y1 y2 y3 y4 y5 y6 hI (-1000001) (0) (by omega) (by decide)) gX4_feed_X4_finding rfl ⟨rfl, rfl⟩ (by decide +kernel) rfl ⟨Nat.le_of_ble_eq_true rfl, Nat.le_of_ble_eq_true rfl⟩ hE trivial hK hP (ci := 4) (q0 := 0) rfl rfl hl.1 rfl (Nat.le_of_ble_eq_true rfl) dX4_feed_12 ⟨Nat.zero_le _, Nat.zero_le _⟩ hS (fun _ h => h) (fun H1 locs hz hfr hB hS => ?_)
    have hP := hB
    have hP : va_P D vwCl (wN ci am (toF X (inc X.2.2.2.1 0)) kr q0 q1 q2 q3 q4 q5 iw kn y0 y1 y2 y3 y4 y5 y6) H1 := hP
    generalize H1 = H at hP hS ⊢
    have hD : va_D (aM am) (wN ci am (toF X (inc X.2.2.2.1 0)) kr q0 q1 q2 q3 q4 q5 iw kn y0 y1 y2 y3 y4 y5 y6) := wN_D hI
    have hp : p_feed X bv n = (fnd 0, toF X (inc X.2.2.2.1 0)) := by first | (simp [p_feed, bk, fl_eq, c1]; done) | ((rw [show cn = 0 by omega]; simp [p_feed, bk, fl_eq, show X.2.2.2.2.1 + nn ≤ 120 by omega, c1]); done) | (simp [p_feed, bk, fl_eq, show ¬ X.2.2.2.2.1 + nn ≤ 120 by omega, c1]; done)
    refine nv_cv (show fnd 0 = (p_feed X bv n).1 from by rw [hp]) ?_
    exact mu_iret hx hb hr hlocks hS ((by rw [hp]; exact ⟨_, _, _, _, _, _, _, _, _, _, _, _, _, _, _, hkr, hP⟩)) dX4_feed_15

set_option maxHeartbeats 4000000 in
set_option maxRecDepth 100000 in
/-- X4_status -/
theorem c_X4_status (l : Launch) (D : va_G) (ci : Nat → ClassId) (am : Nat → Nat) (X : AS) (kr : Nat → Int32) (q0 q1 q2 q3 q4 q5 : Int32) (iw : Bool) (kn : Nat → Option Nat) (y0 y1 y2 y3 y4 y5 y6 : Nat → Int32) (hI : injA am 16) (w : Int32) (hWX : WFX X) (hkr : kOK X kr) : Met l yX4_status wsX4_status ({ frames := 1, cells := 0, slots := 0, locals := 22 } : Room) (va_Pc [.ref (am 0), .int (w)] (ro_B D (tyL ci) (wN ci am X kr q0 q1 q2 q3 q4 q5 iw kn y0 y1 y2 y3 y4 y5 y6) (enT))) (mu_Q (aM am) (some (.int ((p_status X w).1))) (fun H => ∃ (kr : Nat → Int32) (q0 : Int32) (q1 : Int32) (q2 : Int32) (q3 : Int32) (q4 : Int32) (q5 : Int32) (iw : Bool) (y0 : Nat → Int32) (y1 : Nat → Int32) (y2 : Nat → Int32) (y3 : Nat → Int32) (y4 : Nat → Int32) (y5 : Nat → Int32) (y6 : Nat → Int32), kOK (p_status X w).2 kr ∧ va_P D vwCl (wN ci am ((p_status X w).2) kr q0 q1 q2 q3 q4 q5 iw kn y0 y1 y2 y3 y4 y5 y6) H)) 0 0 (aM am) := by
  refine mu_Met (cc := cX4_status) (maxL := 2) (ret := (some .int)) [(0, .ref (am 0)), (1, .int (w))] (wN_D hI) (by decide) rfl (Nat.le_of_ble_eq_true rfl) rfl ?_
  intro p e s m below meth c H locs hx hb hml hr hlocks hts hown hP hK hs0 hD hS ls hl
  have hown : s.vm.findClass RX4 = some m.cls := hown
  have hinX4 : ∀ w ∈ wsX40, w ∈ wsX4_status := by decide +kernel
  have hE := hE_T
  have hWF := hWX.w
  have f_n := hWF.n
  have f_e := hWX.e
  have f_tl := hWX.t
  refine lv_iload_n hx hb dX4_status_0 rfl (lv_at hl 1 rfl) ?_
  refine lv_iconst (v := -1) hx hb dX4_status_1 (by decide) ?_
  refine lv_bipush (v := nI (6)) hx hb dX4_status_2 (by decide) ?_
  refine ro_S (n := 3) (As := [.int (w), .int (-1), .int (nI 6)]) (rest := []) ⟨hx, hb, hml, hown, hts⟩ (c_X4_within l D ci (wN ci am X kr q0 q1 q2 q3 q4 q5 iw kn y0 y1 y2 y3 y4 y5 y6) (w) (-1) (nI (6)) ) gX4_status_X4_within rfl ⟨rfl, rfl⟩ (by decide +kernel) rfl ⟨Nat.le_of_ble_eq_true rfl, Nat.le_of_ble_eq_true rfl⟩ hE trivial hK hP hl.1 rfl (Nat.le_of_ble_eq_true rfl) dX4_status_4 ⟨Nat.zero_le _, Nat.zero_le _⟩ ?_
  refine nv_cv (congrArg bI (wth_m1 w)) ?_
  refine nv_ifeq_b (tgt := 21) hx hb dX4_status_7 (by decide) (fun c1 => ?_) (fun c1 => ?_)
  · obtain ⟨q_1, q_2⟩ : w ≠ -1 ∧ inN w 7 = false := by simpa using c1
    refine lv_aload_n hx hb dX4_status_21 rfl (lv_at hl 0 rfl) ?_
    refine lv_ldc (v := -1000001) hx hb hown (hts (.constant RX4 72 (-1000001)) (List.mem_of_getElem? (i := 2) rfl)) dX4_status_22 ?_
    refine mu_V (n := 1) (As := [.int (-1000001)]) (rest := []) ⟨hx, hb, hml, hown, hts⟩ (c_X4_finding l D ci am X kr q0 q1 q2 q3 q4 q5 iw kn y0 y1 y2 y3 y4 y5 y6 hI (-1000001) (0) (by omega) (by decide)) gX4_status_X4_finding rfl ⟨rfl, rfl⟩ (by decide +kernel) rfl ⟨Nat.le_of_ble_eq_true rfl, Nat.le_of_ble_eq_true rfl⟩ hE trivial hK hP (ci := 4) (q0 := 0) rfl rfl hl.1 rfl (Nat.le_of_ble_eq_true rfl) dX4_status_24 ⟨Nat.zero_le _, Nat.zero_le _⟩ hS (fun _ h => h) (fun H1 locs hz hfr hB hS => ?_)
    have hP := hB
    have hP : va_P D vwCl (wN ci am (toF X (inc X.2.2.2.1 0)) kr q0 q1 q2 q3 q4 q5 iw kn y0 y1 y2 y3 y4 y5 y6) H1 := hP
    generalize H1 = H at hP hS ⊢
    have hD : va_D (aM am) (wN ci am (toF X (inc X.2.2.2.1 0)) kr q0 q1 q2 q3 q4 q5 iw kn y0 y1 y2 y3 y4 y5 y6) := wN_D hI
    have hp : p_status X w = (fnd 0, toF X (inc X.2.2.2.1 0)) := by first | (simp [p_status, bk, fl_eq, Nat.lt_irrefl, q_1, q_2]; done) | (simp [p_status, fdm, Nat.lt_irrefl, q_1, q_2]; done) | (simp [p_status, bk, fdm, Nat.lt_irrefl, q_1, q_2]; done)
    refine nv_cv (show fnd 0 = (p_status X w).1 from by rw [hp]) ?_
    exact mu_iret hx hb hr hlocks hS ((by rw [hp]; exact ⟨_, _, _, _, _, _, _, _, _, _, _, _, _, _, _, hkr, hP⟩)) dX4_status_27
  · rcases (show w = -1 ∨ inN w 7 = true by simpa using c1) with h9 | h9
    · obtain rfl : w = -1 := h9
      refine lv_aload_n hx hb dX4_status_10 rfl (lv_at hl 0 rfl) ?_
      refine va_get (D := D) (ci := 4) (v := .ref (am 4)) (C := RX4) (T := TX4) (N := 24) hx hb hts hinX4 hown hK hP 0 rfl rfl 4 (by decide) (hts (.fieldLink RX4 19 "OneShortModel" "found" "[I") (List.mem_of_getElem? (i := 1) rfl)) (fun _ h9 => h9) rfl dX4_status_11 ?_
      refine lv_iload_n hx hb dX4_status_14 rfl (lv_at hl 1 rfl) ?_
      refine lv_iconst (v := nI (1)) hx hb dX4_status_15 (by decide) ?_
      refine lv_iadd hx hb dX4_status_16 ?_
      refine nv_cv (show (-1 + nI (1)) = nI (0) from by decide) ?_
      refine nv_iald (v := nI ((fdm X.2.2.2.1) (0))) hx hb hK hP 4 0 rfl rfl (by omega) (by decide) rfl dX4_status_17 ?_
      refine lv_goto (tgt := 27) hx hb dX4_status_18 (by decide) ?_
      have hp : p_status X (-1) = (nI ((fdm X.2.2.2.1) (0)), X) := by first | (simp [p_status, bk, fl_eq, Nat.lt_irrefl]; done) | (simp [p_status, fdm, Nat.lt_irrefl]; done) | (simp [p_status, bk, fdm, Nat.lt_irrefl]; done)
      refine nv_cv (show nI ((fdm X.2.2.2.1) (0)) = (p_status X (-1)).1 from by rw [hp]) ?_
      exact mu_iret hx hb hr hlocks hS ((by rw [hp]; exact ⟨_, _, _, _, _, _, _, _, _, _, _, _, _, _, _, hkr, hP⟩)) dX4_status_27
    · obtain ⟨wn, h_wn, rfl⟩ := in_ex h9 (by decide)
      have t_wn : tn (nI wn) = wn := tn_nI (by omega)
      have q_1 : nI wn ≠ -1 := nI_m1 (by omega)
      refine lv_aload_n hx hb dX4_status_10 rfl (lv_at hl 0 rfl) ?_
      refine va_get (D := D) (ci := 4) (v := .ref (am 4)) (C := RX4) (T := TX4) (N := 24) hx hb hts hinX4 hown hK hP 0 rfl rfl 4 (by decide) (hts (.fieldLink RX4 19 "OneShortModel" "found" "[I") (List.mem_of_getElem? (i := 1) rfl)) (fun _ h9 => h9) rfl dX4_status_11 ?_
      refine lv_iload_n hx hb dX4_status_14 rfl (lv_at hl 1 rfl) ?_
      refine lv_iconst (v := nI (1)) hx hb dX4_status_15 (by decide) ?_
      refine nv_iadd hx hb dX4_status_16 ?_
      refine nv_iald (v := nI ((fdm X.2.2.2.1) ((wn + 1)))) hx hb hK hP 4 0 rfl rfl (by omega) (by decide) rfl dX4_status_17 ?_
      refine lv_goto (tgt := 27) hx hb dX4_status_18 (by decide) ?_
      have hp : p_status X (nI wn) = (nI ((fdm X.2.2.2.1) ((wn + 1))), X) := by first | (simp [p_status, bk, fl_eq, Nat.lt_irrefl, h9, t_wn, q_1]; done) | (simp [p_status, fdm, Nat.lt_irrefl, h9, t_wn, q_1]; done) | (simp [p_status, bk, fdm, Nat.lt_irrefl, h9, t_wn, q_1]; done)
      refine nv_cv (show nI ((fdm X.2.2.2.1) ((wn + 1))) = (p_status X (nI wn)).1 from by rw [hp]) ?_
      exact mu_iret hx hb hr hlocks hS ((by rw [hp]; exact ⟨_, _, _, _, _, _, _, _, _, _, _, _, _, _, _, hkr, hP⟩)) dX4_status_27
