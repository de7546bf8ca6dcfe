/-! walks laid by program -/
set_option maxHeartbeats 4000000 in
set_option maxRecDepth 100000 in
/-- X4_plays -/
theorem c_X4_plays (l : Launch) (D : va_G) (ci : Nat → ClassId) (am : Nat → Nat) (X : AS) (kr : Nat → Int32) (q0 q1 q2 q3 q4 q5 : Int32) (iw : Bool) (kn : Nat → Option Nat) (y0 y1 y2 y3 y4 y5 y6 : Nat → Int32) (u bb : Nat) (hWF : WF X.1) (h_u : u < 8) (h_bb : bb < 12) : Met l yX4_plays wsX4_plays ({ frames := 3, cells := 0, slots := 0, locals := 66 } : Room) (va_Pc [.ref (am 0), .int (nI u), .int (nI bb)] (ro_B D (tyL ci) (wN ci am X kr q0 q1 q2 q3 q4 q5 iw kn y0 y1 y2 y3 y4 y5 y6) (enT))) (ro_Q (some (.int (bI (plays X.1 u bb))))) 0 0 (fun _ => False) := by
  refine ro_Met (cc := cX4_plays) (maxL := 6) (ret := (some .boolean)) [(0, .ref (am 0)), (1, .int (nI u)), (2, .int (nI bb))] (by decide) rfl (Nat.le_of_ble_eq_true rfl) rfl ?_
  intro p e s m below meth c hx hb hml hr hlocks hts hown hP hK hs ls hl
  have hown : s.vm.findClass RX4 = some m.cls := hown
  have hinX4 : ∀ w ∈ wsX40, w ∈ wsX4_plays := by decide +kernel
  have hE := hE_T
  have f_n := hWF.n
  refine lv_aload_n hx hb dX4_plays_0 rfl (lv_at hl 0 rfl) ?_
  refine lv_iload_n hx hb dX4_plays_1 rfl (lv_at hl 1 rfl) ?_
  refine lv_iconst (v := nI (2)) hx hb dX4_plays_2 (by decide) ?_
  refine ro_V (n := 2) (As := [.int (nI u), .int (nI 2)]) (rest := []) ⟨hx, hb, hml, hown, hts⟩ (c_X4_playerIs l D ci am X kr q0 q1 q2 q3 q4 q5 iw kn y0 y1 y2 y3 y4 y5 y6 (u) (2) hWF (by omega) (by omega)) gX4_plays_X4_playerIs rfl ⟨rfl, rfl⟩ (by decide +kernel) rfl ⟨Nat.le_of_ble_eq_true rfl, Nat.le_of_ble_eq_true rfl⟩ hE hs hK hP (ci := 4) (q0 := 0) rfl rfl hl.1 rfl (Nat.le_of_ble_eq_true rfl) dX4_plays_3 ⟨Nat.zero_le _, Nat.zero_le _⟩ ?_
  refine nv_cv (show nI (X.1 (2 + 1) u) = nI (X.1 3 u) from rfl) ?_
  have f1 := hWF.f3 u
  refine lv_istore_n (lv' := [(3, .int (nI (X.1 3 u))), (0, .ref (am 0)), (1, .int (nI u)), (2, .int (nI bb))]) hx hb dX4_plays_6 rfl hl (by decide) rfl (fun ls hl => ?_)
  refine lv_aload_n hx hb dX4_plays_7 rfl (lv_at hl 1 rfl) ?_
  refine va_get (D := D) (ci := 4) (v := .ref (am 1)) (C := RX4) (T := TX4) (N := 24) hx hb hts hinX4 hown hK hP 0 rfl rfl 0 (by decide) (hts (.fieldLink RX4 9 "OneShortModel" "now" "[I") (List.mem_of_getElem? (i := 1) rfl)) (fun _ h9 => h9) rfl dX4_plays_8 ?_
  refine lv_iconst (v := nI (3)) hx hb dX4_plays_11 (by decide) ?_
  refine lv_iload_n hx hb dX4_plays_12 rfl (lv_at hl 3 rfl) ?_
  refine nv_iadd hx hb dX4_plays_13 ?_
  have f2 := hWF.f0 bb
  refine nv_iald (v := nI (X.1 0 bb)) hx hb hK hP 1 0 rfl rfl (by omega) (by decide) (pk_bar X.1 (by omega)) dX4_plays_14 ?_
  refine lv_iload_n hx hb dX4_plays_15 rfl (lv_at hl 0 rfl) ?_
  refine ro_S (n := 2) (As := [.int (nI (X.1 0 bb)), .int (nI (X.1 3 u))]) (rest := []) ⟨hx, hb, hml, hown, hts⟩ (c_X4_has l D ci (wN ci am X kr q0 q1 q2 q3 q4 q5 iw kn y0 y1 y2 y3 y4 y5 y6) (X.1 0 bb) (X.1 3 u) (by omega) (by omega)) gX4_plays_X4_has rfl ⟨rfl, rfl⟩ (by decide +kernel) rfl ⟨Nat.le_of_ble_eq_true rfl, Nat.le_of_ble_eq_true rfl⟩ hE hs hK hP hl.1 rfl (Nat.le_of_ble_eq_true rfl) dX4_plays_16 ⟨Nat.zero_le _, Nat.zero_le _⟩ ?_
  refine lv_istore (lv' := [(4, .int (bI ((X.1 0 bb).testBit (X.1 3 u)))), (3, .int (nI (X.1 3 u))), (0, .ref (am 0)), (1, .int (nI u)), (2, .int (nI bb))]) hx hb dX4_plays_19 hl (by decide) rfl (fun ls hl => ?_)
  refine lv_iload hx hb dX4_plays_21 (lv_at hl 0 rfl) ?_
  refine nv_ifne_b (tgt := 46) hx hb dX4_plays_23 (by decide) (fun c3 => ?_) (fun c3 => ?_)
  · refine lv_iconst (v := nI (1)) hx hb dX4_plays_46 (by decide) ?_
    refine lv_goto (tgt := 51) hx hb dX4_plays_47 (by decide) ?_
    refine lv_istore (lv' := [(5, .int (nI 1)), (4, .int (bI ((X.1 0 bb).testBit (X.1 3 u)))), (3, .int (nI (X.1 3 u))), (0, .ref (am 0)), (1, .int (nI u)), (2, .int (nI bb))]) hx hb dX4_plays_51 hl (by decide) rfl (fun ls hl => ?_)
    refine lv_aload_n hx hb dX4_plays_53 rfl (lv_at hl 3 rfl) ?_
    refine lv_iload_n hx hb dX4_plays_54 rfl (lv_at hl 4 rfl) ?_
    refine lv_iconst (v := nI (0)) hx hb dX4_plays_55 (by decide) ?_
    refine ro_V (n := 2) (As := [.int (nI u), .int (nI 0)]) (rest := []) ⟨hx, hb, hml, hown, hts⟩ (c_X4_playerIs l D ci am X kr q0 q1 q2 q3 q4 q5 iw kn y0 y1 y2 y3 y4 y5 y6 (u) (0) hWF (by omega) (by omega)) gX4_plays_X4_playerIs rfl ⟨rfl, rfl⟩ (by decide +kernel) rfl ⟨Nat.le_of_ble_eq_true rfl, Nat.le_of_ble_eq_true rfl⟩ hE hs hK hP (ci := 4) (q0 := 0) rfl rfl hl.1 rfl (Nat.le_of_ble_eq_true rfl) dX4_plays_56 ⟨Nat.zero_le _, Nat.zero_le _⟩ ?_
    refine nv_cv (show nI (X.1 (0 + 1) u) = nI (X.1 1 u) from rfl) ?_
    have f4 := hWF.f1 u
    rcases (show X.1 1 u = 1 ∨ X.1 1 u = 2 ∨ X.1 1 u = 3 ∨ X.1 1 u = 4 ∨ X.1 1 u = 5 ∨ X.1 1 u = 6 ∨ (X.1 1 u < 1 ∨ 6 < X.1 1 u) by omega) with t5 | t5 | t5 | t5 | t5 | t5 | t5
    · refine nv_cv (show nI (X.1 1 u) = nI 1 from congrArg nI t5) ?_
      refine lv_tableIn (x := nI 1) (off := 37) (tgt := 96) hx hb dX4_plays_59 (by decide) (by decide) (by decide) (by decide) ?_
      refine lv_iload hx hb dX4_plays_96 (lv_at hl 1 rfl) ?_
      refine nv_ifeq_b (tgt := 110) hx hb dX4_plays_98 (by decide) (fun h9 => absurd (h9.symm.trans c3) (by decide)) (fun _ => ?_)
      refine lv_iload_n hx hb dX4_plays_101 rfl (lv_at hl 5 rfl) ?_
      refine lv_iconst (v := nI (2)) hx hb dX4_plays_102 (by decide) ?_
      refine nv_icmp_le (tgt := 110) hx hb (by omega) (by omega) dX4_plays_103 (by decide) (fun c7 => ?_) (fun c7 => ?_)
      · refine lv_iconst (v := nI (0)) hx hb dX4_plays_110 (by decide) ?_
        refine nv_cv (show nI (0) = bI (plays X.1 u bb) from nv_f (by rw [mp_1 h_bb (by omega)]; first | (simp [mOwn, mTwo, c3, t5, c7]; done) | (simp [mOwn, mTwo, c3, t5, c7] <;> omega))) ?_
        exact ro_zret hx hb hr hlocks dX4_plays_111
      · refine lv_iconst (v := nI (1)) hx hb dX4_plays_106 (by decide) ?_
        refine lv_goto (tgt := 111) hx hb dX4_plays_107 (by decide) ?_
        refine nv_cv (show nI (1) = bI (plays X.1 u bb) from nv_t (by rw [mp_1 h_bb (by omega)]; first | (simp [mOwn, mTwo, c3, t5, c7]; done) | (simp [mOwn, mTwo, c3, t5, c7] <;> omega))) ?_
        exact ro_zret hx hb hr hlocks dX4_plays_111
    · refine nv_cv (show nI (X.1 1 u) = nI 2 from congrArg nI t5) ?_
      refine lv_tableIn (x := nI 2) (off := 76) (tgt := 135) hx hb dX4_plays_59 (by decide) (by decide) (by decide) (by decide) ?_
      refine lv_iload hx hb dX4_plays_135 (lv_at hl 0 rfl) ?_
      refine nv_cv (show nI (1) = bI (plays X.1 u bb) from nv_t (by rw [mp_2 h_bb (by omega)]; first | (simp [mOwn, mTwo, c3, t5]; done) | (simp [mOwn, mTwo, c3, t5] <;> omega))) ?_
      exact ro_zret hx hb hr hlocks dX4_plays_137
    · refine nv_cv (show nI (X.1 1 u) = nI 3 from congrArg nI t5) ?_
      refine lv_tableIn (x := nI 3) (off := 79) (tgt := 138) hx hb dX4_plays_59 (by decide) (by decide) (by decide) (by decide) ?_
      refine lv_iload hx hb dX4_plays_138 (lv_at hl 0 rfl) ?_
      refine lv_if_eq (tgt := 155) hx hb dX4_plays_140 (by decide) (fun h => absurd h (by decide)) (fun _ => ?_)
      refine lv_aload_n hx hb dX4_plays_143 rfl (lv_at hl 3 rfl) ?_
      refine lv_iload_n hx hb dX4_plays_144 rfl (lv_at hl 4 rfl) ?_
      refine ro_V (n := 1) (As := [.int (nI u)]) (rest := []) ⟨hx, hb, hml, hown, hts⟩ (c_X4_isAnotherFirst l D ci am X kr q0 q1 q2 q3 q4 q5 iw kn y0 y1 y2 y3 y4 y5 y6 (u) hWF (by omega)) gX4_plays_X4_isAnotherFirst rfl ⟨rfl, rfl⟩ (by decide +kernel) rfl ⟨Nat.le_of_ble_eq_true rfl, Nat.le_of_ble_eq_true rfl⟩ hE hs hK hP (ci := 4) (q0 := 0) rfl rfl hl.1 rfl (Nat.le_of_ble_eq_true rfl) dX4_plays_145 ⟨Nat.zero_le _, Nat.zero_le _⟩ ?_
      refine nv_ifeq_b (tgt := 155) hx hb dX4_plays_148 (by decide) (fun c9 => ?_) (fun c9 => ?_)
      · refine lv_iconst (v := nI (0)) hx hb dX4_plays_155 (by decide) ?_
        refine nv_cv (show nI (0) = bI (plays X.1 u bb) from nv_f (by rw [mp_3 h_bb (by omega)]; first | (simp [mOwn, mTwo, c3, t5, c9]; done) | (simp [mOwn, mTwo, c3, t5, c9] <;> omega))) ?_
        exact ro_zret hx hb hr hlocks dX4_plays_156
      · refine lv_iconst (v := nI (1)) hx hb dX4_plays_151 (by decide) ?_
        refine lv_goto (tgt := 156) hx hb dX4_plays_152 (by decide) ?_
        refine nv_cv (show nI (1) = bI (plays X.1 u bb) from nv_t (by rw [mp_3 h_bb (by omega)]; first | (simp [mOwn, mTwo, c3, t5, c9]; done) | (simp [mOwn, mTwo, c3, t5, c9] <;> omega))) ?_
        exact ro_zret hx hb hr hlocks dX4_plays_156
    · refine nv_cv (show nI (X.1 1 u) = nI 4 from congrArg nI t5) ?_
      refine lv_tableIn (x := nI 4) (off := 98) (tgt := 157) hx hb dX4_plays_59 (by decide) (by decide) (by decide) (by decide) ?_
      refine lv_iload hx hb dX4_plays_157 (lv_at hl 0 rfl) ?_
      refine lv_if_eq (tgt := 170) hx hb dX4_plays_159 (by decide) (fun h => absurd h (by decide)) (fun _ => ?_)
      refine lv_aload_n hx hb dX4_plays_162 rfl (lv_at hl 3 rfl) ?_
      refine lv_iload_n hx hb dX4_plays_163 rfl (lv_at hl 4 rfl) ?_
      refine ro_V (n := 1) (As := [.int (nI u)]) (rest := []) ⟨hx, hb, hml, hown, hts⟩ (c_X4_isAnotherFirst l D ci am X kr q0 q1 q2 q3 q4 q5 iw kn y0 y1 y2 y3 y4 y5 y6 (u) hWF (by omega)) gX4_plays_X4_isAnotherFirst rfl ⟨rfl, rfl⟩ (by decide +kernel) rfl ⟨Nat.le_of_ble_eq_true rfl, Nat.le_of_ble_eq_true rfl⟩ hE hs hK hP (ci := 4) (q0 := 0) rfl rfl hl.1 rfl (Nat.le_of_ble_eq_true rfl) dX4_plays_164 ⟨Nat.zero_le _, Nat.zero_le _⟩ ?_
      refine nv_ifne_b (tgt := 181) hx hb dX4_plays_167 (by decide) (fun c11 => ?_) (fun c11 => ?_)
      · refine lv_iconst (v := nI (1)) hx hb dX4_plays_181 (by decide) ?_
        refine lv_goto (tgt := 186) hx hb dX4_plays_182 (by decide) ?_
        refine nv_cv (show nI (1) = bI (plays X.1 u bb) from nv_t (by rw [mp_4 h_bb (by omega)]; first | (simp [mOwn, mTwo, c3, t5, c11]; done) | (simp [mOwn, mTwo, c3, t5, c11] <;> omega))) ?_
        exact ro_zret hx hb hr hlocks dX4_plays_186
      · refine lv_aload_n hx hb dX4_plays_170 rfl (lv_at hl 3 rfl) ?_
        refine lv_iload_n hx hb dX4_plays_171 rfl (lv_at hl 4 rfl) ?_
        refine lv_iconst (v := nI (4)) hx hb dX4_plays_172 (by decide) ?_
        refine ro_V (n := 2) (As := [.int (nI u), .int (nI 4)]) (rest := []) ⟨hx, hb, hml, hown, hts⟩ (c_X4_playerIs l D ci am X kr q0 q1 q2 q3 q4 q5 iw kn y0 y1 y2 y3 y4 y5 y6 (u) (4) hWF (by omega) (by omega)) gX4_plays_X4_playerIs rfl ⟨rfl, rfl⟩ (by decide +kernel) rfl ⟨Nat.le_of_ble_eq_true rfl, Nat.le_of_ble_eq_true rfl⟩ hE hs hK hP (ci := 4) (q0 := 0) rfl rfl hl.1 rfl (Nat.le_of_ble_eq_true rfl) dX4_plays_173 ⟨Nat.zero_le _, Nat.zero_le _⟩ ?_
        refine nv_cv (show nI (X.1 (4 + 1) u) = nI (X.1 5 u) from rfl) ?_
        have f12 := hWF.f5 u
        refine lv_bipush (v := nI (80)) hx hb dX4_plays_176 (by decide) ?_
        refine nv_icmp_lt (tgt := 185) hx hb (by omega) (by omega) dX4_plays_178 (by decide) (fun c13 => ?_) (fun c13 => ?_)
        · refine lv_iconst (v := nI (0)) hx hb dX4_plays_185 (by decide) ?_
          refine nv_cv (show nI (0) = bI (plays X.1 u bb) from nv_f (by rw [mp_4 h_bb (by omega)]; first | (simp [mOwn, mTwo, c3, t5, c11, c13]; done) | (simp [mOwn, mTwo, c3, t5, c11, c13] <;> omega))) ?_
          exact ro_zret hx hb hr hlocks dX4_plays_186
        · refine lv_iconst (v := nI (1)) hx hb dX4_plays_181 (by decide) ?_
          refine lv_goto (tgt := 186) hx hb dX4_plays_182 (by decide) ?_
          refine nv_cv (show nI (1) = bI (plays X.1 u bb) from nv_t (by rw [mp_4 h_bb (by omega)]; first | (simp [mOwn, mTwo, c3, t5, c11, c13]; done) | (simp [mOwn, mTwo, c3, t5, c11, c13] <;> omega))) ?_
          exact ro_zret hx hb hr hlocks dX4_plays_186
    · refine nv_cv (show nI (X.1 1 u) = nI 5 from congrArg nI t5) ?_
      refine lv_tableIn (x := nI 5) (off := 128) (tgt := 187) hx hb dX4_plays_59 (by decide) (by decide) (by decide) (by decide) ?_
      refine lv_iload hx hb dX4_plays_187 (lv_at hl 1 rfl) ?_
      refine nv_cv (show bI ((X.1 0 bb).testBit (X.1 3 u)) = bI (plays X.1 u bb) from congrArg bI (by rw [(show plays X.1 u bb = mOwn X.1 u bb from by rcases (show X.1 1 u = 0 ∨ X.1 1 u = 5 by omega) with h9 | h9; exact mp_0 h_bb h9; exact mp_5 h_bb h9)]; rfl)) ?_
      exact ro_zret hx hb hr hlocks dX4_plays_189
    · refine nv_cv (show nI (X.1 1 u) = nI 6 from congrArg nI t5) ?_
      refine lv_tableIn (x := nI 6) (off := 53) (tgt := 112) hx hb dX4_plays_59 (by decide) (by decide) (by decide) (by decide) ?_
      refine lv_iload hx hb dX4_plays_112 (lv_at hl 1 rfl) ?_
      refine nv_ifeq_b (tgt := 133) hx hb dX4_plays_114 (by decide) (fun h9 => absurd (h9.symm.trans c3) (by decide)) (fun _ => ?_)
      refine lv_iload_n hx hb dX4_plays_117 rfl (lv_at hl 5 rfl) ?_
      refine lv_iconst (v := nI (2)) hx hb dX4_plays_118 (by decide) ?_
      refine nv_icmp_le (tgt := 133) hx hb (by omega) (by omega) dX4_plays_119 (by decide) (fun c15 => ?_) (fun c15 => ?_)
      · refine lv_iconst (v := nI (0)) hx hb dX4_plays_133 (by decide) ?_
        refine nv_cv (show nI (0) = bI (plays X.1 u bb) from nv_f (by rw [mp_6 h_bb (by omega)]; first | (simp [mOwn, mTwo, c3, t5, c15]; done) | (simp [mOwn, mTwo, c3, t5, c15] <;> omega))) ?_
        exact ro_zret hx hb hr hlocks dX4_plays_134
      · refine lv_iload_n hx hb dX4_plays_122 rfl (lv_at hl 5 rfl) ?_
        refine lv_iconst (v := nI (2)) hx hb dX4_plays_123 (by decide) ?_
        refine nv_irem hx hb (by omega) (by omega) (by omega) dX4_plays_124 ?_
        refine lv_iconst (v := nI (1)) hx hb dX4_plays_125 (by decide) ?_
        refine nv_icmp_ne (tgt := 133) hx hb (by omega) (by omega) dX4_plays_126 (by decide) (fun c16 => ?_) (fun c16 => ?_)
        · refine lv_iconst (v := nI (0)) hx hb dX4_plays_133 (by decide) ?_
          refine nv_cv (show nI (0) = bI (plays X.1 u bb) from nv_f (by rw [mp_6 h_bb (by omega)]; first | (simp [mOwn, mTwo, c3, t5, c15, c16]; done) | (simp [mOwn, mTwo, c3, t5, c15, c16] <;> omega))) ?_
          exact ro_zret hx hb hr hlocks dX4_plays_134
        · refine lv_iconst (v := nI (1)) hx hb dX4_plays_129 (by decide) ?_
          refine lv_goto (tgt := 134) hx hb dX4_plays_130 (by decide) ?_
          refine nv_cv (show nI (1) = bI (plays X.1 u bb) from nv_t (by rw [mp_6 h_bb (by omega)]; first | (simp [mOwn, mTwo, c3, t5, c15, c16]; done) | (simp [mOwn, mTwo, c3, t5, c15, c16] <;> omega))) ?_
          exact ro_zret hx hb hr hlocks dX4_plays_134
    · refine lv_tableOut (tgt := 187) hx hb dX4_plays_59 (by rw [nI_toInt (by omega)]; omega) (by decide) ?_
      refine lv_iload hx hb dX4_plays_187 (lv_at hl 1 rfl) ?_
      refine nv_cv (show bI ((X.1 0 bb).testBit (X.1 3 u)) = bI (plays X.1 u bb) from congrArg bI (by rw [(show plays X.1 u bb = mOwn X.1 u bb from by rcases (show X.1 1 u = 0 ∨ X.1 1 u = 5 by omega) with h9 | h9; exact mp_0 h_bb h9; exact mp_5 h_bb h9)]; rfl)) ?_
      exact ro_zret hx hb hr hlocks dX4_plays_189
  · refine lv_aload_n hx hb dX4_plays_26 rfl (lv_at hl 2 rfl) ?_
    refine va_get (D := D) (ci := 4) (v := .ref (am 1)) (C := RX4) (T := TX4) (N := 24) hx hb hts hinX4 hown hK hP 0 rfl rfl 0 (by decide) (hts (.fieldLink RX4 9 "OneShortModel" "now" "[I") (List.mem_of_getElem? (i := 1) rfl)) (fun _ h9 => h9) rfl dX4_plays_27 ?_
    refine lv_iconst (v := nI (3)) hx hb dX4_plays_30 (by decide) ?_
    refine lv_iload_n hx hb dX4_plays_31 rfl (lv_at hl 4 rfl) ?_
    refine nv_iadd hx hb dX4_plays_32 ?_
    have f17 := hWF.f0 bb
    refine nv_iald (v := nI (X.1 0 bb)) hx hb hK hP 1 0 rfl rfl (by omega) (by decide) (pk_bar X.1 (by omega)) dX4_plays_33 ?_
    refine lv_iload_n hx hb dX4_plays_34 rfl (lv_at hl 1 rfl) ?_
    refine lv_iconst (v := nI (1)) hx hb dX4_plays_35 (by decide) ?_
    refine nv_iadd hx hb dX4_plays_36 ?_
    refine lv_bipush (v := nI (6)) hx hb dX4_plays_37 (by decide) ?_
    refine nv_irem hx hb (by omega) (by omega) (by omega) dX4_plays_39 ?_
    refine ro_S (n := 2) (As := [.int (nI (X.1 0 bb)), .int (nI (((X.1 3 u + 1) % 6)))]) (rest := []) ⟨hx, hb, hml, hown, hts⟩ (c_X4_has l D ci (wN ci am X kr q0 q1 q2 q3 q4 q5 iw kn y0 y1 y2 y3 y4 y5 y6) (X.1 0 bb) (((X.1 3 u + 1) % 6)) (by omega) (by omega)) gX4_plays_X4_has rfl ⟨rfl, rfl⟩ (by decide +kernel) rfl ⟨Nat.le_of_ble_eq_true rfl, Nat.le_of_ble_eq_true rfl⟩ hE hs hK hP hl.1 rfl (Nat.le_of_ble_eq_true rfl) dX4_plays_40 ⟨Nat.zero_le _, Nat.zero_le _⟩ ?_
    refine nv_ifeq_b (tgt := 50) hx hb dX4_plays_43 (by decide) (fun c18 => ?_) (fun c18 => ?_)
    · refine lv_iconst (v := nI (0)) hx hb dX4_plays_50 (by decide) ?_
      refine lv_istore (lv' := [(5, .int (nI 0)), (4, .int (bI ((X.1 0 bb).testBit (X.1 3 u)))), (3, .int (nI (X.1 3 u))), (0, .ref (am 0)), (1, .int (nI u)), (2, .int (nI bb))]) hx hb dX4_plays_51 hl (by decide) rfl (fun ls hl => ?_)
      refine lv_aload_n hx hb dX4_plays_53 rfl (lv_at hl 3 rfl) ?_
      refine lv_iload_n hx hb dX4_plays_54 rfl (lv_at hl 4 rfl) ?_
      refine lv_iconst (v := nI (0)) hx hb dX4_plays_55 (by decide) ?_
      refine ro_V (n := 2) (As := [.int (nI u), .int (nI 0)]) (rest := []) ⟨hx, hb, hml, hown, hts⟩ (c_X4_playerIs l D ci am X kr q0 q1 q2 q3 q4 q5 iw kn y0 y1 y2 y3 y4 y5 y6 (u) (0) hWF (by omega) (by omega)) gX4_plays_X4_playerIs rfl ⟨rfl, rfl⟩ (by decide +kernel) rfl ⟨Nat.le_of_ble_eq_true rfl, Nat.le_of_ble_eq_true rfl⟩ hE hs hK hP (ci := 4) (q0 := 0) rfl rfl hl.1 rfl (Nat.le_of_ble_eq_true rfl) dX4_plays_56 ⟨Nat.zero_le _, Nat.zero_le _⟩ ?_
      refine nv_cv (show nI (X.1 (0 + 1) u) = nI (X.1 1 u) from rfl) ?_
      have f19 := hWF.f1 u
      rcases (show X.1 1 u = 1 ∨ X.1 1 u = 2 ∨ X.1 1 u = 3 ∨ X.1 1 u = 4 ∨ X.1 1 u = 5 ∨ X.1 1 u = 6 ∨ (X.1 1 u < 1 ∨ 6 < X.1 1 u) by omega) with t20 | t20 | t20 | t20 | t20 | t20 | t20
      · refine nv_cv (show nI (X.1 1 u) = nI 1 from congrArg nI t20) ?_
        refine lv_tableIn (x := nI 1) (off := 37) (tgt := 96) hx hb dX4_plays_59 (by decide) (by decide) (by decide) (by decide) ?_
        refine lv_iload hx hb dX4_plays_96 (lv_at hl 1 rfl) ?_
        refine nv_ifeq_b (tgt := 110) hx hb dX4_plays_98 (by decide) (fun _ => ?_) (fun h9 => absurd (h9.symm.trans c3) (by decide))
        refine lv_iconst (v := nI (0)) hx hb dX4_plays_110 (by decide) ?_
        refine nv_cv (show nI (0) = bI (plays X.1 u bb) from nv_f (by rw [mp_1 h_bb (by omega)]; first | (simp [mOwn, mTwo, c3, c18, t20]; done) | (simp [mOwn, mTwo, c3, c18, t20] <;> omega))) ?_
        exact ro_zret hx hb hr hlocks dX4_plays_111
      · refine nv_cv (show nI (X.1 1 u) = nI 2 from congrArg nI t20) ?_
        refine lv_tableIn (x := nI 2) (off := 76) (tgt := 135) hx hb dX4_plays_59 (by decide) (by decide) (by decide) (by decide) ?_
        refine lv_iload hx hb dX4_plays_135 (lv_at hl 0 rfl) ?_
        refine nv_cv (show nI (0) = bI (plays X.1 u bb) from nv_f (by rw [mp_2 h_bb (by omega)]; first | (simp [mOwn, mTwo, c3, c18, t20]; done) | (simp [mOwn, mTwo, c3, c18, t20] <;> omega))) ?_
        exact ro_zret hx hb hr hlocks dX4_plays_137
      · refine nv_cv (show nI (X.1 1 u) = nI 3 from congrArg nI t20) ?_
        refine lv_tableIn (x := nI 3) (off := 79) (tgt := 138) hx hb dX4_plays_59 (by decide) (by decide) (by decide) (by decide) ?_
        refine lv_iload hx hb dX4_plays_138 (lv_at hl 0 rfl) ?_
        refine lv_if_eq (tgt := 155) hx hb dX4_plays_140 (by decide) (fun _ => ?_) (fun h => absurd (by decide) h)
        refine lv_iconst (v := nI (0)) hx hb dX4_plays_155 (by decide) ?_
        refine nv_cv (show nI (0) = bI (plays X.1 u bb) from nv_f (by rw [mp_3 h_bb (by omega)]; first | (simp [mOwn, mTwo, c3, c18, t20]; done) | (simp [mOwn, mTwo, c3, c18, t20] <;> omega))) ?_
        exact ro_zret hx hb hr hlocks dX4_plays_156
      · refine nv_cv (show nI (X.1 1 u) = nI 4 from congrArg nI t20) ?_
        refine lv_tableIn (x := nI 4) (off := 98) (tgt := 157) hx hb dX4_plays_59 (by decide) (by decide) (by decide) (by decide) ?_
        refine lv_iload hx hb dX4_plays_157 (lv_at hl 0 rfl) ?_
        refine lv_if_eq (tgt := 170) hx hb dX4_plays_159 (by decide) (fun _ => ?_) (fun h => absurd (by decide) h)
        refine lv_aload_n hx hb dX4_plays_170 rfl (lv_at hl 3 rfl) ?_
        refine lv_iload_n hx hb dX4_plays_171 rfl (lv_at hl 4 rfl) ?_
        refine lv_iconst (v := nI (4)) hx hb dX4_plays_172 (by decide) ?_
        refine ro_V (n := 2) (As := [.int (nI u), .int (nI 4)]) (rest := []) ⟨hx, hb, hml, hown, hts⟩ (c_X4_playerIs l D ci am X kr q0 q1 q2 q3 q4 q5 iw kn y0 y1 y2 y3 y4 y5 y6 (u) (4) hWF (by omega) (by omega)) gX4_plays_X4_playerIs rfl ⟨rfl, rfl⟩ (by decide +kernel) rfl ⟨Nat.le_of_ble_eq_true rfl, Nat.le_of_ble_eq_true rfl⟩ hE hs hK hP (ci := 4) (q0 := 0) rfl rfl hl.1 rfl (Nat.le_of_ble_eq_true rfl) dX4_plays_173 ⟨Nat.zero_le _, Nat.zero_le _⟩ ?_
        refine nv_cv (show nI (X.1 (4 + 1) u) = nI (X.1 5 u) from rfl) ?_
        have f24 := hWF.f5 u
        refine lv_bipush (v := nI (80)) hx hb dX4_plays_176 (by decide) ?_
        refine nv_icmp_lt (tgt := 185) hx hb (by omega) (by omega) dX4_plays_178 (by decide) (fun c25 => ?_) (fun c25 => ?_)
        · refine lv_iconst (v := nI (0)) hx hb dX4_plays_185 (by decide) ?_
          refine nv_cv (show nI (0) = bI (plays X.1 u bb) from nv_f (by rw [mp_4 h_bb (by omega)]; first | (simp [mOwn, mTwo, c3, c18, t20, c25]; done) | (simp [mOwn, mTwo, c3, c18, t20, c25] <;> omega))) ?_
          exact ro_zret hx hb hr hlocks dX4_plays_186
        · refine lv_iconst (v := nI (1)) hx hb dX4_plays_181 (by decide) ?_
          refine lv_goto (tgt := 186) hx hb dX4_plays_182 (by decide) ?_
          refine nv_cv (show nI (1) = bI (plays X.1 u bb) from nv_t (by rw [mp_4 h_bb (by omega)]; first | (simp [mOwn, mTwo, c3, c18, t20, c25]; done) | (simp [mOwn, mTwo, c3, c18, t20, c25] <;> omega))) ?_
          exact ro_zret hx hb hr hlocks dX4_plays_186
      · refine nv_cv (show nI (X.1 1 u) = nI 5 from congrArg nI t20) ?_
        refine lv_tableIn (x := nI 5) (off := 128) (tgt := 187) hx hb dX4_plays_59 (by decide) (by decide) (by decide) (by decide) ?_
        refine lv_iload hx hb dX4_plays_187 (lv_at hl 1 rfl) ?_
        refine nv_cv (show bI ((X.1 0 bb).testBit (X.1 3 u)) = bI (plays X.1 u bb) from congrArg bI (by rw [(show plays X.1 u bb = mOwn X.1 u bb from by rcases (show X.1 1 u = 0 ∨ X.1 1 u = 5 by omega) with h9 | h9; exact mp_0 h_bb h9; exact mp_5 h_bb h9)]; rfl)) ?_
        exact ro_zret hx hb hr hlocks dX4_plays_189
      · refine nv_cv (show nI (X.1 1 u) = nI 6 from congrArg nI t20) ?_
        refine lv_tableIn (x := nI 6) (off := 53) (tgt := 112) hx hb dX4_plays_59 (by decide) (by decide) (by decide) (by decide) ?_
        refine lv_iload hx hb dX4_plays_112 (lv_at hl 1 rfl) ?_
        refine nv_ifeq_b (tgt := 133) hx hb dX4_plays_114 (by decide) (fun _ => ?_) (fun h9 => absurd (h9.symm.trans c3) (by decide))
        refine lv_iconst (v := nI (0)) hx hb dX4_plays_133 (by decide) ?_
        refine nv_cv (show nI (0) = bI (plays X.1 u bb) from nv_f (by rw [mp_6 h_bb (by omega)]; first | (simp [mOwn, mTwo, c3, c18, t20]; done) | (simp [mOwn, mTwo, c3, c18, t20] <;> omega))) ?_
        exact ro_zret hx hb hr hlocks dX4_plays_134
      · refine lv_tableOut (tgt := 187) hx hb dX4_plays_59 (by rw [nI_toInt (by omega)]; omega) (by decide) ?_
        refine lv_iload hx hb dX4_plays_187 (lv_at hl 1 rfl) ?_
        refine nv_cv (show bI ((X.1 0 bb).testBit (X.1 3 u)) = bI (plays X.1 u bb) from congrArg bI (by rw [(show plays X.1 u bb = mOwn X.1 u bb from by rcases (show X.1 1 u = 0 ∨ X.1 1 u = 5 by omega) with h9 | h9; exact mp_0 h_bb h9; exact mp_5 h_bb h9)]; rfl)) ?_
        exact ro_zret hx hb hr hlocks dX4_plays_189
    · refine lv_iconst (v := nI (1)) hx hb dX4_plays_46 (by decide) ?_
      refine lv_goto (tgt := 51) hx hb dX4_plays_47 (by decide) ?_
      refine lv_istore (lv' := [(5, .int (nI 1)), (4, .int (bI ((X.1 0 bb).testBit (X.1 3 u)))), (3, .int (nI (X.1 3 u))), (0, .ref (am 0)), (1, .int (nI u)), (2, .int (nI bb))]) hx hb dX4_plays_51 hl (by decide) rfl (fun ls hl => ?_)
      refine lv_aload_n hx hb dX4_plays_53 rfl (lv_at hl 3 rfl) ?_
      refine lv_iload_n hx hb dX4_plays_54 rfl (lv_at hl 4 rfl) ?_
      refine lv_iconst (v := nI (0)) hx hb dX4_plays_55 (by decide) ?_
      refine ro_V (n := 2) (As := [.int (nI u), .int (nI 0)]) (rest := []) ⟨hx, hb, hml, hown, hts⟩ (c_X4_playerIs l D ci am X kr q0 q1 q2 q3 q4 q5 iw kn y0 y1 y2 y3 y4 y5 y6 (u) (0) hWF (by omega) (by omega)) gX4_plays_X4_playerIs rfl ⟨rfl, rfl⟩ (by decide +kernel) rfl ⟨Nat.le_of_ble_eq_true rfl, Nat.le_of_ble_eq_true rfl⟩ hE hs hK hP (ci := 4) (q0 := 0) rfl rfl hl.1 rfl (Nat.le_of_ble_eq_true rfl) dX4_plays_56 ⟨Nat.zero_le _, Nat.zero_le _⟩ ?_
      refine nv_cv (show nI (X.1 (0 + 1) u) = nI (X.1 1 u) from rfl) ?_
      have f27 := hWF.f1 u
      rcases (show X.1 1 u = 1 ∨ X.1 1 u = 2 ∨ X.1 1 u = 3 ∨ X.1 1 u = 4 ∨ X.1 1 u = 5 ∨ X.1 1 u = 6 ∨ (X.1 1 u < 1 ∨ 6 < X.1 1 u) by omega) with t28 | t28 | t28 | t28 | t28 | t28 | t28
      · refine nv_cv (show nI (X.1 1 u) = nI 1 from congrArg nI t28) ?_
        refine lv_tableIn (x := nI 1) (off := 37) (tgt := 96) hx hb dX4_plays_59 (by decide) (by decide) (by decide) (by decide) ?_
        refine lv_iload hx hb dX4_plays_96 (lv_at hl 1 rfl) ?_
        refine nv_ifeq_b (tgt := 110) hx hb dX4_plays_98 (by decide) (fun _ => ?_) (fun h9 => absurd (h9.symm.trans c3) (by decide))
        refine lv_iconst (v := nI (0)) hx hb dX4_plays_110 (by decide) ?_
        refine nv_cv (show nI (0) = bI (plays X.1 u bb) from nv_f (by rw [mp_1 h_bb (by omega)]; first | (simp [mOwn, mTwo, c3, c18, t28]; done) | (simp [mOwn, mTwo, c3, c18, t28] <;> omega))) ?_
        exact ro_zret hx hb hr hlocks dX4_plays_111
      · refine nv_cv (show nI (X.1 1 u) = nI 2 from congrArg nI t28) ?_
        refine lv_tableIn (x := nI 2) (off := 76) (tgt := 135) hx hb dX4_plays_59 (by decide) (by decide) (by decide) (by decide) ?_
        refine lv_iload hx hb dX4_plays_135 (lv_at hl 0 rfl) ?_
        refine nv_cv (show nI (1) = bI (plays X.1 u bb) from nv_t (by rw [mp_2 h_bb (by omega)]; first | (simp [mOwn, mTwo, c3, c18, t28]; done) | (simp [mOwn, mTwo, c3, c18, t28] <;> omega))) ?_
        exact ro_zret hx hb hr hlocks dX4_plays_137
      · refine nv_cv (show nI (X.1 1 u) = nI 3 from congrArg nI t28) ?_
        refine lv_tableIn (x := nI 3) (off := 79) (tgt := 138) hx hb dX4_plays_59 (by decide) (by decide) (by decide) (by decide) ?_
        refine lv_iload hx hb dX4_plays_138 (lv_at hl 0 rfl) ?_
        refine lv_if_eq (tgt := 155) hx hb dX4_plays_140 (by decide) (fun h => absurd h (by decide)) (fun _ => ?_)
        refine lv_aload_n hx hb dX4_plays_143 rfl (lv_at hl 3 rfl) ?_
        refine lv_iload_n hx hb dX4_plays_144 rfl (lv_at hl 4 rfl) ?_
        refine ro_V (n := 1) (As := [.int (nI u)]) (rest := []) ⟨hx, hb, hml, hown, hts⟩ (c_X4_isAnotherFirst l D ci am X kr q0 q1 q2 q3 q4 q5 iw kn y0 y1 y2 y3 y4 y5 y6 (u) hWF (by omega)) gX4_plays_X4_isAnotherFirst rfl ⟨rfl, rfl⟩ (by decide +kernel) rfl ⟨Nat.le_of_ble_eq_true rfl, Nat.le_of_ble_eq_true rfl⟩ hE hs hK hP (ci := 4) (q0 := 0) rfl rfl hl.1 rfl (Nat.le_of_ble_eq_true rfl) dX4_plays_145 ⟨Nat.zero_le _, Nat.zero_le _⟩ ?_
        refine nv_ifeq_b (tgt := 155) hx hb dX4_plays_148 (by decide) (fun c31 => ?_) (fun c31 => ?_)
        · refine lv_iconst (v := nI (0)) hx hb dX4_plays_155 (by decide) ?_
          refine nv_cv (show nI (0) = bI (plays X.1 u bb) from nv_f (by rw [mp_3 h_bb (by omega)]; first | (simp [mOwn, mTwo, c3, c18, t28, c31]; done) | (simp [mOwn, mTwo, c3, c18, t28, c31] <;> omega))) ?_
          exact ro_zret hx hb hr hlocks dX4_plays_156
        · refine lv_iconst (v := nI (1)) hx hb dX4_plays_151 (by decide) ?_
          refine lv_goto (tgt := 156) hx hb dX4_plays_152 (by decide) ?_
          refine nv_cv (show nI (1) = bI (plays X.1 u bb) from nv_t (by rw [mp_3 h_bb (by omega)]; first | (simp [mOwn, mTwo, c3, c18, t28, c31]; done) | (simp [mOwn, mTwo, c3, c18, t28, c31] <;> omega))) ?_
          exact ro_zret hx hb hr hlocks dX4_plays_156
      · refine nv_cv (show nI (X.1 1 u) = nI 4 from congrArg nI t28) ?_
        refine lv_tableIn (x := nI 4) (off := 98) (tgt := 157) hx hb dX4_plays_59 (by decide) (by decide) (by decide) (by decide) ?_
        refine lv_iload hx hb dX4_plays_157 (lv_at hl 0 rfl) ?_
        refine lv_if_eq (tgt := 170) hx hb dX4_plays_159 (by decide) (fun h => absurd h (by decide)) (fun _ => ?_)
        refine lv_aload_n hx hb dX4_plays_162 rfl (lv_at hl 3 rfl) ?_
        refine lv_iload_n hx hb dX4_plays_163 rfl (lv_at hl 4 rfl) ?_
        refine ro_V (n := 1) (As := [.int (nI u)]) (rest := []) ⟨hx, hb, hml, hown, hts⟩ (c_X4_isAnotherFirst l D ci am X kr q0 q1 q2 q3 q4 q5 iw kn y0 y1 y2 y3 y4 y5 y6 (u) hWF (by omega)) gX4_plays_X4_isAnotherFirst rfl ⟨rfl, rfl⟩ (by decide +kernel) rfl ⟨Nat.le_of_ble_eq_true rfl, Nat.le_of_ble_eq_true rfl⟩ hE hs hK hP (ci := 4) (q0 := 0) rfl rfl hl.1 rfl (Nat.le_of_ble_eq_true rfl) dX4_plays_164 ⟨Nat.zero_le _, Nat.zero_le _⟩ ?_
        refine nv_ifne_b (tgt := 181) hx hb dX4_plays_167 (by decide) (fun c33 => ?_) (fun c33 => ?_)
        · refine lv_iconst (v := nI (1)) hx hb dX4_plays_181 (by decide) ?_
          refine lv_goto (tgt := 186) hx hb dX4_plays_182 (by decide) ?_
          refine nv_cv (show nI (1) = bI (plays X.1 u bb) from nv_t (by rw [mp_4 h_bb (by omega)]; first | (simp [mOwn, mTwo, c3, c18, t28, c33]; done) | (simp [mOwn, mTwo, c3, c18, t28, c33] <;> omega))) ?_
          exact ro_zret hx hb hr hlocks dX4_plays_186
        · refine lv_aload_n hx hb dX4_plays_170 rfl (lv_at hl 3 rfl) ?_
          refine lv_iload_n hx hb dX4_plays_171 rfl (lv_at hl 4 rfl) ?_
          refine lv_iconst (v := nI (4)) hx hb dX4_plays_172 (by decide) ?_
          refine ro_V (n := 2) (As := [.int (nI u), .int (nI 4)]) (rest := []) ⟨hx, hb, hml, hown, hts⟩ (c_X4_playerIs l D ci am X kr q0 q1 q2 q3 q4 q5 iw kn y0 y1 y2 y3 y4 y5 y6 (u) (4) hWF (by omega) (by omega)) gX4_plays_X4_playerIs rfl ⟨rfl, rfl⟩ (by decide +kernel) rfl ⟨Nat.le_of_ble_eq_true rfl, Nat.le_of_ble_eq_true rfl⟩ hE hs hK hP (ci := 4) (q0 := 0) rfl rfl hl.1 rfl (Nat.le_of_ble_eq_true rfl) dX4_plays_173 ⟨Nat.zero_le _, Nat.zero_le _⟩ ?_
          refine nv_cv (show nI (X.1 (4 + 1) u) = nI (X.1 5 u) from rfl) ?_
          have f34 := hWF.f5 u
          refine lv_bipush (v := nI (80)) hx hb dX4_plays_176 (by decide) ?_
          refine nv_icmp_lt (tgt := 185) hx hb (by omega) (by omega) dX4_plays_178 (by decide) (fun c35 => ?_) (fun c35 => ?_)
          · refine lv_iconst (v := nI (0)) hx hb dX4_plays_185 (by decide) ?_
            refine nv_cv (show nI (0) = bI (plays X.1 u bb) from nv_f (by rw [mp_4 h_bb (by omega)]; first | (simp [mOwn, mTwo, c3, c18, t28, c33, c35]; done) | (simp [mOwn, mTwo, c3, c18, t28, c33, c35] <;> omega))) ?_
            exact ro_zret hx hb hr hlocks dX4_plays_186
          · refine lv_iconst (v := nI (1)) hx hb dX4_plays_181 (by decide) ?_
            refine lv_goto (tgt := 186) hx hb dX4_plays_182 (by decide) ?_
            refine nv_cv (show nI (1) = bI (plays X.1 u bb) from nv_t (by rw [mp_4 h_bb (by omega)]; first | (simp [mOwn, mTwo, c3, c18, t28, c33, c35]; done) | (simp [mOwn, mTwo, c3, c18, t28, c33, c35] <;> omega))) ?_
            exact ro_zret hx hb hr hlocks dX4_plays_186
      · refine nv_cv (show nI (X.1 1 u) = nI 5 from congrArg nI t28) ?_
        refine lv_tableIn (x := nI 5) (off := 128) (tgt := 187) hx hb dX4_plays_59 (by decide) (by decide) (by decide) (by decide) ?_
        refine lv_iload hx hb dX4_plays_187 (lv_at hl 1 rfl) ?_
        refine nv_cv (show bI ((X.1 0 bb).testBit (X.1 3 u)) = bI (plays X.1 u bb) from congrArg bI (by rw [(show plays X.1 u bb = mOwn X.1 u bb from by rcases (show X.1 1 u = 0 ∨ X.1 1 u = 5 by omega) with h9 | h9; exact mp_0 h_bb h9; exact mp_5 h_bb h9)]; rfl)) ?_
        exact ro_zret hx hb hr hlocks dX4_plays_189
      · refine nv_cv (show nI (X.1 1 u) = nI 6 from congrArg nI t28) ?_
        refine lv_tableIn (x := nI 6) (off := 53) (tgt := 112) hx hb dX4_plays_59 (by decide) (by decide) (by decide) (by decide) ?_
        refine lv_iload hx hb dX4_plays_112 (lv_at hl 1 rfl) ?_
        refine nv_ifeq_b (tgt := 133) hx hb dX4_plays_114 (by decide) (fun _ => ?_) (fun h9 => absurd (h9.symm.trans c3) (by decide))
        refine lv_iconst (v := nI (0)) hx hb dX4_plays_133 (by decide) ?_
        refine nv_cv (show nI (0) = bI (plays X.1 u bb) from nv_f (by rw [mp_6 h_bb (by omega)]; first | (simp [mOwn, mTwo, c3, c18, t28]; done) | (simp [mOwn, mTwo, c3, c18, t28] <;> omega))) ?_
        exact ro_zret hx hb hr hlocks dX4_plays_134
      · refine lv_tableOut (tgt := 187) hx hb dX4_plays_59 (by rw [nI_toInt (by omega)]; omega) (by decide) ?_
        refine lv_iload hx hb dX4_plays_187 (lv_at hl 1 rfl) ?_
        refine nv_cv (show bI ((X.1 0 bb).testBit (X.1 3 u)) = bI (plays X.1 u bb) from congrArg bI (by rw [(show plays X.1 u bb = mOwn X.1 u bb from by rcases (show X.1 1 u = 0 ∨ X.1 1 u = 5 by omega) with h9 | h9; exact mp_0 h_bb h9; exact mp_5 h_bb h9)]; rfl)) ?_
        exact ro_zret hx hb hr hlocks dX4_plays_189

set_option maxHeartbeats 4000000 in
set_option maxRecDepth 100000 in
/-- X4_playsIn -/
theorem c_X4_playsIn (l : Launch) (D : va_G) (ci : Nat → ClassId) (am : Nat → Nat) (X : AS) (kr : Nat → Int32) (q0 q1 q2 q3 q4 q5 : Int32) (iw : Bool) (kn : Nat → Option Nat) (y0 y1 y2 y3 y4 y5 y6 : Nat → Int32) (bb : Nat) (hWF : WF X.1) (h_bb : bb < 12) : Met l yX4_playsIn wsX4_playsIn ({ frames := 4, cells := 0, slots := 0, locals := 91 } : Room) (va_Pc [.ref (am 0), .int (nI bb)] (ro_B D (tyL ci) (wN ci am X kr q0 q1 q2 q3 q4 q5 iw kn y0 y1 y2 y3 y4 y5 y6) (enT))) (ro_Q (some (.int (nI (playIn X.1 bb))))) 0 0 (fun _ => False) := by
  refine ro_Met (cc := cX4_playsIn) (maxL := 4) (ret := (some .int)) [(0, .ref (am 0)), (1, .int (nI bb))] (by decide) rfl (Nat.le_of_ble_eq_true rfl) rfl ?_
  intro p e s m below meth c hx hb hml hr hlocks hts hown hP hK hs ls hl
  have hown : s.vm.findClass RX4 = some m.cls := hown
  have hinX4 : ∀ w ∈ wsX40, w ∈ wsX4_playsIn := by decide +kernel
  have hE := hE_T
  have f_n := hWF.n
  refine lv_iconst (v := nI (0)) hx hb dX4_playsIn_0 (by decide) ?_
  refine lv_istore_n (lv' := [(2, .int (nI 0)), (0, .ref (am 0)), (1, .int (nI bb))]) hx hb dX4_playsIn_1 rfl hl (by decide) rfl (fun ls hl => ?_)
  refine lv_iconst (v := nI (0)) hx hb dX4_playsIn_2 (by decide) ?_
  refine lv_istore_n (lv' := [(3, .int (nI 0)), (2, .int (nI 0)), (0, .ref (am 0)), (1, .int (nI bb))]) hx hb dX4_playsIn_3 rfl hl (by decide) rfl (fun ls hl => ?_)
  have L4 : ∀ (k4 : Nat) (i : Nat), X.1 7 0 - i < k4 → (i ≤ X.1 7 0) → ∀ (x2 x3 : Int32), x2 = nI (setTo (fun q => plays X.1 q bb) (i)) → x3 = nI (i) → ∀ ls : Array Slot, lv_has ls 4 [(2, .int (x2)), (3, .int (x3)), (0, .ref (am 0)), (1, .int (nI bb))] → W p l e (headSpec wsX4_playsIn ({ frames := 4, cells := 0, slots := 0, locals := 91 } : Room)).room s m ([.ref (am 0), .int (nI bb)] : List Value).toArray below meth c s.heap [] 0 0 (MQ below (ro_Q (some (.int (nI (playIn X.1 bb))))) ([.ref (am 0), .int (nI bb)] : List Value).toArray s 0 0 (fun _ => False)) (F0 m 4 ls []) := by
    intro k4
    induction k4 with
    | zero => intro i h0; exact absurd h0 (Nat.not_lt_zero _)
    | succ k4 ih4 =>
      intro i hk4 h_i x2 x3 e2 e3 ls hl
      subst e2
      subst e3
      refine lv_iload_n hx hb dX4_playsIn_4 rfl (lv_at hl 1 rfl) ?_
      refine lv_aload_n hx hb dX4_playsIn_5 rfl (lv_at hl 2 rfl) ?_
      refine va_get (D := D) (ci := 4) (v := .ref (am 1)) (C := RX4) (T := TX4) (N := 24) hx hb hts hinX4 hown hK hP 0 rfl rfl 0 (by decide) (hts (.fieldLink RX4 9 "OneShortModel" "now" "[I") (List.mem_of_getElem? (i := 1) rfl)) (fun _ h9 => h9) rfl dX4_playsIn_6 ?_
      refine lv_iconst (v := nI (1)) hx hb dX4_playsIn_9 (by decide) ?_
      refine nv_iald (v := nI (X.1 7 0)) hx hb hK hP 1 0 rfl rfl (by omega) (by decide) (pk_n X.1) dX4_playsIn_10 ?_
      refine nv_icmp_ge (tgt := 39) hx hb (by omega) (by omega) dX4_playsIn_11 (by decide) (fun c1 => ?_) (fun c1 => ?_)
      · refine lv_iload_n hx hb dX4_playsIn_39 rfl (lv_at hl 0 rfl) ?_
        refine nv_cv (show nI (setTo (fun q => plays X.1 q bb) (i)) = nI (playIn X.1 bb) from nv_e (by rw [playIn, show X.1 7 0 = i by omega])) ?_
        exact ro_iret hx hb hr hlocks dX4_playsIn_40
      · refine lv_iload_n hx hb dX4_playsIn_14 rfl (lv_at hl 0 rfl) ?_
        refine lv_aload_n hx hb dX4_playsIn_15 rfl (lv_at hl 2 rfl) ?_
        refine lv_iload_n hx hb dX4_playsIn_16 rfl (lv_at hl 1 rfl) ?_
        refine lv_iload_n hx hb dX4_playsIn_17 rfl (lv_at hl 3 rfl) ?_
        refine ro_V (n := 2) (As := [.int (nI i), .int (nI bb)]) (rest := [.int (nI (setTo (fun q => plays X.1 q bb) (i)))]) ⟨hx, hb, hml, hown, hts⟩ (c_X4_plays l D ci am X kr q0 q1 q2 q3 q4 q5 iw kn y0 y1 y2 y3 y4 y5 y6 (i) (bb) hWF (by omega) (by omega)) gX4_playsIn_X4_plays rfl ⟨rfl, rfl⟩ (by decide +kernel) rfl ⟨Nat.le_of_ble_eq_true rfl, Nat.le_of_ble_eq_true rfl⟩ hE hs hK hP (ci := 4) (q0 := 0) rfl rfl hl.1 rfl (Nat.le_of_ble_eq_true rfl) dX4_playsIn_18 ⟨Nat.zero_le _, Nat.zero_le _⟩ ?_
        refine nv_ifeq_b (tgt := 30) hx hb dX4_playsIn_21 (by decide) (fun c2 => ?_) (fun c2 => ?_)
        · refine lv_iconst (v := nI (0)) hx hb dX4_playsIn_30 (by decide) ?_
          refine nv_ior hx hb dX4_playsIn_31 ?_
          refine lv_istore_n (lv' := [(2, .int (nI ((setTo (fun q => plays X.1 q bb) (i) ||| 0)))), (3, .int (nI i)), (0, .ref (am 0)), (1, .int (nI bb))]) hx hb dX4_playsIn_32 rfl hl (by decide) rfl (fun ls hl => ?_)
          refine nv_iinc1 (lv' := [(3, .int (nI (i + 1))), (2, .int (nI ((setTo (fun q => plays X.1 q bb) (i) ||| 0)))), (0, .ref (am 0)), (1, .int (nI bb))]) hx hb dX4_playsIn_33 hl (k := 1) rfl (by decide) rfl (fun ls hl => ?_)
          refine lv_goto (tgt := 4) hx hb dX4_playsIn_36 (by decide) ?_
          exact ih4 (i + 1) (by omega) (by omega) (nI ((setTo (fun q => plays X.1 q bb) (i) ||| 0))) (nI (i + 1)) (nv_e (by first | exact setTo_t c2 | exact setTo_f0 c2)) rfl ls (lv_sub hl [1, 0, 2, 3] rfl)
        · refine lv_iconst (v := nI (1)) hx hb dX4_playsIn_24 (by decide) ?_
          refine lv_iload_n hx hb dX4_playsIn_25 rfl (lv_at hl 1 rfl) ?_
          refine nv_ishl hx hb (by omega) dX4_playsIn_26 ?_
          refine lv_goto (tgt := 31) hx hb dX4_playsIn_27 (by decide) ?_
          refine nv_ior hx hb dX4_playsIn_31 ?_
          refine lv_istore_n (lv' := [(2, .int (nI ((setTo (fun q => plays X.1 q bb) (i) ||| (1 * 2 ^ (i)))))), (3, .int (nI i)), (0, .ref (am 0)), (1, .int (nI bb))]) hx hb dX4_playsIn_32 rfl hl (by decide) rfl (fun ls hl => ?_)
          refine nv_iinc1 (lv' := [(3, .int (nI (i + 1))), (2, .int (nI ((setTo (fun q => plays X.1 q bb) (i) ||| (1 * 2 ^ (i)))))), (0, .ref (am 0)), (1, .int (nI bb))]) hx hb dX4_playsIn_33 hl (k := 1) rfl (by decide) rfl (fun ls hl => ?_)
          refine lv_goto (tgt := 4) hx hb dX4_playsIn_36 (by decide) ?_
          exact ih4 (i + 1) (by omega) (by omega) (nI ((setTo (fun q => plays X.1 q bb) (i) ||| (1 * 2 ^ (i))))) (nI (i + 1)) (nv_e (by first | exact setTo_t c2 | exact setTo_f0 c2)) rfl ls (lv_sub hl [1, 0, 2, 3] rfl)
  exact L4 _ (0) (Nat.lt_succ_self _) (by omega) (nI (0)) (nI (0)) rfl rfl ls (lv_sub hl [1, 0, 2, 3] rfl)

set_option maxHeartbeats 4000000 in
set_option maxRecDepth 100000 in
/-- X4_barsOf -/
theorem c_X4_barsOf (l : Launch) (D : va_G) (ci : Nat → ClassId) (am : Nat → Nat) (X : AS) (kr : Nat → Int32) (q0 q1 q2 q3 q4 q5 : Int32) (iw : Bool) (kn : Nat → Option Nat) (y0 y1 y2 y3 y4 y5 y6 : Nat → Int32) (u : Nat) (hWF : WF X.1) (h_u : u < 8) : Met l yX4_barsOf wsX4_barsOf ({ frames := 4, cells := 0, slots := 0, locals := 91 } : Room) (va_Pc [.ref (am 0), .int (nI u)] (ro_B D (tyL ci) (wN ci am X kr q0 q1 q2 q3 q4 q5 iw kn y0 y1 y2 y3 y4 y5 y6) (enT))) (ro_Q (some (.int (nI (bPlay X.1 u))))) 0 0 (fun _ => False) := by
  refine ro_Met (cc := cX4_barsOf) (maxL := 4) (ret := (some .int)) [(0, .ref (am 0)), (1, .int (nI u))] (by decide) rfl (Nat.le_of_ble_eq_true rfl) rfl ?_
  intro p e s m below meth c hx hb hml hr hlocks hts hown hP hK hs ls hl
  have hown : s.vm.findClass RX4 = some m.cls := hown
  have hE := hE_T
  have f_n := hWF.n
  refine lv_iconst (v := nI (0)) hx hb dX4_barsOf_0 (by decide) ?_
  refine lv_istore_n (lv' := [(2, .int (nI 0)), (0, .ref (am 0)), (1, .int (nI u))]) hx hb dX4_barsOf_1 rfl hl (by decide) rfl (fun ls hl => ?_)
  refine lv_iconst (v := nI (0)) hx hb dX4_barsOf_2 (by decide) ?_
  refine lv_istore_n (lv' := [(3, .int (nI 0)), (2, .int (nI 0)), (0, .ref (am 0)), (1, .int (nI u))]) hx hb dX4_barsOf_3 rfl hl (by decide) rfl (fun ls hl => ?_)
  have L4 : ∀ (k4 : Nat) (i : Nat), 12 - i < k4 → (i ≤ 12) → ∀ (x2 x3 : Int32), x2 = nI (setTo (fun b => plays X.1 u b) (i)) → x3 = nI (i) → ∀ ls : Array Slot, lv_has ls 4 [(2, .int (x2)), (3, .int (x3)), (0, .ref (am 0)), (1, .int (nI u))] → W p l e (headSpec wsX4_barsOf ({ frames := 4, cells := 0, slots := 0, locals := 91 } : Room)).room s m ([.ref (am 0), .int (nI u)] : List Value).toArray below meth c s.heap [] 0 0 (MQ below (ro_Q (some (.int (nI (bPlay X.1 u))))) ([.ref (am 0), .int (nI u)] : List Value).toArray s 0 0 (fun _ => False)) (F0 m 4 ls []) := by
    intro k4
    induction k4 with
    | zero => intro i h0; exact absurd h0 (Nat.not_lt_zero _)
    | succ k4 ih4 =>
      intro i hk4 h_i x2 x3 e2 e3 ls hl
      subst e2
      subst e3
      refine lv_iload_n hx hb dX4_barsOf_4 rfl (lv_at hl 1 rfl) ?_
      refine lv_bipush (v := nI (12)) hx hb dX4_barsOf_5 (by decide) ?_
      refine nv_icmp_ge (tgt := 35) hx hb (by omega) (by omega) dX4_barsOf_7 (by decide) (fun c1 => ?_) (fun c1 => ?_)
      · refine lv_iload_n hx hb dX4_barsOf_35 rfl (lv_at hl 0 rfl) ?_
        refine nv_cv (show nI (setTo (fun b => plays X.1 u b) (i)) = nI (bPlay X.1 u) from nv_e (by rw [show i = 12 by omega, bPlay_set])) ?_
        exact ro_iret hx hb hr hlocks dX4_barsOf_36
      · refine lv_iload_n hx hb dX4_barsOf_10 rfl (lv_at hl 0 rfl) ?_
        refine lv_aload_n hx hb dX4_barsOf_11 rfl (lv_at hl 2 rfl) ?_
        refine lv_iload_n hx hb dX4_barsOf_12 rfl (lv_at hl 3 rfl) ?_
        refine lv_iload_n hx hb dX4_barsOf_13 rfl (lv_at hl 1 rfl) ?_
        refine ro_V (n := 2) (As := [.int (nI u), .int (nI i)]) (rest := [.int (nI (setTo (fun b => plays X.1 u b) (i)))]) ⟨hx, hb, hml, hown, hts⟩ (c_X4_plays l D ci am X kr q0 q1 q2 q3 q4 q5 iw kn y0 y1 y2 y3 y4 y5 y6 (u) (i) hWF (by omega) (by omega)) gX4_barsOf_X4_plays rfl ⟨rfl, rfl⟩ (by decide +kernel) rfl ⟨Nat.le_of_ble_eq_true rfl, Nat.le_of_ble_eq_true rfl⟩ hE hs hK hP (ci := 4) (q0 := 0) rfl rfl hl.1 rfl (Nat.le_of_ble_eq_true rfl) dX4_barsOf_14 ⟨Nat.zero_le _, Nat.zero_le _⟩ ?_
        refine nv_ifeq_b (tgt := 26) hx hb dX4_barsOf_17 (by decide) (fun c2 => ?_) (fun c2 => ?_)
        · refine lv_iconst (v := nI (0)) hx hb dX4_barsOf_26 (by decide) ?_
          refine nv_ior hx hb dX4_barsOf_27 ?_
          refine lv_istore_n (lv' := [(2, .int (nI ((setTo (fun b => plays X.1 u b) (i) ||| 0)))), (3, .int (nI i)), (0, .ref (am 0)), (1, .int (nI u))]) hx hb dX4_barsOf_28 rfl hl (by decide) rfl (fun ls hl => ?_)
          refine nv_iinc1 (lv' := [(3, .int (nI (i + 1))), (2, .int (nI ((setTo (fun b => plays X.1 u b) (i) ||| 0)))), (0, .ref (am 0)), (1, .int (nI u))]) hx hb dX4_barsOf_29 hl (k := 1) rfl (by decide) rfl (fun ls hl => ?_)
          refine lv_goto (tgt := 4) hx hb dX4_barsOf_32 (by decide) ?_
          exact ih4 (i + 1) (by omega) (by omega) (nI ((setTo (fun b => plays X.1 u b) (i) ||| 0))) (nI (i + 1)) (nv_e (by first | exact setTo_t c2 | exact setTo_f0 c2)) rfl ls (lv_sub hl [1, 0, 2, 3] rfl)
        · refine lv_iconst (v := nI (1)) hx hb dX4_barsOf_20 (by decide) ?_
          refine lv_iload_n hx hb dX4_barsOf_21 rfl (lv_at hl 1 rfl) ?_
          refine nv_ishl hx hb (by omega) dX4_barsOf_22 ?_
          refine lv_goto (tgt := 27) hx hb dX4_barsOf_23 (by decide) ?_
          refine nv_ior hx hb dX4_barsOf_27 ?_
          refine lv_istore_n (lv' := [(2, .int (nI ((setTo (fun b => plays X.1 u b) (i) ||| (1 * 2 ^ (i)))))), (3, .int (nI i)), (0, .ref (am 0)), (1, .int (nI u))]) hx hb dX4_barsOf_28 rfl hl (by decide) rfl (fun ls hl => ?_)
          refine nv_iinc1 (lv' := [(3, .int (nI (i + 1))), (2, .int (nI ((setTo (fun b => plays X.1 u b) (i) ||| (1 * 2 ^ (i)))))), (0, .ref (am 0)), (1, .int (nI u))]) hx hb dX4_barsOf_29 hl (k := 1) rfl (by decide) rfl (fun ls hl => ?_)
          refine lv_goto (tgt := 4) hx hb dX4_barsOf_32 (by decide) ?_
          exact ih4 (i + 1) (by omega) (by omega) (nI ((setTo (fun b => plays X.1 u b) (i) ||| (1 * 2 ^ (i))))) (nI (i + 1)) (nv_e (by first | exact setTo_t c2 | exact setTo_f0 c2)) rfl ls (lv_sub hl [1, 0, 2, 3] rfl)
  exact L4 _ (0) (Nat.lt_succ_self _) (by omega) (nI (0)) (nI (0)) rfl rfl ls (lv_sub hl [1, 0, 2, 3] rfl)

set_option maxHeartbeats 4000000 in
set_option maxRecDepth 100000 in
/-- X4_soundOf -/
theorem c_X4_soundOf (l : Launch) (D : va_G) (ci : Nat → ClassId) (am : Nat → Nat) (X : AS) (kr : Nat → Int32) (q0 q1 q2 q3 q4 q5 : Int32) (iw : Bool) (kn : Nat → Option Nat) (y0 y1 y2 y3 y4 y5 y6 : Nat → Int32) (u se bb : Nat) (hWF : WF X.1) (h_u : u < 8) (h_se : se < 16) (h_bb : bb < 12) : Met l yX4_soundOf wsX4_soundOf ({ frames := 4, cells := 0, slots := 0, locals := 91 } : Room) (va_Pc [.ref (am 0), .int (nI u), .int (nI se), .int (nI bb)] (ro_B D (tyL ci) (wN ci am X kr q0 q1 q2 q3 q4 q5 iw kn y0 y1 y2 y3 y4 y5 y6) (enT))) (ro_Q (some (.int (nI (sndO X.1 u se bb))))) 0 0 (fun _ => False) := by
  refine ro_Met (cc := cX4_soundOf) (maxL := 4) (ret := (some .int)) [(0, .ref (am 0)), (1, .int (nI u)), (2, .int (nI se)), (3, .int (nI bb))] (by decide) rfl (Nat.le_of_ble_eq_true rfl) rfl ?_
  intro p e s m below meth c hx hb hml hr hlocks hts hown hP hK hs ls hl
  have hown : s.vm.findClass RX4 = some m.cls := hown
  have hE := hE_T
  have f_n := hWF.n
  refine lv_aload_n hx hb dX4_soundOf_0 rfl (lv_at hl 0 rfl) ?_
  refine lv_iload_n hx hb dX4_soundOf_1 rfl (lv_at hl 1 rfl) ?_
  refine lv_iload_n hx hb dX4_soundOf_2 rfl (lv_at hl 3 rfl) ?_
  refine ro_V (n := 2) (As := [.int (nI u), .int (nI bb)]) (rest := []) ⟨hx, hb, hml, hown, hts⟩ (c_X4_plays l D ci am X kr q0 q1 q2 q3 q4 q5 iw kn y0 y1 y2 y3 y4 y5 y6 (u) (bb) hWF (by omega) (by omega)) gX4_soundOf_X4_plays rfl ⟨rfl, rfl⟩ (by decide +kernel) rfl ⟨Nat.le_of_ble_eq_true rfl, Nat.le_of_ble_eq_true rfl⟩ hE hs hK hP (ci := 4) (q0 := 0) rfl rfl hl.1 rfl (Nat.le_of_ble_eq_true rfl) dX4_soundOf_3 ⟨Nat.zero_le _, Nat.zero_le _⟩ ?_
  refine nv_ifeq_b (tgt := 34) hx hb dX4_soundOf_6 (by decide) (fun c1 => ?_) (fun c1 => ?_)
  · refine lv_iconst (v := nI (0)) hx hb dX4_soundOf_34 (by decide) ?_
    refine nv_cv (show nI (0) = nI (sndO X.1 u se bb) from nv_e (by simp [sndO, loudn, c1])) ?_
    exact ro_iret hx hb hr hlocks dX4_soundOf_35
  · refine lv_iconst (v := nI (0)) hx hb dX4_soundOf_9 (by decide) ?_
    refine lv_aload_n hx hb dX4_soundOf_10 rfl (lv_at hl 0 rfl) ?_
    refine lv_iload_n hx hb dX4_soundOf_11 rfl (lv_at hl 1 rfl) ?_
    refine lv_iconst (v := nI (3)) hx hb dX4_soundOf_12 (by decide) ?_
    refine ro_V (n := 2) (As := [.int (nI u), .int (nI 3)]) (rest := [.int (nI 0)]) ⟨hx, hb, hml, hown, hts⟩ (c_X4_playerIs l D ci am X kr q0 q1 q2 q3 q4 q5 iw kn y0 y1 y2 y3 y4 y5 y6 (u) (3) hWF (by omega) (by omega)) gX4_soundOf_X4_playerIs rfl ⟨rfl, rfl⟩ (by decide +kernel) rfl ⟨Nat.le_of_ble_eq_true rfl, Nat.le_of_ble_eq_true rfl⟩ hE hs hK hP (ci := 4) (q0 := 0) rfl rfl hl.1 rfl (Nat.le_of_ble_eq_true rfl) dX4_soundOf_13 ⟨Nat.zero_le _, Nat.zero_le _⟩ ?_
    refine nv_cv (show nI (X.1 (3 + 1) u) = nI (X.1 4 u) from rfl) ?_
    have f2 := hWF.f4 u
    refine lv_aload_n hx hb dX4_soundOf_16 rfl (lv_at hl 0 rfl) ?_
    refine lv_iload_n hx hb dX4_soundOf_17 rfl (lv_at hl 1 rfl) ?_
    refine lv_iconst (v := nI (1)) hx hb dX4_soundOf_18 (by decide) ?_
    refine ro_V (n := 2) (As := [.int (nI u), .int (nI 1)]) (rest := [.int (nI (X.1 4 u)), .int (nI 0)]) ⟨hx, hb, hml, hown, hts⟩ (c_X4_playerIs l D ci am X kr q0 q1 q2 q3 q4 q5 iw kn y0 y1 y2 y3 y4 y5 y6 (u) (1) hWF (by omega) (by omega)) gX4_soundOf_X4_playerIs rfl ⟨rfl, rfl⟩ (by decide +kernel) rfl ⟨Nat.le_of_ble_eq_true rfl, Nat.le_of_ble_eq_true rfl⟩ hE hs hK hP (ci := 4) (q0 := 0) rfl rfl hl.1 rfl (Nat.le_of_ble_eq_true rfl) dX4_soundOf_19 ⟨Nat.zero_le _, Nat.zero_le _⟩ ?_
    refine nv_cv (show nI (X.1 (1 + 1) u) = nI (X.1 2 u) from rfl) ?_
    have f3 := hWF.f2 u
    refine lv_iload_n hx hb dX4_soundOf_22 rfl (lv_at hl 2 rfl) ?_
    refine lv_isub hx hb dX4_soundOf_23 ?_
    refine va_mabs hx hb (hml.trans hl.1.symm) hown (hts (.methodLink RX4 113 Lib.Math.abs.name) (List.mem_of_getElem? (i := 1) rfl)) (hts (.static Lib.Math.abs.name) (List.mem_of_getElem? (i := 2) rfl)) (hts (.initialized "java/lang/Math") (List.mem_of_getElem? (i := 3) rfl)) (hts (.code Lib.Math.abs.name Lib.Math.abs.code 1 (some .int)) (List.mem_of_getElem? (i := 4) rfl)) (Nat.le_of_ble_eq_true rfl) (Nat.le_of_ble_eq_true rfl) (Nat.zero_le _) (Nat.zero_le _) dX4_soundOf_24 (nv_cv (nv_abs (x := X.1 2 u) (y := se) (by omega) (by omega)) ?_)
    have f4 := dist_le (X.1 2 u) (se)
    refine lv_isub hx hb dX4_soundOf_27 ?_
    refine va_mmax hx hb (hml.trans hl.1.symm) hown (hts (.methodLink RX4 118 Lib.Math.max.name) (List.mem_of_getElem? (i := 5) rfl)) (hts (.static Lib.Math.max.name) (List.mem_of_getElem? (i := 6) rfl)) (hts (.initialized "java/lang/Math") (List.mem_of_getElem? (i := 3) rfl)) (hts (.code Lib.Math.max.name Lib.Math.max.code 2 (some .int)) (List.mem_of_getElem? (i := 7) rfl)) (Nat.le_of_ble_eq_true rfl) (Nat.le_of_ble_eq_true rfl) (Nat.zero_le _) (Nat.zero_le _) dX4_soundOf_28 (nv_cv (nv_max0 (x := X.1 4 u) (y := dist (X.1 2 u) (se)) (by omega) (by omega)) ?_)
    refine lv_goto (tgt := 35) hx hb dX4_soundOf_31 (by decide) ?_
    refine nv_cv (show nI ((X.1 4 u - (dist (X.1 2 u) (se)))) = nI (sndO X.1 u se bb) from nv_e (by simp [sndO, loudn, c1])) ?_
    exact ro_iret hx hb hr hlocks dX4_soundOf_35

set_option maxHeartbeats 4000000 in
set_option maxRecDepth 100000 in
/-- X4_heardOf -/
theorem c_X4_heardOf (l : Launch) (D : va_G) (ci : Nat → ClassId) (am : Nat → Nat) (X : AS) (kr : Nat → Int32) (q0 q1 q2 q3 q4 q5 : Int32) (iw : Bool) (kn : Nat → Option Nat) (y0 y1 y2 y3 y4 y5 y6 : Nat → Int32) (set0 se bb : Nat) (hWF : WF X.1) (h_s : set0 < 4096) (h_se : se < 16) (h_bb : bb < 12) : Met l yX4_heardOf wsX4_heardOf ({ frames := 5, cells := 0, slots := 0, locals := 114 } : Room) (va_Pc [.ref (am 0), .int (nI set0), .int (nI se), .int (nI bb)] (ro_B D (tyL ci) (wN ci am X kr q0 q1 q2 q3 q4 q5 iw kn y0 y1 y2 y3 y4 y5 y6) (enT))) (ro_Q (some (.int (nI (great X.1 se (set0 &&& playIn X.1 bb)))))) 0 0 (fun _ => False) := by
  refine ro_Met (cc := cX4_heardOf) (maxL := 6) (ret := (some .int)) [(0, .ref (am 0)), (1, .int (nI set0)), (2, .int (nI se)), (3, .int (nI bb))] (by decide) rfl (Nat.le_of_ble_eq_true rfl) rfl ?_
  intro p e s m below meth c hx hb hml hr hlocks hts hown hP hK hs ls hl
  have hown : s.vm.findClass RX4 = some m.cls := hown
  have hinX4 : ∀ w ∈ wsX40, w ∈ wsX4_heardOf := by decide +kernel
  have hE := hE_T
  have f_n := hWF.n
  refine lv_iconst (v := nI (0)) hx hb dX4_heardOf_0 (by decide) ?_
  refine lv_istore (lv' := [(4, .int (nI 0)), (0, .ref (am 0)), (1, .int (nI set0)), (2, .int (nI se)), (3, .int (nI bb))]) hx hb dX4_heardOf_1 hl (by decide) rfl (fun ls hl => ?_)
  refine lv_iconst (v := nI (0)) hx hb dX4_heardOf_3 (by decide) ?_
  refine lv_istore (lv' := [(5, .int (nI 0)), (4, .int (nI 0)), (0, .ref (am 0)), (1, .int (nI set0)), (2, .int (nI se)), (3, .int (nI bb))]) hx hb dX4_heardOf_4 hl (by decide) rfl (fun ls hl => ?_)
  have L6 : ∀ (k6 : Nat) (i : Nat), X.1 7 0 - i < k6 → (i ≤ X.1 7 0) → ∀ (x4 x5 : Int32), x4 = nI (maxTo (fun q => if (set0 &&& playIn X.1 bb).testBit q then loudn X.1 q se else 0) (i)) → x5 = nI (i) → ∀ ls : Array Slot, lv_has ls 6 [(4, .int (x4)), (5, .int (x5)), (0, .ref (am 0)), (1, .int (nI set0)), (2, .int (nI se)), (3, .int (nI bb))] → W p l e (headSpec wsX4_heardOf ({ frames := 5, cells := 0, slots := 0, locals := 114 } : Room)).room s m ([.ref (am 0), .int (nI set0), .int (nI se), .int (nI bb)] : List Value).toArray below meth c s.heap [] 0 0 (MQ below (ro_Q (some (.int (nI (great X.1 se (set0 &&& playIn X.1 bb)))))) ([.ref (am 0), .int (nI set0), .int (nI se), .int (nI bb)] : List Value).toArray s 0 0 (fun _ => False)) (F0 m 6 ls []) := by
    intro k6
    induction k6 with
    | zero => intro i h0; exact absurd h0 (Nat.not_lt_zero _)
    | succ k6 ih6 =>
      intro i hk6 h_i x4 x5 e4 e5 ls hl
      subst e4
      subst e5
      have f_m := great_lt hWF se (set0 &&& playIn X.1 bb) i
      refine lv_iload hx hb dX4_heardOf_6 (lv_at hl 1 rfl) ?_
      refine lv_aload_n hx hb dX4_heardOf_8 rfl (lv_at hl 2 rfl) ?_
      refine va_get (D := D) (ci := 4) (v := .ref (am 1)) (C := RX4) (T := TX4) (N := 24) hx hb hts hinX4 hown hK hP 0 rfl rfl 0 (by decide) (hts (.fieldLink RX4 9 "OneShortModel" "now" "[I") (List.mem_of_getElem? (i := 1) rfl)) (fun _ h9 => h9) rfl dX4_heardOf_9 ?_
      refine lv_iconst (v := nI (1)) hx hb dX4_heardOf_12 (by decide) ?_
      refine nv_iald (v := nI (X.1 7 0)) hx hb hK hP 1 0 rfl rfl (by omega) (by decide) (pk_n X.1) dX4_heardOf_13 ?_
      refine nv_icmp_ge (tgt := 52) hx hb (by omega) (by omega) dX4_heardOf_14 (by decide) (fun c1 => ?_) (fun c1 => ?_)
      · refine lv_iload hx hb dX4_heardOf_52 (lv_at hl 0 rfl) ?_
        refine nv_cv (show nI (maxTo (fun q => if (set0 &&& playIn X.1 bb).testBit q then loudn X.1 q se else 0) (i)) = nI (great X.1 se (set0 &&& playIn X.1 bb)) from nv_e (by rw [great, show X.1 7 0 = i by omega])) ?_
        exact ro_iret hx hb hr hlocks dX4_heardOf_54
      · refine lv_iload_n hx hb dX4_heardOf_17 rfl (lv_at hl 3 rfl) ?_
        refine lv_iload hx hb dX4_heardOf_18 (lv_at hl 1 rfl) ?_
        refine ro_S (n := 2) (As := [.int (nI set0), .int (nI i)]) (rest := []) ⟨hx, hb, hml, hown, hts⟩ (c_X4_has l D ci (wN ci am X kr q0 q1 q2 q3 q4 q5 iw kn y0 y1 y2 y3 y4 y5 y6) (set0) (i) (by omega) (by omega)) gX4_heardOf_X4_has rfl ⟨rfl, rfl⟩ (by decide +kernel) rfl ⟨Nat.le_of_ble_eq_true rfl, Nat.le_of_ble_eq_true rfl⟩ hE hs hK hP hl.1 rfl (Nat.le_of_ble_eq_true rfl) dX4_heardOf_20 ⟨Nat.zero_le _, Nat.zero_le _⟩ ?_
        refine nv_ifeq_b (tgt := 42) hx hb dX4_heardOf_23 (by decide) (fun c2 => ?_) (fun c2 => ?_)
        · refine lv_iload hx hb dX4_heardOf_42 (lv_at hl 0 rfl) ?_
          refine lv_istore (lv' := [(4, .int (nI (maxTo (fun q => if (set0 &&& playIn X.1 bb).testBit q then loudn X.1 q se else 0) (i)))), (5, .int (nI i)), (0, .ref (am 0)), (1, .int (nI set0)), (2, .int (nI se)), (3, .int (nI bb))]) hx hb dX4_heardOf_44 hl (by decide) rfl (fun ls hl => ?_)
          refine nv_iinc1 (lv' := [(5, .int (nI (i + 1))), (4, .int (nI (maxTo (fun q => if (set0 &&& playIn X.1 bb).testBit q then loudn X.1 q se else 0) (i)))), (0, .ref (am 0)), (1, .int (nI set0)), (2, .int (nI se)), (3, .int (nI bb))]) hx hb dX4_heardOf_46 hl (k := 1) rfl (by decide) rfl (fun ls hl => ?_)
          refine lv_goto (tgt := 6) hx hb dX4_heardOf_49 (by decide) ?_
          exact ih6 (i + 1) (by omega) (by omega) (nI (maxTo (fun q => if (set0 &&& playIn X.1 bb).testBit q then loudn X.1 q se else 0) (i))) (nI (i + 1)) (nv_e (by first | exact hrd_t (by omega) c2 | exact hrd_f c2)) rfl ls (lv_sub hl [1, 0, 2, 3, 4, 5] rfl)
        · refine lv_iload hx hb dX4_heardOf_26 (lv_at hl 0 rfl) ?_
          refine lv_aload_n hx hb dX4_heardOf_28 rfl (lv_at hl 2 rfl) ?_
          refine lv_iload hx hb dX4_heardOf_29 (lv_at hl 1 rfl) ?_
          refine lv_iload_n hx hb dX4_heardOf_31 rfl (lv_at hl 4 rfl) ?_
          refine lv_iload_n hx hb dX4_heardOf_32 rfl (lv_at hl 5 rfl) ?_
          refine ro_V (n := 3) (As := [.int (nI i), .int (nI se), .int (nI bb)]) (rest := [.int (nI (maxTo (fun q => if (set0 &&& playIn X.1 bb).testBit q then loudn X.1 q se else 0) (i)))]) ⟨hx, hb, hml, hown, hts⟩ (c_X4_soundOf l D ci am X kr q0 q1 q2 q3 q4 q5 iw kn y0 y1 y2 y3 y4 y5 y6 (i) (se) (bb) hWF (by omega) (by omega) (by omega)) gX4_heardOf_X4_soundOf rfl ⟨rfl, rfl⟩ (by decide +kernel) rfl ⟨Nat.le_of_ble_eq_true rfl, Nat.le_of_ble_eq_true rfl⟩ hE hs hK hP (ci := 4) (q0 := 0) rfl rfl hl.1 rfl (Nat.le_of_ble_eq_true rfl) dX4_heardOf_33 ⟨Nat.zero_le _, Nat.zero_le _⟩ ?_
          have f3 := sndO_lt hWF (i) (se) (bb)
          refine va_mmax hx hb (hml.trans hl.1.symm) hown (hts (.methodLink RX4 118 Lib.Math.max.name) (List.mem_of_getElem? (i := 2) rfl)) (hts (.static Lib.Math.max.name) (List.mem_of_getElem? (i := 3) rfl)) (hts (.initialized "java/lang/Math") (List.mem_of_getElem? (i := 4) rfl)) (hts (.code Lib.Math.max.name Lib.Math.max.code 2 (some .int)) (List.mem_of_getElem? (i := 5) rfl)) (Nat.le_of_ble_eq_true rfl) (Nat.le_of_ble_eq_true rfl) (Nat.zero_le _) (Nat.zero_le _) dX4_heardOf_36 (nv_cv (nv_max (x := maxTo (fun q => if (set0 &&& playIn X.1 bb).testBit q then loudn X.1 q se else 0) (i)) (y := sndO X.1 i se bb) (by omega) (by omega)) ?_)
          refine lv_goto (tgt := 44) hx hb dX4_heardOf_39 (by decide) ?_
          refine lv_istore (lv' := [(4, .int (nI (max (maxTo (fun q => if (set0 &&& playIn X.1 bb).testBit q then loudn X.1 q se else 0) (i)) (sndO X.1 i se bb)))), (5, .int (nI i)), (0, .ref (am 0)), (1, .int (nI set0)), (2, .int (nI se)), (3, .int (nI bb))]) hx hb dX4_heardOf_44 hl (by decide) rfl (fun ls hl => ?_)
          refine nv_iinc1 (lv' := [(5, .int (nI (i + 1))), (4, .int (nI (max (maxTo (fun q => if (set0 &&& playIn X.1 bb).testBit q then loudn X.1 q se else 0) (i)) (sndO X.1 i se bb)))), (0, .ref (am 0)), (1, .int (nI set0)), (2, .int (nI se)), (3, .int (nI bb))]) hx hb dX4_heardOf_46 hl (k := 1) rfl (by decide) rfl (fun ls hl => ?_)
          refine lv_goto (tgt := 6) hx hb dX4_heardOf_49 (by decide) ?_
          exact ih6 (i + 1) (by omega) (by omega) (nI (max (maxTo (fun q => if (set0 &&& playIn X.1 bb).testBit q then loudn X.1 q se else 0) (i)) (sndO X.1 i se bb))) (nI (i + 1)) (nv_e (by first | exact hrd_t (by omega) c2 | exact hrd_f c2)) rfl ls (lv_sub hl [1, 0, 2, 3, 4, 5] rfl)
  exact L6 _ (0) (Nat.lt_succ_self _) (by omega) (nI (0)) (nI (0)) rfl rfl ls (lv_sub hl [1, 0, 2, 3, 4, 5] rfl)

set_option maxHeartbeats 4000000 in
set_option maxRecDepth 100000 in
/-- X4_comes -/
theorem c_X4_comes (l : Launch) (D : va_G) (ci : Nat → ClassId) (am : Nat → Nat) (X : AS) (kr : Nat → Int32) (q0 q1 q2 q3 q4 q5 : Int32) (iw : Bool) (kn : Nat → Option Nat) (y0 y1 y2 y3 y4 y5 y6 : Nat → Int32) (hI : injA am 16) (kd se pt lo ne : Nat) (hWF : WF X.1) (h_n : X.1 7 0 < 8) : Met l yX4_comes wsX4_comes ({ frames := 1, cells := 0, slots := 0, locals := 21 } : Room) (va_Pc [.ref (am 0), .int (nI kd), .int (nI se), .int (nI pt), .int (nI lo), .int (nI ne)] (ro_B D (tyL ci) (wN ci am X kr q0 q1 q2 q3 q4 q5 iw kn y0 y1 y2 y3 y4 y5 y6) (enT))) (mu_Q (aM am) (some (.int (nI (X.1 7 0)))) (fun H => va_P D vwCl (wN ci am (toS X (comeS X.1 kd se pt lo ne)) kr q0 q1 q2 q3 q4 q5 iw kn y0 y1 y2 y3 y4 y5 y6) H)) 0 0 (aM am) := by
  refine mu_Met (cc := cX4_comes) (maxL := 7) (ret := (some .int)) [(0, .ref (am 0)), (1, .int (nI kd)), (2, .int (nI se)), (3, .int (nI pt)), (4, .int (nI lo)), (5, .int (nI ne))] (wN_D hI) (by decide) rfl (Nat.le_of_ble_eq_true rfl) rfl ?_
  intro p e s m below meth c H locs hx hb hml hr hlocks hts hown hP hK hs0 hD hS ls hl
  have hown : s.vm.findClass RX4 = some m.cls := hown
  have hinX4 : ∀ w ∈ wsX40, w ∈ wsX4_comes := by decide +kernel
  have hE := hE_T
  have f_n := hWF.n
  refine lv_aload_n hx hb dX4_comes_0 rfl (lv_at hl 0 rfl) ?_
  refine va_get (D := D) (ci := 4) (v := .ref (am 1)) (C := RX4) (T := TX4) (N := 24) hx hb hts hinX4 hown hK hP 0 rfl rfl 0 (by decide) (hts (.fieldLink RX4 9 "OneShortModel" "now" "[I") (List.mem_of_getElem? (i := 1) rfl)) (fun _ h9 => h9) rfl dX4_comes_1 ?_
  refine lv_iconst (v := nI (1)) hx hb dX4_comes_4 (by decide) ?_
  refine nv_iald (v := nI (X.1 7 0)) hx hb hK hP 1 0 rfl rfl (by omega) (by decide) (pk_n X.1) dX4_comes_5 ?_
  refine lv_istore (lv' := [(6, .int (nI (X.1 7 0))), (0, .ref (am 0)), (1, .int (nI kd)), (2, .int (nI se)), (3, .int (nI pt)), (4, .int (nI lo)), (5, .int (nI ne))]) hx hb dX4_comes_6 hl (by decide) rfl (fun ls hl => ?_)
  refine lv_aload_n hx hb dX4_comes_8 rfl (lv_at hl 1 rfl) ?_
  refine va_get (D := D) (ci := 4) (v := .ref (am 1)) (C := RX4) (T := TX4) (N := 24) hx hb hts hinX4 hown hK hP 0 rfl rfl 0 (by decide) (hts (.fieldLink RX4 9 "OneShortModel" "now" "[I") (List.mem_of_getElem? (i := 1) rfl)) (fun _ h9 => h9) rfl dX4_comes_9 ?_
  refine lv_iload hx hb dX4_comes_12 (lv_at hl 0 rfl) ?_
  refine lv_iconst (v := nI (0)) hx hb dX4_comes_14 (by decide) ?_
  refine ro_S (n := 2) (As := [.int (nI (X.1 7 0)), .int (nI 0)]) (rest := [.ref (am 1)]) ⟨hx, hb, hml, hown, hts⟩ (c_X4_at l D ci (wN ci am X kr q0 q1 q2 q3 q4 q5 iw kn y0 y1 y2 y3 y4 y5 y6) (X.1 7 0) (0) ) gX4_comes_X4_at rfl ⟨rfl, rfl⟩ (by decide +kernel) rfl ⟨Nat.le_of_ble_eq_true rfl, Nat.le_of_ble_eq_true rfl⟩ hE trivial hK hP hl.1 rfl (Nat.le_of_ble_eq_true rfl) dX4_comes_15 ⟨Nat.zero_le _, Nat.zero_le _⟩ ?_
  refine lv_iload_n hx hb dX4_comes_18 rfl (lv_at hl 2 rfl) ?_
  refine nv_iast hx hb hK hP hD hS 1 0 rfl rfl (by omega) (by decide) dX4_comes_19 (fun H locs hP hD hS => ?_)
  have hP : va_P D vwCl (wN ci am (toS X (st X.1 1 (X.1 7 0) kd)) kr q0 q1 q2 q3 q4 q5 iw kn y0 y1 y2 y3 y4 y5 y6) H := va_P.re (wN_now ci am X kr q0 q1 q2 q3 q4 q5 iw kn y0 y1 y2 y3 y4 y5 y6 (25 + 5 * (X.1 7 0) + 0) (nI (kd)) (pku_f X.1 (X.1 7 0) (by omega))) hP
  have hD : va_D (aM am) (wN ci am (toS X (st X.1 1 (X.1 7 0) kd)) kr q0 q1 q2 q3 q4 q5 iw kn y0 y1 y2 y3 y4 y5 y6) := wN_D hI
  refine lv_aload_n hx hb dX4_comes_20 rfl (lv_at hl 1 rfl) ?_
  refine va_get (D := D) (ci := 4) (v := .ref (am 1)) (C := RX4) (T := TX4) (N := 24) hx hb hts hinX4 hown hK hP 0 rfl rfl 0 (by decide) (hts (.fieldLink RX4 9 "OneShortModel" "now" "[I") (List.mem_of_getElem? (i := 1) rfl)) (fun _ h9 => h9) rfl dX4_comes_21 ?_
  refine lv_iload hx hb dX4_comes_24 (lv_at hl 0 rfl) ?_
  refine lv_iconst (v := nI (1)) hx hb dX4_comes_26 (by decide) ?_
  refine ro_S (n := 2) (As := [.int (nI (X.1 7 0)), .int (nI 1)]) (rest := [.ref (am 1)]) ⟨hx, hb, hml, hown, hts⟩ (c_X4_at l D ci (wN ci am (toS X (st X.1 1 (X.1 7 0) kd)) kr q0 q1 q2 q3 q4 q5 iw kn y0 y1 y2 y3 y4 y5 y6) (X.1 7 0) (1) ) gX4_comes_X4_at rfl ⟨rfl, rfl⟩ (by decide +kernel) rfl ⟨Nat.le_of_ble_eq_true rfl, Nat.le_of_ble_eq_true rfl⟩ hE trivial hK hP hl.1 rfl (Nat.le_of_ble_eq_true rfl) dX4_comes_27 ⟨Nat.zero_le _, Nat.zero_le _⟩ ?_
  refine lv_iload_n hx hb dX4_comes_30 rfl (lv_at hl 3 rfl) ?_
  refine nv_iast hx hb hK hP hD hS 1 0 rfl rfl (by omega) (by decide) dX4_comes_31 (fun H locs hP hD hS => ?_)
  have hP : va_P D vwCl (wN ci am (toS X (st (st X.1 1 (X.1 7 0) kd) 2 (X.1 7 0) se)) kr q0 q1 q2 q3 q4 q5 iw kn y0 y1 y2 y3 y4 y5 y6) H := va_P.re (wN_now ci am (toS X (st X.1 1 (X.1 7 0) kd)) kr q0 q1 q2 q3 q4 q5 iw kn y0 y1 y2 y3 y4 y5 y6 (25 + 5 * (X.1 7 0) + 1) (nI (se)) (pku_f (st X.1 1 (X.1 7 0) kd) (X.1 7 0) (by omega))) hP
  have hD : va_D (aM am) (wN ci am (toS X (st (st X.1 1 (X.1 7 0) kd) 2 (X.1 7 0) se)) kr q0 q1 q2 q3 q4 q5 iw kn y0 y1 y2 y3 y4 y5 y6) := wN_D hI
  refine lv_aload_n hx hb dX4_comes_32 rfl (lv_at hl 1 rfl) ?_
  refine va_get (D := D) (ci := 4) (v := .ref (am 1)) (C := RX4) (T := TX4) (N := 24) hx hb hts hinX4 hown hK hP 0 rfl rfl 0 (by decide) (hts (.fieldLink RX4 9 "OneShortModel" "now" "[I") (List.mem_of_getElem? (i := 1) rfl)) (fun _ h9 => h9) rfl dX4_comes_33 ?_
  refine lv_iload hx hb dX4_comes_36 (lv_at hl 0 rfl) ?_
  refine lv_iconst (v := nI (2)) hx hb dX4_comes_38 (by decide) ?_
  refine ro_S (n := 2) (As := [.int (nI (X.1 7 0)), .int (nI 2)]) (rest := [.ref (am 1)]) ⟨hx, hb, hml, hown, hts⟩ (c_X4_at l D ci (wN ci am (toS X (st (st X.1 1 (X.1 7 0) kd) 2 (X.1 7 0) se)) kr q0 q1 q2 q3 q4 q5 iw kn y0 y1 y2 y3 y4 y5 y6) (X.1 7 0) (2) ) gX4_comes_X4_at rfl ⟨rfl, rfl⟩ (by decide +kernel) rfl ⟨Nat.le_of_ble_eq_true rfl, Nat.le_of_ble_eq_true rfl⟩ hE trivial hK hP hl.1 rfl (Nat.le_of_ble_eq_true rfl) dX4_comes_39 ⟨Nat.zero_le _, Nat.zero_le _⟩ ?_
  refine lv_iload_n hx hb dX4_comes_42 rfl (lv_at hl 4 rfl) ?_
  refine nv_iast hx hb hK hP hD hS 1 0 rfl rfl (by omega) (by decide) dX4_comes_43 (fun H locs hP hD hS => ?_)
  have hP : va_P D vwCl (wN ci am (toS X (st (st (st X.1 1 (X.1 7 0) kd) 2 (X.1 7 0) se) 3 (X.1 7 0) pt)) kr q0 q1 q2 q3 q4 q5 iw kn y0 y1 y2 y3 y4 y5 y6) H := va_P.re (wN_now ci am (toS X (st (st X.1 1 (X.1 7 0) kd) 2 (X.1 7 0) se)) kr q0 q1 q2 q3 q4 q5 iw kn y0 y1 y2 y3 y4 y5 y6 (25 + 5 * (X.1 7 0) + 2) (nI (pt)) (pku_f (st (st X.1 1 (X.1 7 0) kd) 2 (X.1 7 0) se) (X.1 7 0) (by omega))) hP
  have hD : va_D (aM am) (wN ci am (toS X (st (st (st X.1 1 (X.1 7 0) kd) 2 (X.1 7 0) se) 3 (X.1 7 0) pt)) kr q0 q1 q2 q3 q4 q5 iw kn y0 y1 y2 y3 y4 y5 y6) := wN_D hI
  refine lv_aload_n hx hb dX4_comes_44 rfl (lv_at hl 1 rfl) ?_
  refine va_get (D := D) (ci := 4) (v := .ref (am 1)) (C := RX4) (T := TX4) (N := 24) hx hb hts hinX4 hown hK hP 0 rfl rfl 0 (by decide) (hts (.fieldLink RX4 9 "OneShortModel" "now" "[I") (List.mem_of_getElem? (i := 1) rfl)) (fun _ h9 => h9) rfl dX4_comes_45 ?_
  refine lv_iload hx hb dX4_comes_48 (lv_at hl 0 rfl) ?_
  refine lv_iconst (v := nI (3)) hx hb dX4_comes_50 (by decide) ?_
  refine ro_S (n := 2) (As := [.int (nI (X.1 7 0)), .int (nI 3)]) (rest := [.ref (am 1)]) ⟨hx, hb, hml, hown, hts⟩ (c_X4_at l D ci (wN ci am (toS X (st (st (st X.1 1 (X.1 7 0) kd) 2 (X.1 7 0) se) 3 (X.1 7 0) pt)) kr q0 q1 q2 q3 q4 q5 iw kn y0 y1 y2 y3 y4 y5 y6) (X.1 7 0) (3) ) gX4_comes_X4_at rfl ⟨rfl, rfl⟩ (by decide +kernel) rfl ⟨Nat.le_of_ble_eq_true rfl, Nat.le_of_ble_eq_true rfl⟩ hE trivial hK hP hl.1 rfl (Nat.le_of_ble_eq_true rfl) dX4_comes_51 ⟨Nat.zero_le _, Nat.zero_le _⟩ ?_
  refine lv_iload hx hb dX4_comes_54 (lv_at hl 5 rfl) ?_
  refine nv_iast hx hb hK hP hD hS 1 0 rfl rfl (by omega) (by decide) dX4_comes_56 (fun H locs hP hD hS => ?_)
  have hP : va_P D vwCl (wN ci am (toS X (st (st (st (st X.1 1 (X.1 7 0) kd) 2 (X.1 7 0) se) 3 (X.1 7 0) pt) 4 (X.1 7 0) lo)) kr q0 q1 q2 q3 q4 q5 iw kn y0 y1 y2 y3 y4 y5 y6) H := va_P.re (wN_now ci am (toS X (st (st (st X.1 1 (X.1 7 0) kd) 2 (X.1 7 0) se) 3 (X.1 7 0) pt)) kr q0 q1 q2 q3 q4 q5 iw kn y0 y1 y2 y3 y4 y5 y6 (25 + 5 * (X.1 7 0) + 3) (nI (lo)) (pku_f (st (st (st X.1 1 (X.1 7 0) kd) 2 (X.1 7 0) se) 3 (X.1 7 0) pt) (X.1 7 0) (by omega))) hP
  have hD : va_D (aM am) (wN ci am (toS X (st (st (st (st X.1 1 (X.1 7 0) kd) 2 (X.1 7 0) se) 3 (X.1 7 0) pt) 4 (X.1 7 0) lo)) kr q0 q1 q2 q3 q4 q5 iw kn y0 y1 y2 y3 y4 y5 y6) := wN_D hI
  refine lv_aload_n hx hb dX4_comes_57 rfl (lv_at hl 1 rfl) ?_
  refine va_get (D := D) (ci := 4) (v := .ref (am 1)) (C := RX4) (T := TX4) (N := 24) hx hb hts hinX4 hown hK hP 0 rfl rfl 0 (by decide) (hts (.fieldLink RX4 9 "OneShortModel" "now" "[I") (List.mem_of_getElem? (i := 1) rfl)) (fun _ h9 => h9) rfl dX4_comes_58 ?_
  refine lv_iload hx hb dX4_comes_61 (lv_at hl 0 rfl) ?_
  refine lv_iconst (v := nI (4)) hx hb dX4_comes_63 (by decide) ?_
  refine ro_S (n := 2) (As := [.int (nI (X.1 7 0)), .int (nI 4)]) (rest := [.ref (am 1)]) ⟨hx, hb, hml, hown, hts⟩ (c_X4_at l D ci (wN ci am (toS X (st (st (st (st X.1 1 (X.1 7 0) kd) 2 (X.1 7 0) se) 3 (X.1 7 0) pt) 4 (X.1 7 0) lo)) kr q0 q1 q2 q3 q4 q5 iw kn y0 y1 y2 y3 y4 y5 y6) (X.1 7 0) (4) ) gX4_comes_X4_at rfl ⟨rfl, rfl⟩ (by decide +kernel) rfl ⟨Nat.le_of_ble_eq_true rfl, Nat.le_of_ble_eq_true rfl⟩ hE trivial hK hP hl.1 rfl (Nat.le_of_ble_eq_true rfl) dX4_comes_64 ⟨Nat.zero_le _, Nat.zero_le _⟩ ?_
  refine lv_iload hx hb dX4_comes_67 (lv_at hl 6 rfl) ?_
  refine nv_iast hx hb hK hP hD hS 1 0 rfl rfl (by omega) (by decide) dX4_comes_69 (fun H locs hP hD hS => ?_)
  have hP : va_P D vwCl (wN ci am (toS X (st (st (st (st (st X.1 1 (X.1 7 0) kd) 2 (X.1 7 0) se) 3 (X.1 7 0) pt) 4 (X.1 7 0) lo) 5 (X.1 7 0) ne)) kr q0 q1 q2 q3 q4 q5 iw kn y0 y1 y2 y3 y4 y5 y6) H := va_P.re (wN_now ci am (toS X (st (st (st (st X.1 1 (X.1 7 0) kd) 2 (X.1 7 0) se) 3 (X.1 7 0) pt) 4 (X.1 7 0) lo)) kr q0 q1 q2 q3 q4 q5 iw kn y0 y1 y2 y3 y4 y5 y6 (25 + 5 * (X.1 7 0) + 4) (nI (ne)) (pku_f (st (st (st (st X.1 1 (X.1 7 0) kd) 2 (X.1 7 0) se) 3 (X.1 7 0) pt) 4 (X.1 7 0) lo) (X.1 7 0) (by omega))) hP
  have hD : va_D (aM am) (wN ci am (toS X (st (st (st (st (st X.1 1 (X.1 7 0) kd) 2 (X.1 7 0) se) 3 (X.1 7 0) pt) 4 (X.1 7 0) lo) 5 (X.1 7 0) ne)) kr q0 q1 q2 q3 q4 q5 iw kn y0 y1 y2 y3 y4 y5 y6) := wN_D hI
  refine lv_aload_n hx hb dX4_comes_70 rfl (lv_at hl 1 rfl) ?_
  refine va_get (D := D) (ci := 4) (v := .ref (am 1)) (C := RX4) (T := TX4) (N := 24) hx hb hts hinX4 hown hK hP 0 rfl rfl 0 (by decide) (hts (.fieldLink RX4 9 "OneShortModel" "now" "[I") (List.mem_of_getElem? (i := 1) rfl)) (fun _ h9 => h9) rfl dX4_comes_71 ?_
  refine lv_iconst (v := nI (1)) hx hb dX4_comes_74 (by decide) ?_
  refine lv_dup2_11 hx hb dX4_comes_75 rfl rfl ?_
  refine nv_iald (v := nI ((st (st (st (st (st X.1 1 (X.1 7 0) kd) 2 (X.1 7 0) se) 3 (X.1 7 0) pt) 4 (X.1 7 0) lo) 5 (X.1 7 0) ne) 7 0)) hx hb hK hP 1 0 rfl rfl (by omega) (by decide) (pk_n (st (st (st (st (st X.1 1 (X.1 7 0) kd) 2 (X.1 7 0) se) 3 (X.1 7 0) pt) 4 (X.1 7 0) lo) 5 (X.1 7 0) ne)) dX4_comes_76 ?_
  refine nv_cv (show nI ((st (st (st (st (st X.1 1 (X.1 7 0) kd) 2 (X.1 7 0) se) 3 (X.1 7 0) pt) 4 (X.1 7 0) lo) 5 (X.1 7 0) ne) 7 0) = nI (X.1 7 0) from rfl) ?_
  refine lv_iconst (v := nI (1)) hx hb dX4_comes_77 (by decide) ?_
  refine nv_iadd hx hb dX4_comes_78 ?_
  refine nv_iast hx hb hK hP hD hS 1 0 rfl rfl (by omega) (by decide) dX4_comes_79 (fun H locs hP hD hS => ?_)
  have hP : va_P D vwCl (wN ci am (toS X (st (st (st (st (st (st X.1 1 (X.1 7 0) kd) 2 (X.1 7 0) se) 3 (X.1 7 0) pt) 4 (X.1 7 0) lo) 5 (X.1 7 0) ne) 7 0 (X.1 7 0 + 1))) kr q0 q1 q2 q3 q4 q5 iw kn y0 y1 y2 y3 y4 y5 y6) H := va_P.re (wN_now ci am (toS X (st (st (st (st (st X.1 1 (X.1 7 0) kd) 2 (X.1 7 0) se) 3 (X.1 7 0) pt) 4 (X.1 7 0) lo) 5 (X.1 7 0) ne)) kr q0 q1 q2 q3 q4 q5 iw kn y0 y1 y2 y3 y4 y5 y6 (1) (nI ((X.1 7 0 + 1))) (pku_n (st (st (st (st (st X.1 1 (X.1 7 0) kd) 2 (X.1 7 0) se) 3 (X.1 7 0) pt) 4 (X.1 7 0) lo) 5 (X.1 7 0) ne))) hP
  have hD : va_D (aM am) (wN ci am (toS X (st (st (st (st (st (st X.1 1 (X.1 7 0) kd) 2 (X.1 7 0) se) 3 (X.1 7 0) pt) 4 (X.1 7 0) lo) 5 (X.1 7 0) ne) 7 0 (X.1 7 0 + 1))) kr q0 q1 q2 q3 q4 q5 iw kn y0 y1 y2 y3 y4 y5 y6) := wN_D hI
  refine lv_iload hx hb dX4_comes_80 (lv_at hl 0 rfl) ?_
  exact mu_iret hx hb hr hlocks hS (hP) dX4_comes_82
