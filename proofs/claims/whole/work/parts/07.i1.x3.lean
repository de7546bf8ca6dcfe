/-! walks laid by program -/
set_option maxHeartbeats 4000000 in
set_option maxRecDepth 100000 in
/-- X3_judge -/
theorem c_X3_judge (l : Launch) (D : va_G) (ci : Nat → ClassId) (G : Nat → Prop) (ka : Nat) (ad : Nat → Nat) (X : AS) (T : OS) (tq la tt : Nat → Int32) (z : Nat → Nat → Int32) (hI : injA ad 48) (hG : ∀ k, k < 48 → G (ad k)) (s_ : Int32) (hWX : WFX X) : Met l yX3_judge wsX3_judge ({ frames := 4, cells := 0, slots := 0, locals := 89 } : Room) (va_Pc [.ref (ad 0), .int (s_)] (ro_B D (tyL ci) (wX ci ad X T tq la tt z) (en D (ci 0) G ka))) (mu_Q (aX ad) (some (.int ((p_judge X s_).1))) (fun H => ∃ T tq la tt z, va_P D vwCl (wX ci ad ((p_judge X s_).2) T tq la tt z) H)) 0 0 (aX ad) := by
  refine mu_Met (cc := cX3_judge) (maxL := 5) (ret := (some .int)) [(0, .ref (ad 0)), (1, .int (s_))] (wX_D hI) (by decide) rfl (Nat.le_of_ble_eq_true rfl) rfl ?_
  intro p e s m below meth c H locs hx hb hml hr hlocks hts hown hP hK hs0 hD hS ls hl
  have hown : s.vm.findClass RX3 = some m.cls := hown
  have hinX1 : ∀ w ∈ wsX10, w ∈ wsX3_judge := by decide +kernel
  have hinX3 : ∀ w ∈ wsX30, w ∈ wsX3_judge := by decide +kernel
  have hE := hE_en D (ci 0) G ka
  have hWF := hWX.w
  have f_n := hWF.n
  have f_e := hWX.e
  have f_tl := hWX.t
  have hGA := aX_G hG
  have hWK := hWX.k
  refine lv_aload_n hx hb dX3_judge_0 rfl (lv_at hl 0 rfl) ?_
  refine lv_iload_n hx hb dX3_judge_1 rfl (lv_at hl 1 rfl) ?_
  refine ro_V (n := 1) (As := [.int (s_)]) (rest := []) ⟨hx, hb, hml, hown, hts⟩ (c_X3_lackOf l D ci G ka ad X T tq la tt z (s_) hWX) gX3_judge_X3_lackOf rfl ⟨rfl, rfl⟩ (by decide +kernel) rfl ⟨Nat.le_of_ble_eq_true rfl, Nat.le_of_ble_eq_true rfl⟩ hE (en_S hGA hs0 hS) hK hP (ci := 3) (q0 := 0) rfl rfl hl.1 rfl (Nat.le_of_ble_eq_true rfl) dX3_judge_2 ⟨Nat.zero_le _, Nat.zero_le _⟩ ?_
  refine lv_istore_n (lv' := [(2, .int (lk (lackN X s_))), (0, .ref (ad 0)), (1, .int (s_))]) hx hb dX3_judge_5 rfl hl (by decide) rfl (fun ls hl => ?_)
  refine lv_iload_n hx hb dX3_judge_6 rfl (lv_at hl 0 rfl) ?_
  refine lv_iconst (v := -1) hx hb dX3_judge_7 (by decide) ?_
  refine lv_icmp_eq (tgt := 17) hx hb dX3_judge_8 (by decide) (fun c1 => ?_) (fun c1 => ?_)
  · have q2 := lk_eq c1
    obtain ⟨s_n, h_s_n, h_bs_, rfl⟩ := lack_ok q2
    rw [c1] at hl
    have t_s_n : tn (nI s_n) = s_n := tn_nI (by omega)
    have f3 := hWX.sl s_n
    have f4 := sb_lt hWX s_n
    refine lv_aload_n hx hb dX3_judge_17 rfl (lv_at hl 1 rfl) ?_
    refine va_get (D := D) (ci := 3) (v := .ref (ad 1)) (C := RX3) (T := TX3) (N := 9) hx hb hts hinX3 hown hK hP 0 rfl rfl 5 (by decide) (hts (.fieldLink RX3 35 "OneShort" "sheets" "[LOneShort$Sheet;") (List.mem_of_getElem? (i := 1) rfl)) (fun _ h9 => h9) rfl dX3_judge_18 ?_
    refine lv_iload_n hx hb dX3_judge_21 rfl (lv_at hl 2 rfl) ?_
    refine nv_aald (v := .ref (ad (40 + 2 * (s_n)))) hx hb hK hP 1 1 rfl rfl (by omega) (by decide) rfl dX3_judge_22 ?_
    refine va_get (D := D) (ci := 1) (v := .ref (ad (40 + 2 * (s_n) + 1))) (C := RX1) (T := TX1) (N := 3) hx hb hts hinX1 hown hK (wX_sh (k := s_n) (by omega) hP) 0 rfl rfl 0 (by decide) (hts (.fieldLink RX3 237 "OneShort$Sheet" "numbers" "[I") (List.mem_of_getElem? (i := 2) rfl)) (fun _ h9 => h9) rfl dX3_judge_23 ?_
    refine lv_astore_n (lv' := [(3, .ref (ad (40 + 2 * (s_n) + 1))), (2, .int (-1)), (0, .ref (ad 0)), (1, .int (nI s_n))]) hx hb dX3_judge_26 rfl hl (by decide) rfl (fun ls hl => ?_)
    refine lv_iconst (v := nI (0)) hx hb dX3_judge_27 (by decide) ?_
    refine lv_istore (lv' := [(4, .int (nI 0)), (3, .ref (ad (40 + 2 * (s_n) + 1))), (2, .int (-1)), (0, .ref (ad 0)), (1, .int (nI s_n))]) hx hb dX3_judge_28 hl (by decide) rfl (fun ls hl => ?_)
    have L30 : ∀ (k30 : Nat) (i : Nat), X.2.2.2.2.2.2.2.1 s_n - i < k30 → (i ≤ X.2.2.2.2.2.2.2.1 s_n) → (∀ j, j < i → (fun i => !okJ X (X.2.2.2.2.2.2.2.2 s_n) i) j = false) → ∀ (x4 : Int32), x4 = nI (i) → ∀ ls : Array Slot, lv_has ls 5 [(4, .int (x4)), (3, .ref (ad (40 + 2 * (s_n) + 1))), (2, .int (-1)), (0, .ref (ad 0)), (1, .int (nI s_n))] → W p l e (headSpec wsX3_judge ({ frames := 4, cells := 0, slots := 0, locals := 89 } : Room)).room s m ([.ref (ad 0), .int (nI s_n)] : List Value).toArray below meth c H locs 0 0 (MQ below (mu_Q (aX ad) (some (.int ((p_judge X (nI s_n)).1))) (fun H => ∃ T tq la tt z, va_P D vwCl (wX ci ad ((p_judge X (nI s_n)).2) T tq la tt z) H)) ([.ref (ad 0), .int (nI s_n)] : List Value).toArray s 0 0 (aX ad)) (F0 m 30 ls []) := by
      intro k30
      induction k30 with
      | zero => intro i h0; exact absurd h0 (Nat.not_lt_zero _)
      | succ k30 ih30 =>
        intro i hk30 h_i h_u x4 e4 ls hl
        subst e4
        refine lv_iload hx hb dX3_judge_30 (lv_at hl 0 rfl) ?_
        refine lv_aload_n hx hb dX3_judge_32 rfl (lv_at hl 3 rfl) ?_
        refine va_get (D := D) (ci := 3) (v := .ref (ad 1)) (C := RX3) (T := TX3) (N := 9) hx hb hts hinX3 hown hK hP 0 rfl rfl 5 (by decide) (hts (.fieldLink RX3 35 "OneShort" "sheets" "[LOneShort$Sheet;") (List.mem_of_getElem? (i := 1) rfl)) (fun _ h9 => h9) rfl dX3_judge_33 ?_
        refine lv_iload_n hx hb dX3_judge_36 rfl (lv_at hl 4 rfl) ?_
        refine nv_aald (v := .ref (ad (40 + 2 * (s_n)))) hx hb hK hP 1 1 rfl rfl (by omega) (by decide) rfl dX3_judge_37 ?_
        refine va_get (D := D) (ci := 1) (v := .int (nI (X.2.2.2.2.2.2.2.1 (s_n)))) (C := RX1) (T := TX1) (N := 3) hx hb hts hinX1 hown hK (wX_sh (k := s_n) (by omega) hP) 0 rfl rfl 2 (by decide) (hts (.fieldLink RX3 221 "OneShort$Sheet" "length" "I") (List.mem_of_getElem? (i := 3) rfl)) (fun _ h9 => h9) rfl dX3_judge_38 ?_
        refine nv_icmp_ge (tgt := 113) hx hb (by omega) (by omega) dX3_judge_41 (by decide) (fun c5 => ?_) (fun c5 => ?_)
        · refine lv_iconst (v := nI (0)) hx hb dX3_judge_113 (by decide) ?_
          have hp : p_judge X (nI s_n) = (nI (0), X) := by rw [p_judge, if_pos q2, t_s_n, any_no (n := X.2.2.2.2.2.2.2.1 s_n) (fun j hj => h_u j (by omega))]; rfl
          refine nv_cv (show nI (0) = (p_judge X (nI s_n)).1 from by rw [hp]) ?_
          exact mu_iret hx hb hr hlocks hS ((by rw [hp]; exact ⟨_, _, _, _, _, hP⟩)) dX3_judge_114
        · refine lv_aload_n hx hb dX3_judge_44 rfl (lv_at hl 3 rfl) ?_
          refine lv_aload_n hx hb dX3_judge_45 rfl (lv_at hl 1 rfl) ?_
          refine lv_iload hx hb dX3_judge_46 (lv_at hl 0 rfl) ?_
          refine nv_iald (v := X.2.2.2.2.2.2.2.2 (s_n) (i)) hx hb hK (wX_sh (k := s_n) (by omega) hP) 1 0 rfl rfl (by omega) (by decide) rfl dX3_judge_48 ?_
          refine ro_V (n := 1) (As := [.int (X.2.2.2.2.2.2.2.2 (s_n) (i))]) (rest := []) ⟨hx, hb, hml, hown, hts⟩ (c_X3_isPlayer l D ci G ka ad X T tq la tt z (X.2.2.2.2.2.2.2.2 (s_n) (i)) hWX) gX3_judge_X3_isPlayer rfl ⟨rfl, rfl⟩ (by decide +kernel) rfl ⟨Nat.le_of_ble_eq_true rfl, Nat.le_of_ble_eq_true rfl⟩ hE (en_S hGA hs0 hS) hK hP (ci := 3) (q0 := 0) rfl rfl hl.1 rfl (Nat.le_of_ble_eq_true rfl) dX3_judge_49 ⟨Nat.zero_le _, Nat.zero_le _⟩ ?_
          refine nv_ifne_b (tgt := 60) hx hb dX3_judge_52 (by decide) (fun c6 => ?_) (fun c6 => ?_)
          · refine lv_iload hx hb dX3_judge_60 (lv_at hl 0 rfl) ?_
            refine nv_ifle (tgt := 107) hx hb (by omega) dX3_judge_62 (by decide) (fun c7 => ?_) (fun c7 => ?_)
            · refine nv_iinc1 (lv' := [(4, .int (nI (i + 1))), (3, .ref (ad (40 + 2 * (s_n) + 1))), (2, .int (-1)), (0, .ref (ad 0)), (1, .int (nI s_n))]) hx hb dX3_judge_107 hl (k := 0) rfl (by decide) rfl (fun ls hl => ?_)
              refine lv_goto (tgt := 30) hx hb dX3_judge_110 (by decide) ?_
              exact ih30 (i + 1) (by omega) (by omega) (all_f h_u (by first | exact okJ_0 c6 c7 | exact okJ_1 c1 c6 c7)) (nI (i + 1)) rfl ls (lv_sub hl [0, 1, 2, 3, 4] rfl)
            · refine lv_aload_n hx hb dX3_judge_65 rfl (lv_at hl 3 rfl) ?_
              refine lv_aload_n hx hb dX3_judge_66 rfl (lv_at hl 1 rfl) ?_
              refine lv_iload hx hb dX3_judge_67 (lv_at hl 0 rfl) ?_
              refine nv_iald (v := X.2.2.2.2.2.2.2.2 (s_n) (i)) hx hb hK (wX_sh (k := s_n) (by omega) hP) 1 0 rfl rfl (by omega) (by decide) rfl dX3_judge_69 ?_
              refine lv_aload_n hx hb dX3_judge_70 rfl (lv_at hl 1 rfl) ?_
              refine lv_iload hx hb dX3_judge_71 (lv_at hl 0 rfl) ?_
              refine lv_iconst (v := nI (1)) hx hb dX3_judge_73 (by decide) ?_
              refine nv_isub hx hb (by omega) dX3_judge_74 ?_
              refine nv_iald (v := X.2.2.2.2.2.2.2.2 (s_n) ((i - 1))) hx hb hK (wX_sh (k := s_n) (by omega) hP) 1 0 rfl rfl (by omega) (by decide) rfl dX3_judge_75 ?_
              refine ro_V (n := 2) (As := [.int (X.2.2.2.2.2.2.2.2 (s_n) (i)), .int (X.2.2.2.2.2.2.2.2 (s_n) ((i - 1)))]) (rest := []) ⟨hx, hb, hml, hown, hts⟩ (c_X3_isPair l D ci G ka ad X T tq la tt z (X.2.2.2.2.2.2.2.2 (s_n) (i)) (X.2.2.2.2.2.2.2.2 (s_n) ((i - 1))) hWX) gX3_judge_X3_isPair rfl ⟨rfl, rfl⟩ (by decide +kernel) rfl ⟨Nat.le_of_ble_eq_true rfl, Nat.le_of_ble_eq_true rfl⟩ hE (en_S hGA hs0 hS) hK hP (ci := 3) (q0 := 0) rfl rfl hl.1 rfl (Nat.le_of_ble_eq_true rfl) dX3_judge_76 ⟨Nat.zero_le _, Nat.zero_le _⟩ ?_
              refine nv_ifeq_b (tgt := 102) hx hb dX3_judge_79 (by decide) (fun c8 => ?_) (fun c8 => ?_)
              · refine lv_iconst (v := nI (1)) hx hb dX3_judge_102 (by decide) ?_
                refine lv_iload hx hb dX3_judge_103 (lv_at hl 0 rfl) ?_
                refine nv_iadd hx hb dX3_judge_105 ?_
                have hp : p_judge X (nI s_n) = (nI ((1 + i)), X) := by obtain ⟨h8, h9⟩ := frst_eq (P := fun i => !okJ X (X.2.2.2.2.2.2.2.2 s_n) i) (n := X.2.2.2.2.2.2.2.1 s_n) (k := i) (by omega) (by first | exact okJ_a c8 | exact okJ_b c7 c8 | exact okJ_c c6 c8) h_u; rw [p_judge, if_pos q2, t_s_n, h8, h9]; rfl
                refine nv_cv (show nI ((1 + i)) = (p_judge X (nI s_n)).1 from by rw [hp]) ?_
                exact mu_iret hx hb hr hlocks hS ((by rw [hp]; exact ⟨_, _, _, _, _, hP⟩)) dX3_judge_106
              · obtain ⟨e_a, e_b, f_a, f_b⟩ := pair_tn c8 f_n
                refine lv_aload_n hx hb dX3_judge_82 rfl (lv_at hl 3 rfl) ?_
                refine va_get (D := D) (ci := 3) (v := .ref (ad 5)) (C := RX3) (T := TX3) (N := 9) hx hb hts hinX3 hown hK hP 0 rfl rfl 0 (by decide) (hts (.fieldLink RX3 10 "OneShort" "orchestra" "LOneShort$Orchestra;") (List.mem_of_getElem? (i := 4) rfl)) (fun _ h9 => h9) rfl dX3_judge_83 ?_
                refine lv_aload_n hx hb dX3_judge_86 rfl (lv_at hl 1 rfl) ?_
                refine lv_iload hx hb dX3_judge_87 (lv_at hl 0 rfl) ?_
                refine nv_iald (v := X.2.2.2.2.2.2.2.2 (s_n) (i)) hx hb hK (wX_sh (k := s_n) (by omega) hP) 1 0 rfl rfl (by omega) (by decide) rfl dX3_judge_89 ?_
                refine nv_cv (show X.2.2.2.2.2.2.2.2 (s_n) (i) = nI (tn (X.2.2.2.2.2.2.2.2 s_n (i))) from e_a) ?_
                refine lv_aload_n hx hb dX3_judge_90 rfl (lv_at hl 1 rfl) ?_
                refine lv_iload hx hb dX3_judge_91 (lv_at hl 0 rfl) ?_
                refine lv_iconst (v := nI (1)) hx hb dX3_judge_93 (by decide) ?_
                refine nv_isub hx hb (by omega) dX3_judge_94 ?_
                refine nv_iald (v := X.2.2.2.2.2.2.2.2 (s_n) ((i - 1))) hx hb hK (wX_sh (k := s_n) (by omega) hP) 1 0 rfl rfl (by omega) (by decide) rfl dX3_judge_95 ?_
                refine nv_cv (show X.2.2.2.2.2.2.2.2 (s_n) ((i - 1)) = nI (tn (X.2.2.2.2.2.2.2.2 s_n ((i - 1)))) from e_b) ?_
                refine ro_V (n := 2) (As := [.int (nI (tn (X.2.2.2.2.2.2.2.2 s_n (i)))), .int (nI (tn (X.2.2.2.2.2.2.2.2 s_n ((i - 1)))))]) (rest := []) ⟨hx, hb, hml, hown, hts⟩ (c_X0_barsHearing l D ci G ka (sh ad 5) X.1 (z 0) (z 1) (z 2) (tn (X.2.2.2.2.2.2.2.2 s_n (i))) (tn (X.2.2.2.2.2.2.2.2 s_n ((i - 1)))) hWF (by omega) (by omega)) gX3_judge_X0_barsHearing rfl ⟨rfl, rfl⟩ (by decide +kernel) rfl ⟨Nat.le_of_ble_eq_true rfl, Nat.le_of_ble_eq_true rfl⟩ hE (en_S hGA hs0 hS) hK (wX_s5 hP) (ci := 0) (q0 := 0) rfl rfl hl.1 rfl (Nat.le_of_ble_eq_true rfl) dX3_judge_96 ⟨Nat.zero_le _, Nat.zero_le _⟩ ?_
                have f9 := bHear_lt X.1 ((tn (X.2.2.2.2.2.2.2.2 s_n (i)))) ((tn (X.2.2.2.2.2.2.2.2 s_n ((i - 1)))))
                refine nv_ifne (tgt := 107) hx hb (by omega) dX3_judge_99 (by decide) (fun c10 => ?_) (fun c10 => ?_)
                · refine nv_iinc1 (lv' := [(4, .int (nI (i + 1))), (3, .ref (ad (40 + 2 * (s_n) + 1))), (2, .int (-1)), (0, .ref (ad 0)), (1, .int (nI s_n))]) hx hb dX3_judge_107 hl (k := 0) rfl (by decide) rfl (fun ls hl => ?_)
                  refine lv_goto (tgt := 30) hx hb dX3_judge_110 (by decide) ?_
                  exact ih30 (i + 1) (by omega) (by omega) (all_f h_u (by first | exact okJ_0 c8 c10 | exact okJ_1 c6 c8 c10)) (nI (i + 1)) rfl ls (lv_sub hl [0, 1, 2, 3, 4] rfl)
                · refine lv_iconst (v := nI (1)) hx hb dX3_judge_102 (by decide) ?_
                  refine lv_iload hx hb dX3_judge_103 (lv_at hl 0 rfl) ?_
                  refine nv_iadd hx hb dX3_judge_105 ?_
                  have hp : p_judge X (nI s_n) = (nI ((1 + i)), X) := by obtain ⟨h8, h9⟩ := frst_eq (P := fun i => !okJ X (X.2.2.2.2.2.2.2.2 s_n) i) (n := X.2.2.2.2.2.2.2.1 s_n) (k := i) (by omega) (by first | exact okJ_a c10 | exact okJ_b c8 c10 | exact okJ_c c7 c10) h_u; rw [p_judge, if_pos q2, t_s_n, h8, h9]; rfl
                  refine nv_cv (show nI ((1 + i)) = (p_judge X (nI s_n)).1 from by rw [hp]) ?_
                  exact mu_iret hx hb hr hlocks hS ((by rw [hp]; exact ⟨_, _, _, _, _, hP⟩)) dX3_judge_106
          · refine lv_iconst (v := nI (1)) hx hb dX3_judge_55 (by decide) ?_
            refine lv_iload hx hb dX3_judge_56 (lv_at hl 0 rfl) ?_
            refine nv_iadd hx hb dX3_judge_58 ?_
            have hp : p_judge X (nI s_n) = (nI ((1 + i)), X) := by obtain ⟨h8, h9⟩ := frst_eq (P := fun i => !okJ X (X.2.2.2.2.2.2.2.2 s_n) i) (n := X.2.2.2.2.2.2.2.1 s_n) (k := i) (by omega) (by first | exact okJ_a c6 | exact okJ_b c5 c6 | exact okJ_c c1 c6) h_u; rw [p_judge, if_pos q2, t_s_n, h8, h9]; rfl
            refine nv_cv (show nI ((1 + i)) = (p_judge X (nI s_n)).1 from by rw [hp]) ?_
            exact mu_iret hx hb hr hlocks hS ((by rw [hp]; exact ⟨_, _, _, _, _, hP⟩)) dX3_judge_59
    exact L30 _ (0) (Nat.lt_succ_self _) (by omega) (fun _ h => absurd h (Nat.not_lt_zero _)) (nI (0)) rfl ls (lv_sub hl [0, 1, 2, 3, 4] rfl)
  · have q11 := lk_ne c1
    have e12 := lk_nI q11
    rw [e12] at hl
    have f13 := lack_lt q11
    refine lv_aload_n hx hb dX3_judge_11 rfl (lv_at hl 1 rfl) ?_
    refine lv_iload_n hx hb dX3_judge_12 rfl (lv_at hl 0 rfl) ?_
    refine mu_V (n := 1) (As := [.int (nI (lackN X s_))]) (rest := []) ⟨hx, hb, hml, hown, hts⟩ (c_X3_finding l D ci G ka ad X T tq la tt z hI hG (lackN X s_) hWX (by omega)) gX3_judge_X3_finding rfl ⟨rfl, rfl⟩ (by decide +kernel) rfl ⟨Nat.le_of_ble_eq_true rfl, Nat.le_of_ble_eq_true rfl⟩ hE (en_S hGA hs0 hS) hK hP (ci := 3) (q0 := 0) rfl rfl hl.1 rfl (Nat.le_of_ble_eq_true rfl) dX3_judge_13 ⟨Nat.zero_le _, Nat.zero_le _⟩ hS (fun _ h => h) (fun H1 locs hz hfr hB hS => ?_)
    obtain ⟨T, tq, la, tt, z, hP⟩ := hB
    generalize H1 = H at hP hS ⊢
    have hD : va_D (aX ad) (wX ci ad (toF X (inc X.2.2.2.1 (lackN X s_))) T tq la tt z) := wX_D hI
    have hp : p_judge X s_ = (fnd (lackN X s_), toF X (inc X.2.2.2.1 (lackN X s_))) := by first | (simp [p_judge, fl_eq, c1, q11]; done)
    refine nv_cv (show fnd (lackN X s_) = (p_judge X s_).1 from by rw [hp]) ?_
    exact mu_iret hx hb hr hlocks hS ((by rw [hp]; exact ⟨_, _, _, _, _, hP⟩)) dX3_judge_16
