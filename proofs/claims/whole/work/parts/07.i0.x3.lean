/-! walks laid by program -/
set_option maxHeartbeats 4000000 in
set_option maxRecDepth 100000 in
/-- X3_load -/
theorem c_X3_load (l : Launch) (D : va_G) (ci : Nat → ClassId) (G : Nat → Prop) (ka : Nat) (ad : Nat → Nat) (X : AS) (T : OS) (tq la tt : Nat → Int32) (z : Nat → Nat → Int32) (hI : injA ad 48) (hG : ∀ k, k < 48 → G (ad k)) (s_ : Int32) (hWX : WFX X) : Met l yX3_load wsX3_load ({ frames := 2, cells := 0, slots := 0, locals := 42 } : Room) (va_Pc [.ref (ad 0), .int (s_)] (ro_B D (tyL ci) (wX ci ad X T tq la tt z) (en D (ci 0) G ka))) (mu_Q (aX ad) (some (.int ((p_load X s_).1))) (fun H => ∃ T tq la tt z, va_P D vwCl (wX ci ad ((p_load X s_).2) T tq la tt z) H)) 0 0 (aX ad) := by
  refine mu_Met (cc := cX3_load) (maxL := 6) (ret := (some .int)) [(0, .ref (ad 0)), (1, .int (s_))] (wX_D hI) (by decide) rfl (Nat.le_of_ble_eq_true rfl) rfl ?_
  intro p e s m below meth c H locs hx hb hml hr hlocks hts hown hP hK hs0 hD hS ls hl
  have hown : s.vm.findClass RX3 = some m.cls := hown
  have hinX0 : ∀ w ∈ wsX00, w ∈ wsX3_load := by decide +kernel
  have hinX1 : ∀ w ∈ wsX10, w ∈ wsX3_load := by decide +kernel
  have hinX3 : ∀ w ∈ wsX30, w ∈ wsX3_load := by decide +kernel
  have hE := hE_en D (ci 0) G ka
  have hWF := hWX.w
  have f_n := hWF.n
  have f_e := hWX.e
  have f_tl := hWX.t
  have hGA := aX_G hG
  have hWK := hWX.k
  refine lv_aload_n hx hb dX3_load_0 rfl (lv_at hl 0 rfl) ?_
  refine lv_iload_n hx hb dX3_load_1 rfl (lv_at hl 1 rfl) ?_
  refine ro_V (n := 1) (As := [.int (s_)]) (rest := []) ⟨hx, hb, hml, hown, hts⟩ (c_X3_lackOf l D ci G ka ad X T tq la tt z (s_) hWX) gX3_load_X3_lackOf rfl ⟨rfl, rfl⟩ (by decide +kernel) rfl ⟨Nat.le_of_ble_eq_true rfl, Nat.le_of_ble_eq_true rfl⟩ hE (en_S hGA hs0 hS) hK hP (ci := 3) (q0 := 0) rfl rfl hl.1 rfl (Nat.le_of_ble_eq_true rfl) dX3_load_2 ⟨Nat.zero_le _, Nat.zero_le _⟩ ?_
  refine lv_istore_n (lv' := [(2, .int (lk (lackN X s_))), (0, .ref (ad 0)), (1, .int (s_))]) hx hb dX3_load_5 rfl hl (by decide) rfl (fun ls hl => ?_)
  refine lv_iload_n hx hb dX3_load_6 rfl (lv_at hl 0 rfl) ?_
  refine lv_iconst (v := -1) hx hb dX3_load_7 (by decide) ?_
  refine lv_icmp_eq (tgt := 17) hx hb dX3_load_8 (by decide) (fun c1 => ?_) (fun c1 => ?_)
  · have q2 := lk_eq c1
    obtain ⟨s_n, h_s_n, h_bs_, rfl⟩ := lack_ok q2
    rw [c1] at hl
    have t_s_n : tn (nI s_n) = s_n := tn_nI (by omega)
    have f3 := hWX.sl s_n
    have f4 := sb_lt hWX s_n
    refine lv_iconst (v := nI (0)) hx hb dX3_load_17 (by decide) ?_
    refine lv_istore_n (lv' := [(3, .int (nI 0)), (2, .int (-1)), (0, .ref (ad 0)), (1, .int (nI s_n))]) hx hb dX3_load_18 rfl hl (by decide) rfl (fun ls hl => ?_)
    refine lv_iconst (v := nI (0)) hx hb dX3_load_19 (by decide) ?_
    refine lv_istore (lv' := [(4, .int (nI 0)), (3, .int (nI 0)), (2, .int (-1)), (0, .ref (ad 0)), (1, .int (nI s_n))]) hx hb dX3_load_20 hl (by decide) rfl (fun ls hl => ?_)
    have L22 : ∀ (k22 : Nat) (i : Nat), 12 - i < k22 → (i ≤ X.2.2.2.2.2.2.2.1 s_n) → (i ≤ 12) → (∀ j, j < i → (fun i => inN (X.2.2.2.2.2.2.2.2 s_n i) 64) j = true) → ∀ (x3 x4 : Int32), x3 = nI (i) → x4 = nI (i) → ∀ (H : Heap) (locs : List Loc), va_P D vwCl (wX ci ad (toS X (upF X.1 0 (fun j => tn (X.2.2.2.2.2.2.2.2 s_n j)) i)) T tq la tt z) H → va_S (aX ad) s.heap H locs → ∀ ls : Array Slot, lv_has ls 6 [(3, .int (x3)), (4, .int (x4)), (2, .int (-1)), (0, .ref (ad 0)), (1, .int (nI s_n))] → W p l e (headSpec wsX3_load ({ frames := 2, cells := 0, slots := 0, locals := 42 } : Room)).room s m ([.ref (ad 0), .int (nI s_n)] : List Value).toArray below meth c H locs 0 0 (MQ below (mu_Q (aX ad) (some (.int ((p_load X (nI s_n)).1))) (fun H => ∃ T tq la tt z, va_P D vwCl (wX ci ad ((p_load X (nI s_n)).2) T tq la tt z) H)) ([.ref (ad 0), .int (nI s_n)] : List Value).toArray s 0 0 (aX ad)) (F0 m 22 ls []) := by
      intro k22
      induction k22 with
      | zero => intro i h0; exact absurd h0 (Nat.not_lt_zero _)
      | succ k22 ih22 =>
        intro i hk22 h_i h_i2 h_u x3 x4 e3 e4  H locs hP hS ls hl
        subst e3
        subst e4
        have hD : va_D (aX ad) (wX ci ad (toS X (upF X.1 0 (fun j => tn (X.2.2.2.2.2.2.2.2 s_n j)) i)) T tq la tt z) := wX_D hI
        refine lv_iload hx hb dX3_load_22 (lv_at hl 1 rfl) ?_
        refine lv_aload_n hx hb dX3_load_24 rfl (lv_at hl 3 rfl) ?_
        refine va_get (D := D) (ci := 3) (v := .ref (ad 1)) (C := RX3) (T := TX3) (N := 9) hx hb hts hinX3 hown hK hP 0 rfl rfl 5 (by decide) (hts (.fieldLink RX3 35 "OneShort" "sheets" "[LOneShort$Sheet;") (List.mem_of_getElem? (i := 1) rfl)) (fun _ h9 => h9) rfl dX3_load_25 ?_
        refine lv_iload_n hx hb dX3_load_28 rfl (lv_at hl 4 rfl) ?_
        refine nv_aald (v := .ref (ad (40 + 2 * (s_n)))) hx hb hK hP 1 1 rfl rfl (by omega) (by decide) rfl dX3_load_29 ?_
        refine va_get (D := D) (ci := 1) (v := .int (nI (X.2.2.2.2.2.2.2.1 (s_n)))) (C := RX1) (T := TX1) (N := 3) hx hb hts hinX1 hown hK (wX_sh (k := s_n) (by omega) hP) 0 rfl rfl 2 (by decide) (hts (.fieldLink RX3 221 "OneShort$Sheet" "length" "I") (List.mem_of_getElem? (i := 2) rfl)) (fun _ h9 => h9) rfl dX3_load_30 ?_
        refine nv_icmp_ge (tgt := 93) hx hb (by omega) (by omega) dX3_load_33 (by decide) (fun c5 => ?_) (fun c5 => ?_)
        · refine lv_iload_n hx hb dX3_load_93 rfl (lv_at hl 0 rfl) ?_
          have hp : p_load X (nI s_n) = (nI (i), toS X (upF X.1 0 (fun j => tn (X.2.2.2.2.2.2.2.2 s_n j)) i)) := by rw [p_load, if_pos q2, t_s_n, show runN (fun i => inN (X.2.2.2.2.2.2.2.2 s_n i) 64) (min (X.2.2.2.2.2.2.2.1 s_n) 12) = i from by first | exact runN_at (by omega) h_u (in_f0 c5) | exact runN_at (by omega) h_u (in_f2 (by decide) c5) | (rw [show min (X.2.2.2.2.2.2.2.1 s_n) 12 = i by omega]; exact runN_all h_u)]
          refine nv_cv (show nI (i) = (p_load X (nI s_n)).1 from by rw [hp]) ?_
          exact mu_iret hx hb hr hlocks hS ((by rw [hp]; exact ⟨_, _, _, _, _, hP⟩)) dX3_load_94
        · refine lv_iload hx hb dX3_load_36 (lv_at hl 1 rfl) ?_
          refine lv_bipush (v := nI (12)) hx hb dX3_load_38 (by decide) ?_
          refine nv_icmp_ge (tgt := 93) hx hb (by omega) (by omega) dX3_load_40 (by decide) (fun c6 => ?_) (fun c6 => ?_)
          · refine lv_iload_n hx hb dX3_load_93 rfl (lv_at hl 0 rfl) ?_
            have hp : p_load X (nI s_n) = (nI (i), toS X (upF X.1 0 (fun j => tn (X.2.2.2.2.2.2.2.2 s_n j)) i)) := by rw [p_load, if_pos q2, t_s_n, show runN (fun i => inN (X.2.2.2.2.2.2.2.2 s_n i) 64) (min (X.2.2.2.2.2.2.2.1 s_n) 12) = i from by first | exact runN_at (by omega) h_u (in_f0 c6) | exact runN_at (by omega) h_u (in_f2 (by decide) c6) | (rw [show min (X.2.2.2.2.2.2.2.1 s_n) 12 = i by omega]; exact runN_all h_u)]
            refine nv_cv (show nI (i) = (p_load X (nI s_n)).1 from by rw [hp]) ?_
            exact mu_iret hx hb hr hlocks hS ((by rw [hp]; exact ⟨_, _, _, _, _, hP⟩)) dX3_load_94
          · refine lv_aload_n hx hb dX3_load_43 rfl (lv_at hl 3 rfl) ?_
            refine va_get (D := D) (ci := 3) (v := .ref (ad 1)) (C := RX3) (T := TX3) (N := 9) hx hb hts hinX3 hown hK hP 0 rfl rfl 5 (by decide) (hts (.fieldLink RX3 35 "OneShort" "sheets" "[LOneShort$Sheet;") (List.mem_of_getElem? (i := 1) rfl)) (fun _ h9 => h9) rfl dX3_load_44 ?_
            refine lv_iload_n hx hb dX3_load_47 rfl (lv_at hl 4 rfl) ?_
            refine nv_aald (v := .ref (ad (40 + 2 * (s_n)))) hx hb hK hP 1 1 rfl rfl (by omega) (by decide) rfl dX3_load_48 ?_
            refine va_get (D := D) (ci := 1) (v := .ref (ad (40 + 2 * (s_n) + 1))) (C := RX1) (T := TX1) (N := 3) hx hb hts hinX1 hown hK (wX_sh (k := s_n) (by omega) hP) 0 rfl rfl 0 (by decide) (hts (.fieldLink RX3 237 "OneShort$Sheet" "numbers" "[I") (List.mem_of_getElem? (i := 3) rfl)) (fun _ h9 => h9) rfl dX3_load_49 ?_
            refine lv_iload hx hb dX3_load_52 (lv_at hl 1 rfl) ?_
            refine nv_iald (v := X.2.2.2.2.2.2.2.2 (s_n) (i)) hx hb hK (wX_sh (k := s_n) (by omega) hP) 1 0 rfl rfl (by omega) (by decide) rfl dX3_load_54 ?_
            refine lv_istore (lv' := [(5, .int (X.2.2.2.2.2.2.2.2 (s_n) (i))), (3, .int (nI i)), (4, .int (nI i)), (2, .int (-1)), (0, .ref (ad 0)), (1, .int (nI s_n))]) hx hb dX3_load_55 hl (by decide) rfl (fun ls hl => ?_)
            refine lv_iload hx hb dX3_load_57 (lv_at hl 0 rfl) ?_
            refine lv_if_lt (tgt := 93) hx hb dX3_load_59 (by decide) (fun c7 => ?_) (fun c7 => ?_)
            · refine lv_iload_n hx hb dX3_load_93 rfl (lv_at hl 1 rfl) ?_
              have hp : p_load X (nI s_n) = (nI (i), toS X (upF X.1 0 (fun j => tn (X.2.2.2.2.2.2.2.2 s_n j)) i)) := by rw [p_load, if_pos q2, t_s_n, show runN (fun i => inN (X.2.2.2.2.2.2.2.2 s_n i) 64) (min (X.2.2.2.2.2.2.2.1 s_n) 12) = i from by first | exact runN_at (by omega) h_u (in_f0 c7) | exact runN_at (by omega) h_u (in_f2 (by decide) c7) | (rw [show min (X.2.2.2.2.2.2.2.1 s_n) 12 = i by omega]; exact runN_all h_u)]
              refine nv_cv (show nI (i) = (p_load X (nI s_n)).1 from by rw [hp]) ?_
              exact mu_iret hx hb hr hlocks hS ((by rw [hp]; exact ⟨_, _, _, _, _, hP⟩)) dX3_load_94
            · refine lv_iload hx hb dX3_load_62 (lv_at hl 0 rfl) ?_
              refine lv_bipush (v := nI (64)) hx hb dX3_load_64 (by decide) ?_
              refine lv_icmp_lt (tgt := 72) hx hb dX3_load_66 (by decide) (fun c8 => ?_) (fun c8 => ?_)
              · have hT : inN (X.2.2.2.2.2.2.2.2 s_n (i)) 64 = true := in_t2 (by decide) c7 c8
                obtain ⟨eT, f_T⟩ := in_tn hT (by decide)
                rw [eT] at hl
                refine lv_aload_n hx hb dX3_load_72 rfl (lv_at hl 4 rfl) ?_
                refine va_get (D := D) (ci := 3) (v := .ref (ad 5)) (C := RX3) (T := TX3) (N := 9) hx hb hts hinX3 hown hK hP 0 rfl rfl 0 (by decide) (hts (.fieldLink RX3 10 "OneShort" "orchestra" "LOneShort$Orchestra;") (List.mem_of_getElem? (i := 4) rfl)) (fun _ h9 => h9) rfl dX3_load_73 ?_
                refine va_get (D := D) (ci := 0) (v := .ref (ad 6)) (C := RX0) (T := TX0) (N := 13) hx hb hts hinX0 hown hK hP 5 rfl rfl 0 (by decide) (hts (.fieldLink RX3 58 "OneShort$Orchestra" "bars" "[I") (List.mem_of_getElem? (i := 5) rfl)) (fun _ h9 => h9) rfl dX3_load_76 ?_
                refine lv_iload hx hb dX3_load_79 (lv_at hl 2 rfl) ?_
                refine lv_iload hx hb dX3_load_81 (lv_at hl 0 rfl) ?_
                refine nv_iast hx hb hK hP hD hS 6 0 rfl rfl (by omega) (by decide) dX3_load_83 (fun H locs hP hD hS => ?_)
                have hP : va_P D vwCl (wX ci ad (toS X (st (upF X.1 0 (fun j => tn (X.2.2.2.2.2.2.2.2 s_n j)) i) 0 (i) (tn (X.2.2.2.2.2.2.2.2 s_n (i))))) T tq la tt z) H := va_P.re (wX_o0 ci ad (toS X (upF X.1 0 (fun j => tn (X.2.2.2.2.2.2.2.2 s_n j)) i)) T tq la tt z (i) (tn (X.2.2.2.2.2.2.2.2 s_n (i)))) hP
                have hD : va_D (aX ad) (wX ci ad (toS X (st (upF X.1 0 (fun j => tn (X.2.2.2.2.2.2.2.2 s_n j)) i) 0 (i) (tn (X.2.2.2.2.2.2.2.2 s_n (i))))) T tq la tt z) := wX_D hI
                refine nv_iinc1 (lv' := [(3, .int (nI (i + 1))), (5, .int (nI (tn (X.2.2.2.2.2.2.2.2 s_n (i))))), (4, .int (nI i)), (2, .int (-1)), (0, .ref (ad 0)), (1, .int (nI s_n))]) hx hb dX3_load_84 hl (k := 1) rfl (by decide) rfl (fun ls hl => ?_)
                refine nv_iinc1 (lv' := [(4, .int (nI (i + 1))), (3, .int (nI (i + 1))), (5, .int (nI (tn (X.2.2.2.2.2.2.2.2 s_n (i))))), (2, .int (-1)), (0, .ref (ad 0)), (1, .int (nI s_n))]) hx hb dX3_load_87 hl (k := 2) rfl (by decide) rfl (fun ls hl => ?_)
                refine lv_goto (tgt := 22) hx hb dX3_load_90 (by decide) ?_
                exact ih22 (i + 1) (by omega) (by omega) (by omega) (all_t h_u hT) (nI (i + 1)) (nI (i + 1)) rfl rfl _ _ (va_P.re (by rw [upF_st rfl]) hP) hS ls (lv_sub hl [1, 0, 3, 4, 5] rfl)
              · refine lv_goto (tgt := 93) hx hb dX3_load_69 (by decide) ?_
                refine lv_iload_n hx hb dX3_load_93 rfl (lv_at hl 1 rfl) ?_
                have hp : p_load X (nI s_n) = (nI (i), toS X (upF X.1 0 (fun j => tn (X.2.2.2.2.2.2.2.2 s_n j)) i)) := by rw [p_load, if_pos q2, t_s_n, show runN (fun i => inN (X.2.2.2.2.2.2.2.2 s_n i) 64) (min (X.2.2.2.2.2.2.2.1 s_n) 12) = i from by first | exact runN_at (by omega) h_u (in_f0 c8) | exact runN_at (by omega) h_u (in_f2 (by decide) c8) | (rw [show min (X.2.2.2.2.2.2.2.1 s_n) 12 = i by omega]; exact runN_all h_u)]
                refine nv_cv (show nI (i) = (p_load X (nI s_n)).1 from by rw [hp]) ?_
                exact mu_iret hx hb hr hlocks hS ((by rw [hp]; exact ⟨_, _, _, _, _, hP⟩)) dX3_load_94
    exact L22 _ (0) (Nat.lt_succ_self _) (by omega) (by omega) (fun _ h => absurd h (Nat.not_lt_zero _)) (nI (0)) (nI (0)) rfl rfl _ _ (va_P.re (by rw [upF_0]; rfl) hP) hS ls (lv_sub hl [1, 0, 2, 3, 4] rfl)
  · have q9 := lk_ne c1
    have e10 := lk_nI q9
    rw [e10] at hl
    have f11 := lack_lt q9
    refine lv_aload_n hx hb dX3_load_11 rfl (lv_at hl 1 rfl) ?_
    refine lv_iload_n hx hb dX3_load_12 rfl (lv_at hl 0 rfl) ?_
    refine mu_V (n := 1) (As := [.int (nI (lackN X s_))]) (rest := []) ⟨hx, hb, hml, hown, hts⟩ (c_X3_finding l D ci G ka ad X T tq la tt z hI hG (lackN X s_) hWX (by omega)) gX3_load_X3_finding rfl ⟨rfl, rfl⟩ (by decide +kernel) rfl ⟨Nat.le_of_ble_eq_true rfl, Nat.le_of_ble_eq_true rfl⟩ hE (en_S hGA hs0 hS) hK hP (ci := 3) (q0 := 0) rfl rfl hl.1 rfl (Nat.le_of_ble_eq_true rfl) dX3_load_13 ⟨Nat.zero_le _, Nat.zero_le _⟩ hS (fun _ h => h) (fun H1 locs hz hfr hB hS => ?_)
    obtain ⟨T, tq, la, tt, z, hP⟩ := hB
    generalize H1 = H at hP hS ⊢
    have hD : va_D (aX ad) (wX ci ad (toF X (inc X.2.2.2.1 (lackN X s_))) T tq la tt z) := wX_D hI
    have hp : p_load X s_ = (fnd (lackN X s_), toF X (inc X.2.2.2.1 (lackN X s_))) := by first | (simp [p_load, fl_eq, c1, q9]; done)
    refine nv_cv (show fnd (lackN X s_) = (p_load X s_).1 from by rw [hp]) ?_
    exact mu_iret hx hb hr hlocks hS ((by rw [hp]; exact ⟨_, _, _, _, _, hP⟩)) dX3_load_16
