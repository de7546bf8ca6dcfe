/-! walks laid by program -/
set_option maxHeartbeats 4000000 in
set_option maxRecDepth 100000 in
/-- X3_feed -/
theorem c_X3_feed (l : Launch) (D : va_G) (ci : Nat → ClassId) (G : Nat → Prop) (ka : Nat) (ad : Nat → Nat) (X : AS) (T : OS) (tq la tt : Nat → Int32) (z : Nat → Nat → Int32) (hI : injA ad 48) (hG : ∀ k, k < 48 → G (ad k)) (bv n : Int32) (hWX : WFX X) : Met l yX3_feed wsX3_feed ({ frames := 1, cells := 0, slots := 0, locals := 21 } : Room) (va_Pc [.ref (ad 0), .int (bv), .int (n)] (ro_B D (tyL ci) (wX ci ad X T tq la tt z) (en D (ci 0) G ka))) (mu_Q (aX ad) (some (.int ((p_feed X bv n).1))) (fun H => ∃ T tq la tt z, va_P D vwCl (wX ci ad ((p_feed X bv n).2) T tq la tt z) H)) 0 0 (aX ad) := by
  refine mu_Met (cc := cX3_feed) (maxL := 4) (ret := (some .int)) [(0, .ref (ad 0)), (1, .int (bv)), (2, .int (n))] (wX_D hI) (by decide) rfl (Nat.le_of_ble_eq_true rfl) rfl ?_
  intro p e s m below meth c H locs hx hb hml hr hlocks hts hown hP hK hs0 hD hS ls hl
  have hown : s.vm.findClass RX3 = some m.cls := hown
  have hinX2 : ∀ w ∈ wsX20, w ∈ wsX3_feed := by decide +kernel
  have hinX3 : ∀ w ∈ wsX30, w ∈ wsX3_feed := by decide +kernel
  have hE := hE_en D (ci 0) G ka
  have hWF := hWX.w
  have f_n := hWF.n
  have f_e := hWX.e
  have f_tl := hWX.t
  have hGA := aX_G hG
  have hWK := hWX.k
  refine lv_iload_n hx hb dX3_feed_0 rfl (lv_at hl 2 rfl) ?_
  refine lv_iconst (v := nI (1)) hx hb dX3_feed_1 (by decide) ?_
  refine lv_icmp_lt (tgt := 10) hx hb dX3_feed_2 (by decide) (fun c1 => ?_) (fun c1 => ?_)
  · have i2 : ∀ u9, inR n 1 u9 = false := fun u9 => inR_f0 (by decide) c1
    refine lv_aload_n hx hb dX3_feed_10 rfl (lv_at hl 0 rfl) ?_
    refine lv_iconst (v := nI (0)) hx hb dX3_feed_11 (by decide) ?_
    refine mu_V (n := 1) (As := [.int (nI 0)]) (rest := []) ⟨hx, hb, hml, hown, hts⟩ (c_X3_finding l D ci G ka ad X T tq la tt z hI hG (0) hWX (by omega)) gX3_feed_X3_finding rfl ⟨rfl, rfl⟩ (by decide +kernel) rfl ⟨Nat.le_of_ble_eq_true rfl, Nat.le_of_ble_eq_true rfl⟩ hE (en_S hGA hs0 hS) hK hP (ci := 3) (q0 := 0) rfl rfl hl.1 rfl (Nat.le_of_ble_eq_true rfl) dX3_feed_12 ⟨Nat.zero_le _, Nat.zero_le _⟩ hS (fun _ h => h) (fun H1 locs hz hfr hB hS => ?_)
    obtain ⟨T, tq, la, tt, z, hP⟩ := hB
    generalize H1 = H at hP hS ⊢
    have hD : va_D (aX ad) (wX ci ad (toF X (inc X.2.2.2.1 0)) T tq la tt z) := wX_D hI
    have hp : p_feed X bv n = (fnd 0, toF X (inc X.2.2.2.1 0)) := by first | (simp [p_feed, bk, fl_eq, c1, i2]; done) | ((rw [show cn = 0 by omega]; simp [p_feed, bk, fl_eq, show X.2.2.2.2.1 + nn ≤ 120 by omega, c1, i2]); done) | (simp [p_feed, bk, fl_eq, show ¬ X.2.2.2.2.1 + nn ≤ 120 by omega, c1, i2]; done)
    refine nv_cv (show fnd 0 = (p_feed X bv n).1 from by rw [hp]) ?_
    exact mu_iret hx hb hr hlocks hS ((by rw [hp]; exact ⟨_, _, _, _, _, hP⟩)) dX3_feed_15
  · refine lv_iload_n hx hb dX3_feed_5 rfl (lv_at hl 2 rfl) ?_
    refine lv_iconst (v := nI (4)) hx hb dX3_feed_6 (by decide) ?_
    refine lv_icmp_le (tgt := 16) hx hb dX3_feed_7 (by decide) (fun c3 => ?_) (fun c3 => ?_)
    · have i4 : inR n 1 4 = true := inR_t (by decide) (by decide) c1 c3
      obtain ⟨nn, h_nn, h_nn2, rfl⟩ := inR_ex i4 (by decide)
      have t_nn : tn (nI nn) = nn := tn_nI (by omega)
      refine lv_aload_n hx hb dX3_feed_16 rfl (lv_at hl 0 rfl) ?_
      refine va_get (D := D) (ci := 3) (v := .ref (ad 38)) (C := RX3) (T := TX3) (N := 9) hx hb hts hinX3 hown hK hP 0 rfl rfl 4 (by decide) (hts (.fieldLink RX3 29 "OneShort" "tape" "LOneShort$Tape;") (List.mem_of_getElem? (i := 1) rfl)) (fun _ h9 => h9) rfl dX3_feed_17 ?_
      refine va_get (D := D) (ci := 2) (v := .int (nI (X.2.2.2.2.1))) (C := RX2) (T := TX2) (N := 6) hx hb hts hinX2 hown hK hP 38 rfl rfl 0 (by decide) (hts (.fieldLink RX3 196 "OneShort$Tape" "length" "I") (List.mem_of_getElem? (i := 2) rfl)) (fun _ h9 => h9) rfl dX3_feed_20 ?_
      refine lv_bipush (v := nI (120)) hx hb dX3_feed_23 (by decide) ?_
      refine lv_iload_n hx hb dX3_feed_25 rfl (lv_at hl 2 rfl) ?_
      refine nv_isub hx hb (by omega) dX3_feed_26 ?_
      refine nv_icmp_le (tgt := 36) hx hb (by omega) (by omega) dX3_feed_27 (by decide) (fun c5 => ?_) (fun c5 => ?_)
      · refine lv_iload_n hx hb dX3_feed_36 rfl (lv_at hl 2 rfl) ?_
        refine lv_iconst (v := nI (1)) hx hb dX3_feed_37 (by decide) ?_
        refine nv_isub hx hb (by omega) dX3_feed_38 ?_
        refine lv_istore_n (lv' := [(3, .int (nI ((nn - 1)))), (0, .ref (ad 0)), (1, .int (bv)), (2, .int (nI nn))]) hx hb dX3_feed_39 rfl hl (by decide) rfl (fun ls hl => ?_)
        have L40 : ∀ (k40 : Nat) (cn : Nat), cn < k40 → (cn ≤ nn) → ∀ (x3 : Int32), x3 = nI (cn) - nI (1) → ∀ (H : Heap) (locs : List Loc), va_P D vwCl (wX ci ad (toB X (X.2.2.2.2.1 + (nn - cn)) (fdB X.2.2.2.2.2.1 (X.2.2.2.2.1) bv nn (nn - cn))) T tq la tt z) H → va_S (aX ad) s.heap H locs → ∀ ls : Array Slot, lv_has ls 4 [(3, .int (x3)), (0, .ref (ad 0)), (1, .int (bv)), (2, .int (nI nn))] → W p l e (headSpec wsX3_feed ({ frames := 1, cells := 0, slots := 0, locals := 21 } : Room)).room s m ([.ref (ad 0), .int (bv), .int (nI nn)] : List Value).toArray below meth c H locs 0 0 (MQ below (mu_Q (aX ad) (some (.int ((p_feed X bv (nI nn)).1))) (fun H => ∃ T tq la tt z, va_P D vwCl (wX ci ad ((p_feed X bv (nI nn)).2) T tq la tt z) H)) ([.ref (ad 0), .int (bv), .int (nI nn)] : List Value).toArray s 0 0 (aX ad)) (F0 m 40 ls []) := by
          intro k40
          induction k40 with
          | zero => intro cn h0; exact absurd h0 (Nat.not_lt_zero _)
          | succ k40 ih40 =>
            intro cn hk40 h_c x3 e3  H locs hP hS ls hl
            subst e3
            have hD : va_D (aX ad) (wX ci ad (toB X (X.2.2.2.2.1 + (nn - cn)) (fdB X.2.2.2.2.2.1 (X.2.2.2.2.1) bv nn (nn - cn))) T tq la tt z) := wX_D hI
            refine lv_iload_n hx hb dX3_feed_40 rfl (lv_at hl 0 rfl) ?_
            refine nv_iflt_D (tgt := 67) hx hb (by omega) dX3_feed_41 (by decide) (fun c6 => ?_) (fun c6 => ?_)
            · refine lv_aload_n hx hb dX3_feed_67 rfl (lv_at hl 1 rfl) ?_
              refine va_get (D := D) (ci := 3) (v := .ref (ad 38)) (C := RX3) (T := TX3) (N := 9) hx hb hts hinX3 hown hK hP 0 rfl rfl 4 (by decide) (hts (.fieldLink RX3 29 "OneShort" "tape" "LOneShort$Tape;") (List.mem_of_getElem? (i := 1) rfl)) (fun _ h9 => h9) rfl dX3_feed_68 ?_
              refine va_get (D := D) (ci := 2) (v := .int (nI ((X.2.2.2.2.1 + (nn - cn))))) (C := RX2) (T := TX2) (N := 6) hx hb hts hinX2 hown hK hP 38 rfl rfl 0 (by decide) (hts (.fieldLink RX3 196 "OneShort$Tape" "length" "I") (List.mem_of_getElem? (i := 2) rfl)) (fun _ h9 => h9) rfl dX3_feed_71 ?_
              have hp : p_feed X bv (nI nn) = (nI ((X.2.2.2.2.1 + (nn - cn))), toB X (X.2.2.2.2.1 + (nn - cn)) (fdB X.2.2.2.2.2.1 (X.2.2.2.2.1) bv nn (nn - cn))) := by first | (simp [p_feed, bk, fl_eq, c1, c3, c5, c6, i4, t_nn]; done) | ((rw [show cn = 0 by omega]; simp [p_feed, bk, fl_eq, show X.2.2.2.2.1 + nn ≤ 120 by omega, c1, c3, c5, c6, i4, t_nn]); done) | (simp [p_feed, bk, fl_eq, show ¬ X.2.2.2.2.1 + nn ≤ 120 by omega, c1, c3, c5, c6, i4, t_nn]; done)
              refine nv_cv (show nI ((X.2.2.2.2.1 + (nn - cn))) = (p_feed X bv (nI nn)).1 from by rw [hp]) ?_
              exact mu_iret hx hb hr hlocks hS ((by rw [hp]; exact ⟨_, _, _, _, _, hP⟩)) dX3_feed_74
            · obtain ⟨c1n, e_c⟩ : ∃ c1n, cn = c1n + 1 := ⟨cn - 1, by omega⟩
              rw [show nI cn - nI 1 = nI c1n by rw [e_c]; exact nI_pred c1n] at hl
              refine lv_aload_n hx hb dX3_feed_44 rfl (lv_at hl 1 rfl) ?_
              refine va_get (D := D) (ci := 3) (v := .ref (ad 38)) (C := RX3) (T := TX3) (N := 9) hx hb hts hinX3 hown hK hP 0 rfl rfl 4 (by decide) (hts (.fieldLink RX3 29 "OneShort" "tape" "LOneShort$Tape;") (List.mem_of_getElem? (i := 1) rfl)) (fun _ h9 => h9) rfl dX3_feed_45 ?_
              refine lv_iload_n hx hb dX3_feed_48 rfl (lv_at hl 2 rfl) ?_
              refine lv_bipush (v := nI (8)) hx hb dX3_feed_49 (by decide) ?_
              refine lv_iload_n hx hb dX3_feed_51 rfl (lv_at hl 0 rfl) ?_
              refine nv_imul hx hb dX3_feed_52 ?_
              refine lv_ishr hx hb dX3_feed_53 ?_
              refine lv_sipush (v := nI (255)) hx hb dX3_feed_54 (by decide) ?_
              refine lv_iand hx hb dX3_feed_57 ?_
              have f7 := byteN_lt bv c1n
              refine nv_cv (show ((bv >>> (nI ((8 * c1n)) &&& 31)) &&& nI (255)) = nI (byteN bv c1n) from byteN_eq bv c1n) ?_
              refine mu_V (n := 1) (As := [.int (nI (byteN bv c1n))]) (rest := []) ⟨hx, hb, hml, hown, hts⟩ (c_X2_append l D ci G ka (sh ad 38) (X.2.2.2.2.1 + (nn - cn)) (fdB X.2.2.2.2.2.1 (X.2.2.2.2.1) bv nn (nn - cn)) tq (injA_sh2 hI (by decide)) (G_sh2 hG (by decide)) (byteN bv c1n) (by omega)) gX3_feed_X2_append rfl ⟨rfl, rfl⟩ (by decide +kernel) rfl ⟨Nat.le_of_ble_eq_true rfl, Nat.le_of_ble_eq_true rfl⟩ hE (en_S hGA hs0 hS) hK (wX_s38 hP) (ci := 2) (q0 := 0) rfl rfl hl.1 rfl (Nat.le_of_ble_eq_true rfl) dX3_feed_58 ⟨Nat.zero_le _, Nat.zero_le _⟩ hS (fun q h => aR_X (by omega) q (aT_sh q h)) (fun H1 locs hz hfr hB hS => ?_)
              have hP := wX_j38 hI hP hfr hB
              have hP : va_P D vwCl (wX ci ad (toB X ((X.2.2.2.2.1 + (nn - cn)) + 1) (updF (fdB X.2.2.2.2.2.1 (X.2.2.2.2.1) bv nn (nn - cn)) (X.2.2.2.2.1 + (nn - cn)) (byteN bv c1n))) T tq la tt z) H1 := hP
              generalize H1 = H at hP hS ⊢
              have hD : va_D (aX ad) (wX ci ad (toB X ((X.2.2.2.2.1 + (nn - cn)) + 1) (updF (fdB X.2.2.2.2.2.1 (X.2.2.2.2.1) bv nn (nn - cn)) (X.2.2.2.2.1 + (nn - cn)) (byteN bv c1n))) T tq la tt z) := wX_D hI
              refine nv_iincm1 (lv' := [(3, .int (nI (c1n) - nI (1))), (0, .ref (ad 0)), (1, .int (bv)), (2, .int (nI nn))]) hx hb dX3_feed_61 hl (k := 0) rfl (by decide) rfl (fun ls hl => ?_)
              refine lv_goto (tgt := 40) hx hb dX3_feed_64 (by decide) ?_
              exact ih40 (c1n) (by omega) (by omega) (nI (c1n) - nI (1)) rfl _ _ (va_P.re (by rw [show nn - c1n = (nn - cn) + 1 by omega]; rw [fdB, show nn - 1 - (nn - cn) = c1n by omega]; rfl) hP) hS ls (lv_sub hl [0, 1, 2, 3] rfl)
        exact L40 _ (nn) (Nat.lt_succ_self _) (by omega) (nI ((nn - 1))) (by rw [pk_sub (by omega)]) _ _ (va_P.re (by rw [Nat.sub_self]; rfl) hP) hS ls (lv_sub hl [0, 1, 2, 3] rfl)
      · refine lv_aload_n hx hb dX3_feed_30 rfl (lv_at hl 0 rfl) ?_
        refine lv_iconst (v := nI (1)) hx hb dX3_feed_31 (by decide) ?_
        refine mu_V (n := 1) (As := [.int (nI 1)]) (rest := []) ⟨hx, hb, hml, hown, hts⟩ (c_X3_finding l D ci G ka ad X T tq la tt z hI hG (1) hWX (by omega)) gX3_feed_X3_finding rfl ⟨rfl, rfl⟩ (by decide +kernel) rfl ⟨Nat.le_of_ble_eq_true rfl, Nat.le_of_ble_eq_true rfl⟩ hE (en_S hGA hs0 hS) hK hP (ci := 3) (q0 := 0) rfl rfl hl.1 rfl (Nat.le_of_ble_eq_true rfl) dX3_feed_32 ⟨Nat.zero_le _, Nat.zero_le _⟩ hS (fun _ h => h) (fun H1 locs hz hfr hB hS => ?_)
        obtain ⟨T, tq, la, tt, z, hP⟩ := hB
        generalize H1 = H at hP hS ⊢
        have hD : va_D (aX ad) (wX ci ad (toF X (inc X.2.2.2.1 1)) T tq la tt z) := wX_D hI
        have hp : p_feed X bv (nI nn) = (fnd 1, toF X (inc X.2.2.2.1 1)) := by first | (simp [p_feed, bk, fl_eq, c1, c3, c5, i4, t_nn]; done) | ((rw [show cn = 0 by omega]; simp [p_feed, bk, fl_eq, show X.2.2.2.2.1 + nn ≤ 120 by omega, c1, c3, c5, i4, t_nn]); done) | (simp [p_feed, bk, fl_eq, show ¬ X.2.2.2.2.1 + nn ≤ 120 by omega, c1, c3, c5, i4, t_nn]; done)
        refine nv_cv (show fnd 1 = (p_feed X bv (nI nn)).1 from by rw [hp]) ?_
        exact mu_iret hx hb hr hlocks hS ((by rw [hp]; exact ⟨_, _, _, _, _, hP⟩)) dX3_feed_35
    · have i8 : inR n 1 4 = false := inR_f1 (by decide) c3
      refine lv_aload_n hx hb dX3_feed_10 rfl (lv_at hl 0 rfl) ?_
      refine lv_iconst (v := nI (0)) hx hb dX3_feed_11 (by decide) ?_
      refine mu_V (n := 1) (As := [.int (nI 0)]) (rest := []) ⟨hx, hb, hml, hown, hts⟩ (c_X3_finding l D ci G ka ad X T tq la tt z hI hG (0) hWX (by omega)) gX3_feed_X3_finding rfl ⟨rfl, rfl⟩ (by decide +kernel) rfl ⟨Nat.le_of_ble_eq_true rfl, Nat.le_of_ble_eq_true rfl⟩ hE (en_S hGA hs0 hS) hK hP (ci := 3) (q0 := 0) rfl rfl hl.1 rfl (Nat.le_of_ble_eq_true rfl) dX3_feed_12 ⟨Nat.zero_le _, Nat.zero_le _⟩ hS (fun _ h => h) (fun H1 locs hz hfr hB hS => ?_)
      obtain ⟨T, tq, la, tt, z, hP⟩ := hB
      generalize H1 = H at hP hS ⊢
      have hD : va_D (aX ad) (wX ci ad (toF X (inc X.2.2.2.1 0)) T tq la tt z) := wX_D hI
      have hp : p_feed X bv n = (fnd 0, toF X (inc X.2.2.2.1 0)) := by first | (simp [p_feed, bk, fl_eq, c1, c3, i8]; done) | ((rw [show cn = 0 by omega]; simp [p_feed, bk, fl_eq, show X.2.2.2.2.1 + nn ≤ 120 by omega, c1, c3, i8]); done) | (simp [p_feed, bk, fl_eq, show ¬ X.2.2.2.2.1 + nn ≤ 120 by omega, c1, c3, i8]; done)
      refine nv_cv (show fnd 0 = (p_feed X bv n).1 from by rw [hp]) ?_
      exact mu_iret hx hb hr hlocks hS ((by rw [hp]; exact ⟨_, _, _, _, _, hP⟩)) dX3_feed_15
