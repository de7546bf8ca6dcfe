/-! walks laid by program -/
set_option maxHeartbeats 4000000 in
set_option maxRecDepth 100000 in
/-- X3_lost -/
theorem c_X3_lost (l : Launch) (D : va_G) (ci : Nat → ClassId) (G : Nat → Prop) (ka : Nat) (ad : Nat → Nat) (X : AS) (T : OS) (tq la tt : Nat → Int32) (z : Nat → Nat → Int32) (hI : injA ad 48) (hG : ∀ k, k < 48 → G (ad k)) (x : Int32) (hWX : WFX X) : Met l yX3_lost wsX3_lost ({ frames := 6, cells := 0, slots := 0, locals := 135 } : Room) (va_Pc [.ref (ad 0), .int (x)] (ro_B D (tyL ci) (wX ci ad X T tq la tt z) (en D (ci 0) G ka))) (mu_Q (aX ad) (some (.int ((p_lost X x).1))) (fun H => ∃ T tq la tt z, va_P D vwCl (wX ci ad ((p_lost X x).2) T tq la tt z) H)) 0 0 (aX ad) := by
  refine mu_Met (cc := cX3_lost) (maxL := 4) (ret := (some .int)) [(0, .ref (ad 0)), (1, .int (x))] (wX_D hI) (by decide) rfl (Nat.le_of_ble_eq_true rfl) rfl ?_
  intro p e s m below meth c H locs hx hb hml hr hlocks hts hown hP hK hs0 hD hS ls hl
  have hown : s.vm.findClass RX3 = some m.cls := hown
  have hinX0 : ∀ w ∈ wsX00, w ∈ wsX3_lost := by decide +kernel
  have hinX3 : ∀ w ∈ wsX30, w ∈ wsX3_lost := by decide +kernel
  have hE := hE_en D (ci 0) G ka
  have hWF := hWX.w
  have f_n := hWF.n
  have f_e := hWX.e
  have f_tl := hWX.t
  have hGA := aX_G hG
  have hWK := hWX.k
  have f_2n := two_le hWF.n
  refine lv_iload_n hx hb dX3_lost_0 rfl (lv_at hl 1 rfl) ?_
  refine lv_if_lt (tgt := 17) hx hb dX3_lost_1 (by decide) (fun c1 => ?_) (fun c1 => ?_)
  · have i2 : ∀ u9, inN x u9 = false := fun u9 => in_f0 c1
    refine lv_aload_n hx hb dX3_lost_17 rfl (lv_at hl 0 rfl) ?_
    refine lv_iconst (v := nI (0)) hx hb dX3_lost_18 (by decide) ?_
    refine mu_V (n := 1) (As := [.int (nI 0)]) (rest := []) ⟨hx, hb, hml, hown, hts⟩ (c_X3_finding l D ci G ka ad X T tq la tt z hI hG (0) hWX (by omega)) gX3_lost_X3_finding rfl ⟨rfl, rfl⟩ (by decide +kernel) rfl ⟨Nat.le_of_ble_eq_true rfl, Nat.le_of_ble_eq_true rfl⟩ hE (en_S hGA hs0 hS) hK hP (ci := 3) (q0 := 0) rfl rfl hl.1 rfl (Nat.le_of_ble_eq_true rfl) dX3_lost_19 ⟨Nat.zero_le _, Nat.zero_le _⟩ hS (fun _ h => h) (fun H1 locs hz hfr hB hS => ?_)
    obtain ⟨T, tq, la, tt, z, hP⟩ := hB
    generalize H1 = H at hP hS ⊢
    have hD : va_D (aX ad) (wX ci ad (toF X (inc X.2.2.2.1 0)) T tq la tt z) := wX_D hI
    have hp : p_lost X x = (fnd 0, toF X (inc X.2.2.2.1 0)) := by first | (rw [p_lost, bk_f i2]; rfl) | (rw [p_lost, bk_f (i2 _)]; rfl)
    refine nv_cv (show fnd 0 = (p_lost X x).1 from by rw [hp]) ?_
    exact mu_iret hx hb hr hlocks hS ((by rw [hp]; exact ⟨_, _, _, _, _, hP⟩)) dX3_lost_22
  · refine lv_iload_n hx hb dX3_lost_4 rfl (lv_at hl 1 rfl) ?_
    refine lv_iconst (v := nI (1)) hx hb dX3_lost_5 (by decide) ?_
    refine lv_aload_n hx hb dX3_lost_6 rfl (lv_at hl 0 rfl) ?_
    refine va_get (D := D) (ci := 3) (v := .ref (ad 5)) (C := RX3) (T := TX3) (N := 9) hx hb hts hinX3 hown hK hP 0 rfl rfl 0 (by decide) (hts (.fieldLink RX3 10 "OneShort" "orchestra" "LOneShort$Orchestra;") (List.mem_of_getElem? (i := 1) rfl)) (fun _ h9 => h9) rfl dX3_lost_7 ?_
    refine va_get (D := D) (ci := 0) (v := .int (nI (X.1 7 0))) (C := RX0) (T := TX0) (N := 13) hx hb hts hinX0 hown hK hP 5 rfl rfl 7 (by decide) (hts (.fieldLink RX3 73 "OneShort$Orchestra" "size" "I") (List.mem_of_getElem? (i := 2) rfl)) (fun _ h9 => h9) rfl dX3_lost_10 ?_
    refine nv_ishl hx hb (by omega) dX3_lost_13 ?_
    refine lv_icmp_lt (tgt := 23) hx hb dX3_lost_14 (by decide) (fun c3 => ?_) (fun c3 => ?_)
    · have i4 : inN x (1 * 2 ^ (X.1 7 0)) = true := in_t2 (by omega) c1 c3
      obtain ⟨xn, h_xn, rfl⟩ := in_ex i4 (by omega)
      have t_xn : tn (nI xn) = xn := tn_nI (by omega)
      refine lv_aload_n hx hb dX3_lost_23 rfl (lv_at hl 0 rfl) ?_
      refine mu_V (n := 0) (As := []) (rest := []) ⟨hx, hb, hml, hown, hts⟩ (c_X3_countLoudest l D ci G ka ad X T tq la tt z hI hG  hWX) gX3_lost_X3_countLoudest rfl ⟨rfl, rfl⟩ (by decide +kernel) rfl ⟨Nat.le_of_ble_eq_true rfl, Nat.le_of_ble_eq_true rfl⟩ hE (en_S hGA hs0 hS) hK hP (ci := 3) (q0 := 0) rfl rfl hl.1 rfl (Nat.le_of_ble_eq_true rfl) dX3_lost_24 ⟨Nat.zero_le _, Nat.zero_le _⟩ hS (fun _ h => h) (fun H1 locs hz hfr hB hS => ?_)
      obtain ⟨T, tq, la, tt, z, h_la, hP⟩ := hB
      generalize H1 = H at hP hS ⊢
      have hD : va_D (aX ad) (wX ci ad X T tq la tt z) := wX_D hI
      refine lv_iconst (v := nI (0)) hx hb dX3_lost_27 (by decide) ?_
      refine lv_istore_n (lv' := [(2, .int (nI 0)), (0, .ref (ad 0)), (1, .int (nI xn))]) hx hb dX3_lost_28 rfl hl (by decide) rfl (fun ls hl => ?_)
      refine lv_iconst (v := nI (1)) hx hb dX3_lost_29 (by decide) ?_
      refine lv_istore_n (lv' := [(3, .int (nI 1)), (2, .int (nI 0)), (0, .ref (ad 0)), (1, .int (nI xn))]) hx hb dX3_lost_30 rfl hl (by decide) rfl (fun ls hl => ?_)
      have L31 : ∀ (k31 : Nat) (i : Nat), 256 - i < k31 → (1 ≤ i) → (i ≤ 256) → ∀ (x2 x3 : Int32), x2 = nI (sumTo (lstF X.1 xn) (i)) → x3 = nI (i) → ∀ ls : Array Slot, lv_has ls 4 [(2, .int (x2)), (3, .int (x3)), (0, .ref (ad 0)), (1, .int (nI xn))] → W p l e (headSpec wsX3_lost ({ frames := 6, cells := 0, slots := 0, locals := 135 } : Room)).room s m ([.ref (ad 0), .int (nI xn)] : List Value).toArray below meth c H locs 0 0 (MQ below (mu_Q (aX ad) (some (.int ((p_lost X (nI xn)).1))) (fun H => ∃ T tq la tt z, va_P D vwCl (wX ci ad ((p_lost X (nI xn)).2) T tq la tt z) H)) ([.ref (ad 0), .int (nI xn)] : List Value).toArray s 0 0 (aX ad)) (F0 m 31 ls []) := by
        intro k31
        induction k31 with
        | zero => intro i h0; exact absurd h0 (Nat.not_lt_zero _)
        | succ k31 ih31 =>
          intro i hk31 h_i1 h_i x2 x3 e2 e3 ls hl
          subst e2
          subst e3
          refine lv_iload_n hx hb dX3_lost_31 rfl (lv_at hl 1 rfl) ?_
          refine lv_sipush (v := nI (256)) hx hb dX3_lost_32 (by decide) ?_
          refine nv_icmp_ge (tgt := 61) hx hb (by omega) (by omega) dX3_lost_35 (by decide) (fun c5 => ?_) (fun c5 => ?_)
          · refine lv_iload_n hx hb dX3_lost_61 rfl (lv_at hl 0 rfl) ?_
            have hp : p_lost X (nI xn) = (nI (sumTo (lstF X.1 xn) (i)), X) := by rw [p_lost, bk_t i4, t_xn, lstN, show i = 256 by omega]
            refine nv_cv (show nI (sumTo (lstF X.1 xn) (i)) = (p_lost X (nI xn)).1 from by rw [hp]) ?_
            exact mu_iret hx hb hr hlocks hS ((by rw [hp]; exact ⟨_, _, _, _, _, hP⟩)) dX3_lost_62
          · refine lv_iload_n hx hb dX3_lost_38 rfl (lv_at hl 1 rfl) ?_
            refine lv_iload_n hx hb dX3_lost_39 rfl (lv_at hl 3 rfl) ?_
            refine lv_iconst (v := -1) hx hb dX3_lost_40 (by decide) ?_
            refine lv_ixor hx hb dX3_lost_41 ?_
            refine lv_iand hx hb dX3_lost_42 ?_
            have f6 := and_lt9 i xn
            refine nv_cv (show (nI (i) &&& (nI (xn) ^^^ -1)) = nI ((i &&& (4095 ^^^ xn))) from (nI_andn (by omega) (by omega))) ?_
            refine nv_ifne (tgt := 55) hx hb (by omega) dX3_lost_43 (by decide) (fun c7 => ?_) (fun c7 => ?_)
            · refine nv_iinc1 (lv' := [(3, .int (nI (i + 1))), (2, .int (nI (sumTo (lstF X.1 xn) (i)))), (0, .ref (ad 0)), (1, .int (nI xn))]) hx hb dX3_lost_55 hl (k := 1) rfl (by decide) rfl (fun ls hl => ?_)
              refine lv_goto (tgt := 31) hx hb dX3_lost_58 (by decide) ?_
              exact ih31 (i + 1) (by omega) (by omega) (by omega) (nI (sumTo (lstF X.1 xn) (i))) (nI (i + 1)) (nv_e (by first | exact lst_a h_i1 c7 | exact lst_b c7)) rfl ls (lv_sub hl [1, 0, 2, 3] rfl)
            · refine lv_iload_n hx hb dX3_lost_46 rfl (lv_at hl 0 rfl) ?_
              refine lv_aload_n hx hb dX3_lost_47 rfl (lv_at hl 2 rfl) ?_
              refine va_get (D := D) (ci := 3) (v := .ref (ad 3)) (C := RX3) (T := TX3) (N := 9) hx hb hts hinX3 hown hK hP 0 rfl rfl 7 (by decide) (hts (.fieldLink RX3 43 "OneShort" "loudestAt" "[I") (List.mem_of_getElem? (i := 3) rfl)) (fun _ h9 => h9) rfl dX3_lost_48 ?_
              refine lv_iload_n hx hb dX3_lost_51 rfl (lv_at hl 1 rfl) ?_
              have f8 := cLn_le X.1 (i)
              refine nv_iald (v := nI (cLn X.1 12 (i))) hx hb hK hP 3 0 rfl rfl (by omega) (by decide) (h_la _ (by omega)) dX3_lost_52 ?_
              refine nv_iadd hx hb dX3_lost_53 ?_
              refine lv_istore_n (lv' := [(2, .int (nI ((sumTo (lstF X.1 xn) (i) + cLn X.1 12 (i))))), (3, .int (nI i)), (0, .ref (ad 0)), (1, .int (nI xn))]) hx hb dX3_lost_54 rfl hl (by decide) rfl (fun ls hl => ?_)
              refine nv_iinc1 (lv' := [(3, .int (nI (i + 1))), (2, .int (nI ((sumTo (lstF X.1 xn) (i) + cLn X.1 12 (i))))), (0, .ref (ad 0)), (1, .int (nI xn))]) hx hb dX3_lost_55 hl (k := 1) rfl (by decide) rfl (fun ls hl => ?_)
              refine lv_goto (tgt := 31) hx hb dX3_lost_58 (by decide) ?_
              exact ih31 (i + 1) (by omega) (by omega) (by omega) (nI ((sumTo (lstF X.1 xn) (i) + cLn X.1 12 (i)))) (nI (i + 1)) (nv_e (by first | exact lst_a h_i1 c7 | exact lst_b c7)) rfl ls (lv_sub hl [1, 0, 2, 3] rfl)
      exact L31 _ (1) (Nat.lt_succ_self _) (by omega) (by omega) (nI (0)) (nI (1)) rfl rfl ls (lv_sub hl [1, 0, 2, 3] rfl)
    · have i9 : inN x (1 * 2 ^ (X.1 7 0)) = false := in_f2 (by omega) c3
      refine lv_aload_n hx hb dX3_lost_17 rfl (lv_at hl 0 rfl) ?_
      refine lv_iconst (v := nI (0)) hx hb dX3_lost_18 (by decide) ?_
      refine mu_V (n := 1) (As := [.int (nI 0)]) (rest := []) ⟨hx, hb, hml, hown, hts⟩ (c_X3_finding l D ci G ka ad X T tq la tt z hI hG (0) hWX (by omega)) gX3_lost_X3_finding rfl ⟨rfl, rfl⟩ (by decide +kernel) rfl ⟨Nat.le_of_ble_eq_true rfl, Nat.le_of_ble_eq_true rfl⟩ hE (en_S hGA hs0 hS) hK hP (ci := 3) (q0 := 0) rfl rfl hl.1 rfl (Nat.le_of_ble_eq_true rfl) dX3_lost_19 ⟨Nat.zero_le _, Nat.zero_le _⟩ hS (fun _ h => h) (fun H1 locs hz hfr hB hS => ?_)
      obtain ⟨T, tq, la, tt, z, hP⟩ := hB
      generalize H1 = H at hP hS ⊢
      have hD : va_D (aX ad) (wX ci ad (toF X (inc X.2.2.2.1 0)) T tq la tt z) := wX_D hI
      have hp : p_lost X x = (fnd 0, toF X (inc X.2.2.2.1 0)) := by first | (rw [p_lost, bk_f i9]; rfl) | (rw [p_lost, bk_f (i9 _)]; rfl)
      refine nv_cv (show fnd 0 = (p_lost X x).1 from by rw [hp]) ?_
      exact mu_iret hx hb hr hlocks hS ((by rw [hp]; exact ⟨_, _, _, _, _, hP⟩)) dX3_lost_22
