/-! walks laid by program -/
set_option maxHeartbeats 4000000 in
set_option maxRecDepth 100000 in
/-- X3_dearest -/
theorem c_X3_dearest (l : Launch) (D : va_G) (ci : Nat → ClassId) (G : Nat → Prop) (ka : Nat) (ad : Nat → Nat) (X : AS) (T : OS) (tq la tt : Nat → Int32) (z : Nat → Nat → Int32) (hI : injA ad 48) (hG : ∀ k, k < 48 → G (ad k))  (hWX : WFX X) : Met l yX3_dearest wsX3_dearest ({ frames := 6, cells := 0, slots := 0, locals := 135 } : Room) (va_Pc [.ref (ad 0)] (ro_B D (tyL ci) (wX ci ad X T tq la tt z) (en D (ci 0) G ka))) (mu_Q (aX ad) (some (.int ((p_dearest X).1))) (fun H => ∃ T tq la tt z, va_P D vwCl (wX ci ad ((p_dearest X).2) T tq la tt z) H)) 0 0 (aX ad) := by
  refine mu_Met (cc := cX3_dearest) (maxL := 3) (ret := (some .int)) [(0, .ref (ad 0))] (wX_D hI) (by decide) rfl (Nat.le_of_ble_eq_true rfl) rfl ?_
  intro p e s m below meth c H locs hx hb hml hr hlocks hts hown hP hK hs0 hD hS ls hl
  have hown : s.vm.findClass RX3 = some m.cls := hown
  have hinX0 : ∀ w ∈ wsX00, w ∈ wsX3_dearest := by decide +kernel
  have hinX3 : ∀ w ∈ wsX30, w ∈ wsX3_dearest := by decide +kernel
  have hE := hE_en D (ci 0) G ka
  have hWF := hWX.w
  have f_n := hWF.n
  have f_e := hWX.e
  have f_tl := hWX.t
  have hGA := aX_G hG
  have hWK := hWX.k
  refine lv_aload_n hx hb dX3_dearest_0 rfl (lv_at hl 0 rfl) ?_
  refine va_get (D := D) (ci := 3) (v := .ref (ad 5)) (C := RX3) (T := TX3) (N := 9) hx hb hts hinX3 hown hK hP 0 rfl rfl 0 (by decide) (hts (.fieldLink RX3 10 "OneShort" "orchestra" "LOneShort$Orchestra;") (List.mem_of_getElem? (i := 1) rfl)) (fun _ h9 => h9) rfl dX3_dearest_1 ?_
  refine va_get (D := D) (ci := 0) (v := .int (nI (X.1 7 0))) (C := RX0) (T := TX0) (N := 13) hx hb hts hinX0 hown hK hP 5 rfl rfl 7 (by decide) (hts (.fieldLink RX3 73 "OneShort$Orchestra" "size" "I") (List.mem_of_getElem? (i := 2) rfl)) (fun _ h9 => h9) rfl dX3_dearest_4 ?_
  refine nv_ifne (tgt := 16) hx hb (by omega) dX3_dearest_7 (by decide) (fun c1 => ?_) (fun c1 => ?_)
  · refine lv_aload_n hx hb dX3_dearest_16 rfl (lv_at hl 0 rfl) ?_
    refine mu_V (n := 0) (As := []) (rest := []) ⟨hx, hb, hml, hown, hts⟩ (c_X3_countLoudest l D ci G ka ad X T tq la tt z hI hG  hWX) gX3_dearest_X3_countLoudest rfl ⟨rfl, rfl⟩ (by decide +kernel) rfl ⟨Nat.le_of_ble_eq_true rfl, Nat.le_of_ble_eq_true rfl⟩ hE (en_S hGA hs0 hS) hK hP (ci := 3) (q0 := 0) rfl rfl hl.1 rfl (Nat.le_of_ble_eq_true rfl) dX3_dearest_17 ⟨Nat.zero_le _, Nat.zero_le _⟩ hS (fun _ h => h) (fun H1 locs hz hfr hB hS => ?_)
    obtain ⟨T, tq, la, tt, z, h_la, hP⟩ := hB
    generalize H1 = H at hP hS ⊢
    have hD : va_D (aX ad) (wX ci ad X T tq la tt z) := wX_D hI
    refine lv_iconst (v := nI (0)) hx hb dX3_dearest_20 (by decide) ?_
    refine lv_istore_n (lv' := [(1, .int (nI 0)), (0, .ref (ad 0))]) hx hb dX3_dearest_21 rfl hl (by decide) rfl (fun ls hl => ?_)
    refine lv_iconst (v := nI (1)) hx hb dX3_dearest_22 (by decide) ?_
    refine lv_istore_n (lv' := [(2, .int (nI 1)), (1, .int (nI 0)), (0, .ref (ad 0))]) hx hb dX3_dearest_23 rfl hl (by decide) rfl (fun ls hl => ?_)
    have L24 : ∀ (k24 : Nat) (i : Nat), X.1 7 0 - i < k24 → (1 ≤ i) → (i ≤ X.1 7 0) → ∀ (x1 x2 : Int32), x1 = nI ((argTo (fun q => cLn X.1 12 (1 * 2 ^ q)) (i)).1) → x2 = nI (i) → ∀ ls : Array Slot, lv_has ls 3 [(1, .int (x1)), (2, .int (x2)), (0, .ref (ad 0))] → W p l e (headSpec wsX3_dearest ({ frames := 6, cells := 0, slots := 0, locals := 135 } : Room)).room s m ([.ref (ad 0)] : List Value).toArray below meth c H locs 0 0 (MQ below (mu_Q (aX ad) (some (.int ((p_dearest X).1))) (fun H => ∃ T tq la tt z, va_P D vwCl (wX ci ad ((p_dearest X).2) T tq la tt z) H)) ([.ref (ad 0)] : List Value).toArray s 0 0 (aX ad)) (F0 m 24 ls []) := by
      intro k24
      induction k24 with
      | zero => intro i h0; exact absurd h0 (Nat.not_lt_zero _)
      | succ k24 ih24 =>
        intro i hk24 h_i1 h_i x1 x2 e1 e2 ls hl
        subst e1
        subst e2
        have f_2 : i < 8 → 1 * 2 ^ i < 256 := two_lt
        have f_3 := arg_lt (fun q => cLn X.1 12 (1 * 2 ^ q)) h_i1
        have f_4 := arg_val (fun q => cLn X.1 12 (1 * 2 ^ q)) h_i1
        have f_5 : (argTo (fun q => cLn X.1 12 (1 * 2 ^ q)) i).1 < 8 → 1 * 2 ^ (argTo (fun q => cLn X.1 12 (1 * 2 ^ q)) i).1 < 256 := two_lt
        refine lv_iload_n hx hb dX3_dearest_24 rfl (lv_at hl 1 rfl) ?_
        refine lv_aload_n hx hb dX3_dearest_25 rfl (lv_at hl 2 rfl) ?_
        refine va_get (D := D) (ci := 3) (v := .ref (ad 5)) (C := RX3) (T := TX3) (N := 9) hx hb hts hinX3 hown hK hP 0 rfl rfl 0 (by decide) (hts (.fieldLink RX3 10 "OneShort" "orchestra" "LOneShort$Orchestra;") (List.mem_of_getElem? (i := 1) rfl)) (fun _ h9 => h9) rfl dX3_dearest_26 ?_
        refine va_get (D := D) (ci := 0) (v := .int (nI (((X).1) 7 0))) (C := RX0) (T := TX0) (N := 13) hx hb hts hinX0 hown hK hP 5 rfl rfl 7 (by decide) (hts (.fieldLink RX3 73 "OneShort$Orchestra" "size" "I") (List.mem_of_getElem? (i := 2) rfl)) (fun _ h9 => h9) rfl dX3_dearest_29 ?_
        refine nv_icmp_ge (tgt := 62) hx hb (by omega) (by omega) dX3_dearest_32 (by decide) (fun c2 => ?_) (fun c2 => ?_)
        · refine lv_iload_n hx hb dX3_dearest_62 rfl (lv_at hl 0 rfl) ?_
          have hp : p_dearest X = (nI ((argTo (fun q => cLn X.1 12 (1 * 2 ^ q)) (i)).1), X) := by first | (simp [p_dearest, bk, fl_eq, c1, c2]; done) | ((rw [p_dearest, bk_t (decide_eq_true (by omega)), show X.1 7 0 = i by omega]); done)
          refine nv_cv (show nI ((argTo (fun q => cLn X.1 12 (1 * 2 ^ q)) (i)).1) = (p_dearest X).1 from by rw [hp]) ?_
          exact mu_iret hx hb hr hlocks hS ((by rw [hp]; exact ⟨_, _, _, _, _, hP⟩)) dX3_dearest_63
        · refine lv_aload_n hx hb dX3_dearest_35 rfl (lv_at hl 2 rfl) ?_
          refine va_get (D := D) (ci := 3) (v := .ref (ad 3)) (C := RX3) (T := TX3) (N := 9) hx hb hts hinX3 hown hK hP 0 rfl rfl 7 (by decide) (hts (.fieldLink RX3 43 "OneShort" "loudestAt" "[I") (List.mem_of_getElem? (i := 3) rfl)) (fun _ h9 => h9) rfl dX3_dearest_36 ?_
          refine lv_iconst (v := nI (1)) hx hb dX3_dearest_39 (by decide) ?_
          refine lv_iload_n hx hb dX3_dearest_40 rfl (lv_at hl 1 rfl) ?_
          refine nv_ishl hx hb (by omega) dX3_dearest_41 ?_
          have f3 := cLn_le X.1 ((1 * 2 ^ (i)))
          refine nv_iald (v := nI (cLn X.1 12 ((1 * 2 ^ (i))))) hx hb hK hP 3 0 rfl rfl (by omega) (by decide) (h_la _ (by omega)) dX3_dearest_42 ?_
          refine lv_aload_n hx hb dX3_dearest_43 rfl (lv_at hl 2 rfl) ?_
          refine va_get (D := D) (ci := 3) (v := .ref (ad 3)) (C := RX3) (T := TX3) (N := 9) hx hb hts hinX3 hown hK hP 0 rfl rfl 7 (by decide) (hts (.fieldLink RX3 43 "OneShort" "loudestAt" "[I") (List.mem_of_getElem? (i := 3) rfl)) (fun _ h9 => h9) rfl dX3_dearest_44 ?_
          refine lv_iconst (v := nI (1)) hx hb dX3_dearest_47 (by decide) ?_
          refine lv_iload_n hx hb dX3_dearest_48 rfl (lv_at hl 0 rfl) ?_
          refine nv_ishl hx hb (by omega) dX3_dearest_49 ?_
          have f4 := cLn_le X.1 ((1 * 2 ^ ((argTo (fun q => cLn X.1 12 (1 * 2 ^ q)) (i)).1)))
          refine nv_iald (v := nI (cLn X.1 12 ((1 * 2 ^ ((argTo (fun q => cLn X.1 12 (1 * 2 ^ q)) (i)).1))))) hx hb hK hP 3 0 rfl rfl (by omega) (by decide) (h_la _ (by omega)) dX3_dearest_50 ?_
          refine nv_icmp_le (tgt := 56) hx hb (by omega) (by omega) dX3_dearest_51 (by decide) (fun c5 => ?_) (fun c5 => ?_)
          · refine nv_iinc1 (lv' := [(2, .int (nI (i + 1))), (1, .int (nI ((argTo (fun q => cLn X.1 12 (1 * 2 ^ q)) (i)).1))), (0, .ref (ad 0))]) hx hb dX3_dearest_56 hl (k := 1) rfl (by decide) rfl (fun ls hl => ?_)
            refine lv_goto (tgt := 24) hx hb dX3_dearest_59 (by decide) ?_
            exact ih24 (i + 1) (by omega) (by omega) (by omega) (nI ((argTo (fun q => cLn X.1 12 (1 * 2 ^ q)) (i)).1)) (nI (i + 1)) (nv_e (by first | rw [arg_t (by omega)] | rw [arg_f (by omega)])) rfl ls (lv_sub hl [1, 0, 2] rfl)
          · refine lv_iload_n hx hb dX3_dearest_54 rfl (lv_at hl 1 rfl) ?_
            refine lv_istore_n (lv' := [(1, .int (nI i)), (2, .int (nI i)), (0, .ref (ad 0))]) hx hb dX3_dearest_55 rfl hl (by decide) rfl (fun ls hl => ?_)
            refine nv_iinc1 (lv' := [(2, .int (nI (i + 1))), (1, .int (nI i)), (0, .ref (ad 0))]) hx hb dX3_dearest_56 hl (k := 1) rfl (by decide) rfl (fun ls hl => ?_)
            refine lv_goto (tgt := 24) hx hb dX3_dearest_59 (by decide) ?_
            exact ih24 (i + 1) (by omega) (by omega) (by omega) (nI (i)) (nI (i + 1)) (nv_e (by first | rw [arg_t (by omega)] | rw [arg_f (by omega)])) rfl ls (lv_sub hl [1, 0, 2] rfl)
    exact L24 _ (1) (Nat.lt_succ_self _) (by omega) (by omega) (nI (0)) (nI (1)) (nv_e (by rw [arg_1])) rfl ls (lv_sub hl [1, 0, 2] rfl)
  · refine lv_aload_n hx hb dX3_dearest_10 rfl (lv_at hl 0 rfl) ?_
    refine lv_iconst (v := nI (3)) hx hb dX3_dearest_11 (by decide) ?_
    refine mu_V (n := 1) (As := [.int (nI 3)]) (rest := []) ⟨hx, hb, hml, hown, hts⟩ (c_X3_finding l D ci G ka ad X T tq la tt z hI hG (3) hWX (by omega)) gX3_dearest_X3_finding rfl ⟨rfl, rfl⟩ (by decide +kernel) rfl ⟨Nat.le_of_ble_eq_true rfl, Nat.le_of_ble_eq_true rfl⟩ hE (en_S hGA hs0 hS) hK hP (ci := 3) (q0 := 0) rfl rfl hl.1 rfl (Nat.le_of_ble_eq_true rfl) dX3_dearest_12 ⟨Nat.zero_le _, Nat.zero_le _⟩ hS (fun _ h => h) (fun H1 locs hz hfr hB hS => ?_)
    obtain ⟨T, tq, la, tt, z, hP⟩ := hB
    generalize H1 = H at hP hS ⊢
    have hD : va_D (aX ad) (wX ci ad (toF X (inc X.2.2.2.1 3)) T tq la tt z) := wX_D hI
    have hp : p_dearest X = (fnd 3, toF X (inc X.2.2.2.1 3)) := by first | (simp [p_dearest, bk, fl_eq, c1]; done) | ((rw [p_dearest, bk_t (decide_eq_true (by omega)), show X.1 7 0 = i by omega]); done)
    refine nv_cv (show fnd 3 = (p_dearest X).1 from by rw [hp]) ?_
    exact mu_iret hx hb hr hlocks hS ((by rw [hp]; exact ⟨_, _, _, _, _, hP⟩)) dX3_dearest_15
