/-! walks laid by program -/
set_option maxHeartbeats 4000000 in
set_option maxRecDepth 100000 in
/-- X3_spare -/
theorem c_X3_spare (l : Launch) (D : va_G) (ci : Nat → ClassId) (G : Nat → Prop) (ka : Nat) (ad : Nat → Nat) (X : AS) (T : OS) (tq la tt : Nat → Int32) (z : Nat → Nat → Int32) (hI : injA ad 48) (hG : ∀ k, k < 48 → G (ad k))  (hWX : WFX X) : Met l yX3_spare wsX3_spare ({ frames := 6, cells := 0, slots := 0, locals := 135 } : Room) (va_Pc [.ref (ad 0)] (ro_B D (tyL ci) (wX ci ad X T tq la tt z) (en D (ci 0) G ka))) (mu_Q (aX ad) (some (.int ((p_spare X).1))) (fun H => ∃ T tq la tt z, va_P D vwCl (wX ci ad ((p_spare X).2) T tq la tt z) H)) 0 0 (aX ad) := by
  refine mu_Met (cc := cX3_spare) (maxL := 3) (ret := (some .int)) [(0, .ref (ad 0))] (wX_D hI) (by decide) rfl (Nat.le_of_ble_eq_true rfl) rfl ?_
  intro p e s m below meth c H locs hx hb hml hr hlocks hts hown hP hK hs0 hD hS ls hl
  have hown : s.vm.findClass RX3 = some m.cls := hown
  have hinX0 : ∀ w ∈ wsX00, w ∈ wsX3_spare := by decide +kernel
  have hinX3 : ∀ w ∈ wsX30, w ∈ wsX3_spare := by decide +kernel
  have hE := hE_en D (ci 0) G ka
  have hWF := hWX.w
  have f_n := hWF.n
  have f_e := hWX.e
  have f_tl := hWX.t
  have hGA := aX_G hG
  have hWK := hWX.k
  refine lv_aload_n hx hb dX3_spare_0 rfl (lv_at hl 0 rfl) ?_
  refine mu_V (n := 0) (As := []) (rest := []) ⟨hx, hb, hml, hown, hts⟩ (c_X3_countLoudest l D ci G ka ad X T tq la tt z hI hG  hWX) gX3_spare_X3_countLoudest rfl ⟨rfl, rfl⟩ (by decide +kernel) rfl ⟨Nat.le_of_ble_eq_true rfl, Nat.le_of_ble_eq_true rfl⟩ hE (en_S hGA hs0 hS) hK hP (ci := 3) (q0 := 0) rfl rfl hl.1 rfl (Nat.le_of_ble_eq_true rfl) dX3_spare_1 ⟨Nat.zero_le _, Nat.zero_le _⟩ hS (fun _ h => h) (fun H1 locs hz hfr hB hS => ?_)
  obtain ⟨T, tq, la, tt, z, h_la, hP⟩ := hB
  generalize H1 = H at hP hS ⊢
  have hD : va_D (aX ad) (wX ci ad X T tq la tt z) := wX_D hI
  refine lv_iconst (v := nI (0)) hx hb dX3_spare_4 (by decide) ?_
  refine lv_istore_n (lv' := [(1, .int (nI 0)), (0, .ref (ad 0))]) hx hb dX3_spare_5 rfl hl (by decide) rfl (fun ls hl => ?_)
  refine lv_iconst (v := nI (0)) hx hb dX3_spare_6 (by decide) ?_
  refine lv_istore_n (lv' := [(2, .int (nI 0)), (1, .int (nI 0)), (0, .ref (ad 0))]) hx hb dX3_spare_7 rfl hl (by decide) rfl (fun ls hl => ?_)
  have L8 : ∀ (k8 : Nat) (i : Nat), X.1 7 0 - i < k8 → (i ≤ X.1 7 0) → ∀ (x1 x2 : Int32), x1 = nI (setTo (fun q => cLn X.1 12 (1 * 2 ^ q) == 0) (i)) → x2 = nI (i) → ∀ ls : Array Slot, lv_has ls 3 [(1, .int (x1)), (2, .int (x2)), (0, .ref (ad 0))] → W p l e (headSpec wsX3_spare ({ frames := 6, cells := 0, slots := 0, locals := 135 } : Room)).room s m ([.ref (ad 0)] : List Value).toArray below meth c H locs 0 0 (MQ below (mu_Q (aX ad) (some (.int ((p_spare X).1))) (fun H => ∃ T tq la tt z, va_P D vwCl (wX ci ad ((p_spare X).2) T tq la tt z) H)) ([.ref (ad 0)] : List Value).toArray s 0 0 (aX ad)) (F0 m 8 ls []) := by
    intro k8
    induction k8 with
    | zero => intro i h0; exact absurd h0 (Nat.not_lt_zero _)
    | succ k8 ih8 =>
      intro i hk8 h_i x1 x2 e1 e2 ls hl
      subst e1
      subst e2
      have f_2 : i < 8 → 1 * 2 ^ i < 256 := two_lt
      refine lv_iload_n hx hb dX3_spare_8 rfl (lv_at hl 1 rfl) ?_
      refine lv_aload_n hx hb dX3_spare_9 rfl (lv_at hl 2 rfl) ?_
      refine va_get (D := D) (ci := 3) (v := .ref (ad 5)) (C := RX3) (T := TX3) (N := 9) hx hb hts hinX3 hown hK hP 0 rfl rfl 0 (by decide) (hts (.fieldLink RX3 10 "OneShort" "orchestra" "LOneShort$Orchestra;") (List.mem_of_getElem? (i := 1) rfl)) (fun _ h9 => h9) rfl dX3_spare_10 ?_
      refine va_get (D := D) (ci := 0) (v := .int (nI (((X).1) 7 0))) (C := RX0) (T := TX0) (N := 13) hx hb hts hinX0 hown hK hP 5 rfl rfl 7 (by decide) (hts (.fieldLink RX3 73 "OneShort$Orchestra" "size" "I") (List.mem_of_getElem? (i := 2) rfl)) (fun _ h9 => h9) rfl dX3_spare_13 ?_
      refine nv_icmp_ge (tgt := 42) hx hb (by omega) (by omega) dX3_spare_16 (by decide) (fun c1 => ?_) (fun c1 => ?_)
      · refine lv_iload_n hx hb dX3_spare_42 rfl (lv_at hl 0 rfl) ?_
        have hp : p_spare X = (nI (setTo (fun q => cLn X.1 12 (1 * 2 ^ q) == 0) (i)), X) := by rw [p_spare, show X.1 7 0 = i by omega]
        refine nv_cv (show nI (setTo (fun q => cLn X.1 12 (1 * 2 ^ q) == 0) (i)) = (p_spare X).1 from by rw [hp]) ?_
        exact mu_iret hx hb hr hlocks hS ((by rw [hp]; exact ⟨_, _, _, _, _, hP⟩)) dX3_spare_43
      · refine lv_aload_n hx hb dX3_spare_19 rfl (lv_at hl 2 rfl) ?_
        refine va_get (D := D) (ci := 3) (v := .ref (ad 3)) (C := RX3) (T := TX3) (N := 9) hx hb hts hinX3 hown hK hP 0 rfl rfl 7 (by decide) (hts (.fieldLink RX3 43 "OneShort" "loudestAt" "[I") (List.mem_of_getElem? (i := 3) rfl)) (fun _ h9 => h9) rfl dX3_spare_20 ?_
        refine lv_iconst (v := nI (1)) hx hb dX3_spare_23 (by decide) ?_
        refine lv_iload_n hx hb dX3_spare_24 rfl (lv_at hl 1 rfl) ?_
        refine nv_ishl hx hb (by omega) dX3_spare_25 ?_
        have f2 := cLn_le X.1 ((1 * 2 ^ (i)))
        refine nv_iald (v := nI (cLn X.1 12 ((1 * 2 ^ (i))))) hx hb hK hP 3 0 rfl rfl (by omega) (by decide) (h_la _ (by omega)) dX3_spare_26 ?_
        refine nv_ifne (tgt := 36) hx hb (by omega) dX3_spare_27 (by decide) (fun c3 => ?_) (fun c3 => ?_)
        · refine nv_iinc1 (lv' := [(2, .int (nI (i + 1))), (1, .int (nI (setTo (fun q => cLn X.1 12 (1 * 2 ^ q) == 0) (i)))), (0, .ref (ad 0))]) hx hb dX3_spare_36 hl (k := 1) rfl (by decide) rfl (fun ls hl => ?_)
          refine lv_goto (tgt := 8) hx hb dX3_spare_39 (by decide) ?_
          exact ih8 (i + 1) (by omega) (by omega) (nI (setTo (fun q => cLn X.1 12 (1 * 2 ^ q) == 0) (i))) (nI (i + 1)) (nv_e (by first | exact setTo_t (by simpa using c3) | exact setTo_f (by simpa using c3))) rfl ls (lv_sub hl [1, 0, 2] rfl)
        · refine lv_iload_n hx hb dX3_spare_30 rfl (lv_at hl 0 rfl) ?_
          refine lv_iconst (v := nI (1)) hx hb dX3_spare_31 (by decide) ?_
          refine lv_iload_n hx hb dX3_spare_32 rfl (lv_at hl 1 rfl) ?_
          refine nv_ishl hx hb (by omega) dX3_spare_33 ?_
          refine nv_ior hx hb dX3_spare_34 ?_
          refine lv_istore_n (lv' := [(1, .int (nI ((setTo (fun q => cLn X.1 12 (1 * 2 ^ q) == 0) (i) ||| (1 * 2 ^ (i)))))), (2, .int (nI i)), (0, .ref (ad 0))]) hx hb dX3_spare_35 rfl hl (by decide) rfl (fun ls hl => ?_)
          refine nv_iinc1 (lv' := [(2, .int (nI (i + 1))), (1, .int (nI ((setTo (fun q => cLn X.1 12 (1 * 2 ^ q) == 0) (i) ||| (1 * 2 ^ (i)))))), (0, .ref (ad 0))]) hx hb dX3_spare_36 hl (k := 1) rfl (by decide) rfl (fun ls hl => ?_)
          refine lv_goto (tgt := 8) hx hb dX3_spare_39 (by decide) ?_
          exact ih8 (i + 1) (by omega) (by omega) (nI ((setTo (fun q => cLn X.1 12 (1 * 2 ^ q) == 0) (i) ||| (1 * 2 ^ (i))))) (nI (i + 1)) (nv_e (by first | exact setTo_t (by simpa using c3) | exact setTo_f (by simpa using c3))) rfl ls (lv_sub hl [1, 0, 2] rfl)
  exact L8 _ (0) (Nat.lt_succ_self _) (by omega) (nI (0)) (nI (0)) rfl rfl ls (lv_sub hl [1, 0, 2] rfl)
