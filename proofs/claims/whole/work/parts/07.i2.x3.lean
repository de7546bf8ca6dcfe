/-! walks laid by program -/
set_option maxHeartbeats 4000000 in
set_option maxRecDepth 100000 in
/-- X3_status -/
theorem c_X3_status (l : Launch) (D : va_G) (ci : Nat → ClassId) (G : Nat → Prop) (ka : Nat) (ad : Nat → Nat) (X : AS) (T : OS) (tq la tt : Nat → Int32) (z : Nat → Nat → Int32) (hI : injA ad 48) (hG : ∀ k, k < 48 → G (ad k)) (w : Int32) (hWX : WFX X) : Met l yX3_status wsX3_status ({ frames := 1, cells := 0, slots := 0, locals := 21 } : Room) (va_Pc [.ref (ad 0), .int (w)] (ro_B D (tyL ci) (wX ci ad X T tq la tt z) (en D (ci 0) G ka))) (mu_Q (aX ad) (some (.int ((p_status X w).1))) (fun H => ∃ T tq la tt z, va_P D vwCl (wX ci ad ((p_status X w).2) T tq la tt z) H)) 0 0 (aX ad) := by
  refine mu_Met (cc := cX3_status) (maxL := 4) (ret := (some .int)) [(0, .ref (ad 0)), (1, .int (w))] (wX_D hI) (by decide) rfl (Nat.le_of_ble_eq_true rfl) rfl ?_
  intro p e s m below meth c H locs hx hb hml hr hlocks hts hown hP hK hs0 hD hS ls hl
  have hown : s.vm.findClass RX3 = some m.cls := hown
  have hinX3 : ∀ w ∈ wsX30, w ∈ wsX3_status := by decide +kernel
  have hE := hE_en D (ci 0) G ka
  have hWF := hWX.w
  have f_n := hWF.n
  have f_e := hWX.e
  have f_tl := hWX.t
  have hGA := aX_G hG
  have hWK := hWX.k
  refine lv_iload_n hx hb dX3_status_0 rfl (lv_at hl 1 rfl) ?_
  refine lv_iconst (v := -1) hx hb dX3_status_1 (by decide) ?_
  refine lv_icmp_lt (tgt := 11) hx hb dX3_status_2 (by decide) (fun c1 => ?_) (fun c1 => ?_)
  · obtain ⟨q_1, q_2⟩ := m1_lt c1
    refine lv_aload_n hx hb dX3_status_11 rfl (lv_at hl 0 rfl) ?_
    refine lv_iconst (v := nI (0)) hx hb dX3_status_12 (by decide) ?_
    refine mu_V (n := 1) (As := [.int (nI 0)]) (rest := []) ⟨hx, hb, hml, hown, hts⟩ (c_X3_finding l D ci G ka ad X T tq la tt z hI hG (0) hWX (by omega)) gX3_status_X3_finding rfl ⟨rfl, rfl⟩ (by decide +kernel) rfl ⟨Nat.le_of_ble_eq_true rfl, Nat.le_of_ble_eq_true rfl⟩ hE (en_S hGA hs0 hS) hK hP (ci := 3) (q0 := 0) rfl rfl hl.1 rfl (Nat.le_of_ble_eq_true rfl) dX3_status_13 ⟨Nat.zero_le _, Nat.zero_le _⟩ hS (fun _ h => h) (fun H1 locs hz hfr hB hS => ?_)
    obtain ⟨T, tq, la, tt, z, hP⟩ := hB
    generalize H1 = H at hP hS ⊢
    have hD : va_D (aX ad) (wX ci ad (toF X (inc X.2.2.2.1 0)) T tq la tt z) := wX_D hI
    have hp : p_status X w = (fnd 0, toF X (inc X.2.2.2.1 0)) := by first | (simp [p_status, bk, fl_eq, c1, q_1, q_2]; done) | (simp [p_status, show i = 7 by omega]; done)
    refine nv_cv (show fnd 0 = (p_status X w).1 from by rw [hp]) ?_
    exact mu_iret hx hb hr hlocks hS ((by rw [hp]; exact ⟨_, _, _, _, _, hP⟩)) dX3_status_16
  · refine lv_iload_n hx hb dX3_status_5 rfl (lv_at hl 1 rfl) ?_
    refine lv_bipush (v := nI (7)) hx hb dX3_status_6 (by decide) ?_
    refine lv_icmp_lt (tgt := 17) hx hb dX3_status_8 (by decide) (fun c2 => ?_) (fun c2 => ?_)
    · have i3 : ∀ u9, inR w 7 u9 = false := fun u9 => inR_f0 (by decide) c2
      refine lv_iload_n hx hb dX3_status_17 rfl (lv_at hl 1 rfl) ?_
      refine lv_if_lt (tgt := 28) hx hb dX3_status_18 (by decide) (fun c4 => ?_) (fun c4 => ?_)
      · obtain rfl := m1_of c1 c4
        refine lv_iconst (v := nI (0)) hx hb dX3_status_28 (by decide) ?_
        refine lv_istore_n (lv' := [(2, .int (nI 0)), (0, .ref (ad 0)), (1, .int (-1))]) hx hb dX3_status_29 rfl hl (by decide) rfl (fun ls hl => ?_)
        refine lv_iconst (v := nI (0)) hx hb dX3_status_30 (by decide) ?_
        refine lv_istore_n (lv' := [(3, .int (nI 0)), (2, .int (nI 0)), (0, .ref (ad 0)), (1, .int (-1))]) hx hb dX3_status_31 rfl hl (by decide) rfl (fun ls hl => ?_)
        have L32 : ∀ (k32 : Nat) (i : Nat), 7 - i < k32 → (i ≤ 7) → ∀ (x2 x3 : Int32), x2 = nI (sumTo X.2.2.2.1 (i)) → x3 = nI (i) → ∀ ls : Array Slot, lv_has ls 4 [(2, .int (x2)), (3, .int (x3)), (0, .ref (ad 0)), (1, .int (-1))] → W p l e (headSpec wsX3_status ({ frames := 1, cells := 0, slots := 0, locals := 21 } : Room)).room s m ([.ref (ad 0), .int (-1)] : List Value).toArray below meth c H locs 0 0 (MQ below (mu_Q (aX ad) (some (.int ((p_status X (-1)).1))) (fun H => ∃ T tq la tt z, va_P D vwCl (wX ci ad ((p_status X (-1)).2) T tq la tt z) H)) ([.ref (ad 0), .int (-1)] : List Value).toArray s 0 0 (aX ad)) (F0 m 32 ls []) := by
          intro k32
          induction k32 with
          | zero => intro i h0; exact absurd h0 (Nat.not_lt_zero _)
          | succ k32 ih32 =>
            intro i hk32 h_i x2 x3 e2 e3 ls hl
            subst e2
            subst e3
            refine lv_iload_n hx hb dX3_status_32 rfl (lv_at hl 1 rfl) ?_
            refine lv_bipush (v := nI (7)) hx hb dX3_status_33 (by decide) ?_
            refine nv_icmp_ge (tgt := 53) hx hb (by omega) (by omega) dX3_status_35 (by decide) (fun c5 => ?_) (fun c5 => ?_)
            · refine lv_iload_n hx hb dX3_status_53 rfl (lv_at hl 0 rfl) ?_
              have hp : p_status X (-1) = (nI (sumTo X.2.2.2.1 (i)), X) := by first | (simp [p_status, bk, fl_eq, Nat.lt_irrefl, Nat.lt_irrefl, Nat.lt_irrefl, c5, i3]; done) | (simp [p_status, show i = 7 by omega]; done)
              refine nv_cv (show nI (sumTo X.2.2.2.1 (i)) = (p_status X (-1)).1 from by rw [hp]) ?_
              exact mu_iret hx hb hr hlocks hS ((by rw [hp]; exact ⟨_, _, _, _, _, hP⟩)) dX3_status_54
            · refine lv_iload_n hx hb dX3_status_38 rfl (lv_at hl 0 rfl) ?_
              refine lv_aload_n hx hb dX3_status_39 rfl (lv_at hl 2 rfl) ?_
              refine va_get (D := D) (ci := 3) (v := .ref (ad 2)) (C := RX3) (T := TX3) (N := 9) hx hb hts hinX3 hown hK hP 0 rfl rfl 6 (by decide) (hts (.fieldLink RX3 39 "OneShort" "findings" "[I") (List.mem_of_getElem? (i := 1) rfl)) (fun _ h9 => h9) rfl dX3_status_40 ?_
              refine lv_iload_n hx hb dX3_status_43 rfl (lv_at hl 1 rfl) ?_
              refine nv_iald (v := nI (X.2.2.2.1 (i))) hx hb hK hP 2 0 rfl rfl (by omega) (by decide) rfl dX3_status_44 ?_
              refine nv_iadd hx hb dX3_status_45 ?_
              refine lv_istore_n (lv' := [(2, .int (nI ((sumTo X.2.2.2.1 (i) + X.2.2.2.1 (i))))), (3, .int (nI i)), (0, .ref (ad 0)), (1, .int (-1))]) hx hb dX3_status_46 rfl hl (by decide) rfl (fun ls hl => ?_)
              refine nv_iinc1 (lv' := [(3, .int (nI (i + 1))), (2, .int (nI ((sumTo X.2.2.2.1 (i) + X.2.2.2.1 (i))))), (0, .ref (ad 0)), (1, .int (-1))]) hx hb dX3_status_47 hl (k := 1) rfl (by decide) rfl (fun ls hl => ?_)
              refine lv_goto (tgt := 32) hx hb dX3_status_50 (by decide) ?_
              exact ih32 (i + 1) (by omega) (by omega) (nI ((sumTo X.2.2.2.1 (i) + X.2.2.2.1 (i)))) (nI (i + 1)) rfl rfl ls (lv_sub hl [1, 0, 2, 3] rfl)
        exact L32 _ (0) (Nat.lt_succ_self _) (by omega) (nI (0)) (nI (0)) rfl rfl ls (lv_sub hl [1, 0, 2, 3] rfl)
      · have q_2 := in_t2 (n := 7) (by decide) c4 c2
        obtain ⟨wn, h_wn, rfl⟩ := in_ex q_2 (by decide)
        have t_wn : tn (nI wn) = wn := tn_nI (by omega)
        have q_1 : nI wn ≠ -1 := nI_m1 (by omega)
        refine lv_aload_n hx hb dX3_status_21 rfl (lv_at hl 0 rfl) ?_
        refine va_get (D := D) (ci := 3) (v := .ref (ad 2)) (C := RX3) (T := TX3) (N := 9) hx hb hts hinX3 hown hK hP 0 rfl rfl 6 (by decide) (hts (.fieldLink RX3 39 "OneShort" "findings" "[I") (List.mem_of_getElem? (i := 1) rfl)) (fun _ h9 => h9) rfl dX3_status_22 ?_
        refine lv_iload_n hx hb dX3_status_25 rfl (lv_at hl 1 rfl) ?_
        refine nv_iald (v := nI (X.2.2.2.1 (wn))) hx hb hK hP 2 0 rfl rfl (by omega) (by decide) rfl dX3_status_26 ?_
        have hp : p_status X (nI wn) = (nI (X.2.2.2.1 (wn)), X) := by first | (simp [p_status, bk, fl_eq, c1, c2, c4, i3, q_1, q_2, t_wn]; done) | (simp [p_status, show i = 7 by omega]; done)
        refine nv_cv (show nI (X.2.2.2.1 (wn)) = (p_status X (nI wn)).1 from by rw [hp]) ?_
        exact mu_iret hx hb hr hlocks hS ((by rw [hp]; exact ⟨_, _, _, _, _, hP⟩)) dX3_status_27
    · have q_1 := ne_m1 c2
      have q_2 := in_f2 (by decide) c2
      refine lv_aload_n hx hb dX3_status_11 rfl (lv_at hl 0 rfl) ?_
      refine lv_iconst (v := nI (0)) hx hb dX3_status_12 (by decide) ?_
      refine mu_V (n := 1) (As := [.int (nI 0)]) (rest := []) ⟨hx, hb, hml, hown, hts⟩ (c_X3_finding l D ci G ka ad X T tq la tt z hI hG (0) hWX (by omega)) gX3_status_X3_finding rfl ⟨rfl, rfl⟩ (by decide +kernel) rfl ⟨Nat.le_of_ble_eq_true rfl, Nat.le_of_ble_eq_true rfl⟩ hE (en_S hGA hs0 hS) hK hP (ci := 3) (q0 := 0) rfl rfl hl.1 rfl (Nat.le_of_ble_eq_true rfl) dX3_status_13 ⟨Nat.zero_le _, Nat.zero_le _⟩ hS (fun _ h => h) (fun H1 locs hz hfr hB hS => ?_)
      obtain ⟨T, tq, la, tt, z, hP⟩ := hB
      generalize H1 = H at hP hS ⊢
      have hD : va_D (aX ad) (wX ci ad (toF X (inc X.2.2.2.1 0)) T tq la tt z) := wX_D hI
      have hp : p_status X w = (fnd 0, toF X (inc X.2.2.2.1 0)) := by first | (simp [p_status, bk, fl_eq, c1, c2, q_1, q_2]; done) | (simp [p_status, show i = 7 by omega]; done)
      refine nv_cv (show fnd 0 = (p_status X w).1 from by rw [hp]) ?_
      exact mu_iret hx hb hr hlocks hS ((by rw [hp]; exact ⟨_, _, _, _, _, hP⟩)) dX3_status_16
