/-! walks laid by program -/
set_option maxHeartbeats 4000000 in
set_option maxRecDepth 100000 in
/-- X3_fewest -/
theorem c_X3_fewest (l : Launch) (D : va_G) (ci : Nat → ClassId) (G : Nat → Prop) (ka : Nat) (ad : Nat → Nat) (X : AS) (T : OS) (tq la tt : Nat → Int32) (z : Nat → Nat → Int32) (hI : injA ad 48) (hG : ∀ k, k < 48 → G (ad k))  (hWX : WFX X) : Met l yX3_fewest wsX3_fewest ({ frames := 6, cells := 0, slots := 0, locals := 135 } : Room) (va_Pc [.ref (ad 0)] (ro_B D (tyL ci) (wX ci ad X T tq la tt z) (en D (ci 0) G ka))) (mu_Q (aX ad) (some (.int ((p_fewest X).1))) (fun H => ∃ T tq la tt z, va_P D vwCl (wX ci ad ((p_fewest X).2) T tq la tt z) H)) 0 0 (aX ad) := by
  refine mu_Met (cc := cX3_fewest) (maxL := 3) (ret := (some .int)) [(0, .ref (ad 0))] (wX_D hI) (by decide) rfl (Nat.le_of_ble_eq_true rfl) rfl ?_
  intro p e s m below meth c H locs hx hb hml hr hlocks hts hown hP hK hs0 hD hS ls hl
  have hown : s.vm.findClass RX3 = some m.cls := hown
  have hinX0 : ∀ w ∈ wsX00, w ∈ wsX3_fewest := by decide +kernel
  have hinX3 : ∀ w ∈ wsX30, w ∈ wsX3_fewest := by decide +kernel
  have hE := hE_en D (ci 0) G ka
  have hWF := hWX.w
  have f_n := hWF.n
  have f_e := hWX.e
  have f_tl := hWX.t
  have hGA := aX_G hG
  have hWK := hWX.k
  have f_2n := two_le hWF.n
  refine lv_aload_n hx hb dX3_fewest_0 rfl (lv_at hl 0 rfl) ?_
  refine mu_V (n := 0) (As := []) (rest := []) ⟨hx, hb, hml, hown, hts⟩ (c_X3_countLoudest l D ci G ka ad X T tq la tt z hI hG  hWX) gX3_fewest_X3_countLoudest rfl ⟨rfl, rfl⟩ (by decide +kernel) rfl ⟨Nat.le_of_ble_eq_true rfl, Nat.le_of_ble_eq_true rfl⟩ hE (en_S hGA hs0 hS) hK hP (ci := 3) (q0 := 0) rfl rfl hl.1 rfl (Nat.le_of_ble_eq_true rfl) dX3_fewest_1 ⟨Nat.zero_le _, Nat.zero_le _⟩ hS (fun _ h => h) (fun H1 locs hz hfr hB hS => ?_)
  obtain ⟨T, tq, la, tt, z, h_la, hP⟩ := hB
  generalize H1 = H at hP hS ⊢
  have hD : va_D (aX ad) (wX ci ad X T tq la tt z) := wX_D hI
  refine lv_iconst (v := nI (0)) hx hb dX3_fewest_4 (by decide) ?_
  refine lv_istore_n (lv' := [(1, .int (nI 0)), (0, .ref (ad 0))]) hx hb dX3_fewest_5 rfl hl (by decide) rfl (fun ls hl => ?_)
  refine lv_iconst (v := nI (1)) hx hb dX3_fewest_6 (by decide) ?_
  refine lv_istore_n (lv' := [(2, .int (nI 1)), (1, .int (nI 0)), (0, .ref (ad 0))]) hx hb dX3_fewest_7 rfl hl (by decide) rfl (fun ls hl => ?_)
  have L8 : ∀ (k8 : Nat) (i : Nat) (k : Nat) (tl : Nat → Nat) (tt : Nat → Int32), 256 - i < k8 → (1 ≤ i) → (i ≤ 256) → (k < i) → (∀ j, j < k → tt j = nI (tl j)) → (∀ t, anyTo (fun i => (t &&& tl i) == 0) k = anyTo (fun L => decide (0 < L) && decide (0 < cLn X.1 12 L) && (t &&& L) == 0) i) → ∀ (x1 x2 : Int32), x1 = nI (k) → x2 = nI (i) → ∀ (H : Heap) (locs : List Loc), va_P D vwCl (wX ci ad X T tq la tt z) H → va_S (aX ad) s.heap H locs → ∀ ls : Array Slot, lv_has ls 3 [(1, .int (x1)), (2, .int (x2)), (0, .ref (ad 0))] → W p l e (headSpec wsX3_fewest ({ frames := 6, cells := 0, slots := 0, locals := 135 } : Room)).room s m ([.ref (ad 0)] : List Value).toArray below meth c H locs 0 0 (MQ below (mu_Q (aX ad) (some (.int ((p_fewest X).1))) (fun H => ∃ T tq la tt z, va_P D vwCl (wX ci ad ((p_fewest X).2) T tq la tt z) H)) ([.ref (ad 0)] : List Value).toArray s 0 0 (aX ad)) (F0 m 8 ls []) := by
    intro k8
    induction k8 with
    | zero => intro i k tl tt h0; exact absurd h0 (Nat.not_lt_zero _)
    | succ k8 ih8 =>
      intro i k tl tt hk8 h_i1 h_i h_k h_tt h_q x1 x2 e1 e2  H locs hP hS ls hl
      subst e1
      subst e2
      have hD : va_D (aX ad) (wX ci ad X T tq la tt z) := wX_D hI
      refine lv_iload_n hx hb dX3_fewest_8 rfl (lv_at hl 1 rfl) ?_
      refine lv_sipush (v := nI (256)) hx hb dX3_fewest_9 (by decide) ?_
      refine nv_icmp_ge (tgt := 40) hx hb (by omega) (by omega) dX3_fewest_12 (by decide) (fun c1 => ?_) (fun c1 => ?_)
      · refine lv_aload_n hx hb dX3_fewest_40 rfl (lv_at hl 2 rfl) ?_
        refine lv_iload_n hx hb dX3_fewest_41 rfl (lv_at hl 0 rfl) ?_
        refine lv_iconst (v := nI (1)) hx hb dX3_fewest_42 (by decide) ?_
        refine lv_aload_n hx hb dX3_fewest_43 rfl (lv_at hl 2 rfl) ?_
        refine va_get (D := D) (ci := 3) (v := .ref (ad 5)) (C := RX3) (T := TX3) (N := 9) hx hb hts hinX3 hown hK hP 0 rfl rfl 0 (by decide) (hts (.fieldLink RX3 10 "OneShort" "orchestra" "LOneShort$Orchestra;") (List.mem_of_getElem? (i := 3) rfl)) (fun _ h9 => h9) rfl dX3_fewest_44 ?_
        refine va_get (D := D) (ci := 0) (v := .int (nI (X.1 7 0))) (C := RX0) (T := TX0) (N := 13) hx hb hts hinX0 hown hK hP 5 rfl rfl 7 (by decide) (hts (.fieldLink RX3 73 "OneShort$Orchestra" "size" "I") (List.mem_of_getElem? (i := 4) rfl)) (fun _ h9 => h9) rfl dX3_fewest_47 ?_
        refine nv_ishl hx hb (by omega) dX3_fewest_50 ?_
        refine ro_V (n := 2) (As := [.int (nI k), .int (nI ((1 * 2 ^ (X.1 7 0))))]) (rest := []) ⟨hx, hb, hml, hown, hts⟩ (c_X3_leastTouching l D ci G ka ad X T tq la tt z (k) ((1 * 2 ^ (X.1 7 0))) (tl) hWX (by omega) (by omega) h_tt) gX3_fewest_X3_leastTouching rfl ⟨rfl, rfl⟩ (by decide +kernel) rfl ⟨Nat.le_of_ble_eq_true rfl, Nat.le_of_ble_eq_true rfl⟩ hE (en_S hGA hs0 hS) hK hP (ci := 3) (q0 := 0) rfl rfl hl.1 rfl (Nat.le_of_ble_eq_true rfl) dX3_fewest_51 ⟨Nat.zero_le _, Nat.zero_le _⟩ ?_
        have hp : p_fewest X = (nI ((ltb (fun t => !anyTo (fun i => (t &&& tl i) == 0) k) (1 * 2 ^ (X.1 7 0))).1), X) := by (have e8 : i = 256 := (by omega)); subst e8; (have e9 : (fun t => !anyTo (fun i => (t &&& tl i) == 0) k) = (fun t => !anyTo (fun L => decide (0 < L) && decide (0 < cLn X.1 12 L) && (t &&& L) == 0) 256) := funext (fun t => by rw [h_q t])); rw [p_fewest, e9]
        refine nv_cv (show nI ((ltb (fun t => !anyTo (fun i => (t &&& tl i) == 0) k) (1 * 2 ^ (X.1 7 0))).1) = (p_fewest X).1 from by rw [hp]) ?_
        exact mu_iret hx hb hr hlocks hS ((by rw [hp]; exact ⟨_, _, _, _, _, hP⟩)) dX3_fewest_54
      · refine lv_aload_n hx hb dX3_fewest_15 rfl (lv_at hl 2 rfl) ?_
        refine va_get (D := D) (ci := 3) (v := .ref (ad 3)) (C := RX3) (T := TX3) (N := 9) hx hb hts hinX3 hown hK hP 0 rfl rfl 7 (by decide) (hts (.fieldLink RX3 43 "OneShort" "loudestAt" "[I") (List.mem_of_getElem? (i := 1) rfl)) (fun _ h9 => h9) rfl dX3_fewest_16 ?_
        refine lv_iload_n hx hb dX3_fewest_19 rfl (lv_at hl 1 rfl) ?_
        have f2 := cLn_le X.1 (i)
        refine nv_iald (v := nI (cLn X.1 12 (i))) hx hb hK hP 3 0 rfl rfl (by omega) (by decide) (h_la _ (by omega)) dX3_fewest_20 ?_
        refine nv_ifle (tgt := 34) hx hb (by omega) dX3_fewest_21 (by decide) (fun c3 => ?_) (fun c3 => ?_)
        · refine nv_iinc1 (lv' := [(2, .int (nI (i + 1))), (1, .int (nI k)), (0, .ref (ad 0))]) hx hb dX3_fewest_34 hl (k := 1) rfl (by decide) rfl (fun ls hl => ?_)
          refine lv_goto (tgt := 8) hx hb dX3_fewest_37 (by decide) ?_
          exact ih8 (i + 1) (k) (tl) (tt) (by omega) (by omega) (by omega) (by omega) h_tt (fun t => fw_b h_q c3 t) (nI (k)) (nI (i + 1)) rfl rfl _ _ hP hS ls (lv_sub hl [1, 0, 2] rfl)
        · refine lv_aload_n hx hb dX3_fewest_24 rfl (lv_at hl 2 rfl) ?_
          refine va_get (D := D) (ci := 3) (v := .ref (ad 4)) (C := RX3) (T := TX3) (N := 9) hx hb hts hinX3 hown hK hP 0 rfl rfl 8 (by decide) (hts (.fieldLink RX3 46 "OneShort" "toTouch" "[I") (List.mem_of_getElem? (i := 2) rfl)) (fun _ h9 => h9) rfl dX3_fewest_25 ?_
          refine lv_iload_n hx hb dX3_fewest_28 rfl (lv_at hl 0 rfl) ?_
          refine lv_iload_n hx hb dX3_fewest_29 rfl (lv_at hl 1 rfl) ?_
          refine nv_iast hx hb hK hP hD hS 4 0 rfl rfl (by omega) (by decide) dX3_fewest_30 (fun H locs hP hD hS => ?_)
          have hP : va_P D vwCl (wX ci ad X T tq la (upd tt (k) (nI (i))) z) H := va_P.re (wX_tt ci ad X T tq la tt z (k) (nI (i))) hP
          have hD : va_D (aX ad) (wX ci ad X T tq la (upd tt (k) (nI (i))) z) := wX_D hI
          refine nv_iinc1 (lv' := [(1, .int (nI (k + 1))), (2, .int (nI i)), (0, .ref (ad 0))]) hx hb dX3_fewest_31 hl (k := 0) rfl (by decide) rfl (fun ls hl => ?_)
          refine nv_iinc1 (lv' := [(2, .int (nI (i + 1))), (1, .int (nI (k + 1))), (0, .ref (ad 0))]) hx hb dX3_fewest_34 hl (k := 1) rfl (by decide) rfl (fun ls hl => ?_)
          refine lv_goto (tgt := 8) hx hb dX3_fewest_37 (by decide) ?_
          exact ih8 (i + 1) (k + 1) (updF tl k i) (upd tt (k) (nI (i))) (by omega) (by omega) (by omega) (by omega) (fun j hj => by simp only [upd, updF]; split <;> first | rfl | exact h_tt j (by omega)) (fun t => fw_a h_q c3 h_i1 t) (nI (k + 1)) (nI (i + 1)) rfl rfl _ _ hP hS ls (lv_sub hl [1, 0, 2] rfl)
  exact L8 _ (1) (0) ((fun _ => 0)) (tt) (Nat.lt_succ_self _) (by omega) (by omega) (by omega) (fun _ h => absurd h (Nat.not_lt_zero _)) (fun t => rfl) (nI (0)) (nI (1)) rfl rfl _ _ hP hS ls (lv_sub hl [1, 0, 2] rfl)
