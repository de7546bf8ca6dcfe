/-! walks laid by program -/
set_option maxHeartbeats 4000000 in
set_option maxRecDepth 100000 in
/-- X1_isMissing -/
theorem c_X1_isMissing (l : Launch) (D : va_G) (ci : Nat → ClassId) (G : Nat → Prop) (ka : Nat) (a : Nat → Nat) (b0 n0 : Nat) (f0 : Nat → Int32)  (h_b : b0 < 64) : Met l yX1_isMissing wsX1_isMissing ({ frames := 0, cells := 0, slots := 0, locals := 0 } : Room) (va_Pc [.ref (a 0)] (ro_B D (tyL ci) (wSh ci a b0 n0 f0) (en D (ci 0) G ka))) (ro_Q (some (.int (bI (decide (b0 = 0)))))) 0 0 (fun _ => False) := by
  refine ro_Met (cc := cX1_isMissing) (maxL := 1) (ret := (some .boolean)) [(0, .ref (a 0))] (by decide) rfl (Nat.le_of_ble_eq_true rfl) rfl ?_
  intro p e s m below meth c hx hb hml hr hlocks hts hown hP hK hs ls hl
  have hown : s.vm.findClass RX1 = some m.cls := hown
  have hinX1 : ∀ w ∈ wsX10, w ∈ wsX1_isMissing := by decide +kernel
  have hE := hE_en D (ci 0) G ka
  refine lv_aload_n hx hb dX1_isMissing_0 rfl (lv_at hl 0 rfl) ?_
  refine va_get (D := D) (ci := 1) (v := .int (nI b0)) (C := RX1) (T := TX1) (N := 3) hx hb hts hinX1 hown hK hP 0 rfl rfl 1 (by decide) (hts (.fieldLink RX1 15 "OneShort$Sheet" "bits" "I") (List.mem_of_getElem? (i := 1) rfl)) (fun _ h9 => h9) rfl dX1_isMissing_1 ?_
  refine nv_ifne (tgt := 11) hx hb (by omega) dX1_isMissing_4 (by decide) (fun c1 => ?_) (fun c1 => ?_)
  · refine lv_iconst (v := nI (0)) hx hb dX1_isMissing_11 (by decide) ?_
    refine nv_cv (show nI (0) = bI (decide (b0 = 0)) from nv_f (by simp [c1])) ?_
    exact ro_zret hx hb hr hlocks dX1_isMissing_12
  · refine lv_iconst (v := nI (1)) hx hb dX1_isMissing_7 (by decide) ?_
    refine lv_goto (tgt := 12) hx hb dX1_isMissing_8 (by decide) ?_
    refine nv_cv (show nI (1) = bI (decide (b0 = 0)) from nv_t (by simp [c1])) ?_
    exact ro_zret hx hb hr hlocks dX1_isMissing_12

set_option maxHeartbeats 4000000 in
set_option maxRecDepth 100000 in
/-- X1_hasRange -/
theorem c_X1_hasRange (l : Launch) (D : va_G) (ci : Nat → ClassId) (G : Nat → Prop) (ka : Nat) (a : Nat → Nat) (b0 n0 : Nat) (f0 : Nat → Int32) (x y : Int32) (h_n : n0 ≤ 40) : Met l yX1_hasRange wsX1_hasRange ({ frames := 0, cells := 0, slots := 0, locals := 0 } : Room) (va_Pc [.ref (a 0), .int (x), .int (y)] (ro_B D (tyL ci) (wSh ci a b0 n0 f0) (en D (ci 0) G ka))) (ro_Q (some (.int (bI (hasR n0 x y))))) 0 0 (fun _ => False) := by
  refine ro_Met (cc := cX1_hasRange) (maxL := 3) (ret := (some .boolean)) [(0, .ref (a 0)), (1, .int (x)), (2, .int (y))] (by decide) rfl (Nat.le_of_ble_eq_true rfl) rfl ?_
  intro p e s m below meth c hx hb hml hr hlocks hts hown hP hK hs ls hl
  have hown : s.vm.findClass RX1 = some m.cls := hown
  have hinX1 : ∀ w ∈ wsX10, w ∈ wsX1_hasRange := by decide +kernel
  have hE := hE_en D (ci 0) G ka
  refine lv_iload_n hx hb dX1_hasRange_0 rfl (lv_at hl 1 rfl) ?_
  refine lv_if_lt (tgt := 30) hx hb dX1_hasRange_1 (by decide) (fun c1 => ?_) (fun c1 => ?_)
  · refine lv_iconst (v := nI (0)) hx hb dX1_hasRange_30 (by decide) ?_
    refine nv_cv (show nI (0) = bI (hasR n0 x y) from nv_f (by unfold hasR; first | exact hasR_t (by omega) (by omega) (by omega) | exact hasR_f0 c1 | exact hasR_f1 c1 | exact hasR_f2 (by omega) rfl c1 | exact hasR_f3 (by omega) (by omega) c1)) ?_
    exact ro_zret hx hb hr hlocks dX1_hasRange_31
  · refine lv_iload_n hx hb dX1_hasRange_4 rfl (lv_at hl 2 rfl) ?_
    refine lv_if_lt (tgt := 30) hx hb dX1_hasRange_5 (by decide) (fun c2 => ?_) (fun c2 => ?_)
    · refine lv_iconst (v := nI (0)) hx hb dX1_hasRange_30 (by decide) ?_
      refine nv_cv (show nI (0) = bI (hasR n0 x y) from nv_f (by unfold hasR; first | exact hasR_t (by omega) (by omega) (by omega) | exact hasR_f0 c2 | exact hasR_f1 c2 | exact hasR_f2 (by omega) c2 c2 | exact hasR_f3 (by omega) (by omega) c2)) ?_
      exact ro_zret hx hb hr hlocks dX1_hasRange_31
    · refine lv_iload_n hx hb dX1_hasRange_8 rfl (lv_at hl 1 rfl) ?_
      refine lv_aload_n hx hb dX1_hasRange_9 rfl (lv_at hl 0 rfl) ?_
      refine va_get (D := D) (ci := 1) (v := .int (nI n0)) (C := RX1) (T := TX1) (N := 3) hx hb hts hinX1 hown hK hP 0 rfl rfl 2 (by decide) (hts (.fieldLink RX1 19 "OneShort$Sheet" "length" "I") (List.mem_of_getElem? (i := 1) rfl)) (fun _ h9 => h9) rfl dX1_hasRange_10 ?_
      refine lv_icmp_gt (tgt := 30) hx hb dX1_hasRange_13 (by decide) (fun c3 => ?_) (fun c3 => ?_)
      · refine lv_iconst (v := nI (0)) hx hb dX1_hasRange_30 (by decide) ?_
        refine nv_cv (show nI (0) = bI (hasR n0 x y) from nv_f (by unfold hasR; first | exact hasR_t (by omega) (by omega) (by omega) | exact hasR_f0 c3 | exact hasR_f1 c3 | exact hasR_f2 (by omega) c2 c3 | exact hasR_f3 (by omega) (by omega) c3)) ?_
        exact ro_zret hx hb hr hlocks dX1_hasRange_31
      · obtain ⟨xn, h_xn, rfl⟩ := in_ex (in_t3 (n := n0) (by omega) c1 (Int32.not_lt.mp c3)) (by omega)
        refine lv_iload_n hx hb dX1_hasRange_16 rfl (lv_at hl 2 rfl) ?_
        refine lv_aload_n hx hb dX1_hasRange_17 rfl (lv_at hl 0 rfl) ?_
        refine va_get (D := D) (ci := 1) (v := .int (nI n0)) (C := RX1) (T := TX1) (N := 3) hx hb hts hinX1 hown hK hP 0 rfl rfl 2 (by decide) (hts (.fieldLink RX1 19 "OneShort$Sheet" "length" "I") (List.mem_of_getElem? (i := 1) rfl)) (fun _ h9 => h9) rfl dX1_hasRange_18 ?_
        refine lv_iload_n hx hb dX1_hasRange_21 rfl (lv_at hl 1 rfl) ?_
        refine nv_isub hx hb (by omega) dX1_hasRange_22 ?_
        refine lv_icmp_gt (tgt := 30) hx hb dX1_hasRange_23 (by decide) (fun c4 => ?_) (fun c4 => ?_)
        · refine lv_iconst (v := nI (0)) hx hb dX1_hasRange_30 (by decide) ?_
          refine nv_cv (show nI (0) = bI (hasR n0 (nI xn) y) from nv_f (by unfold hasR; first | exact hasR_t (by omega) (by omega) (by omega) | exact hasR_f0 c4 | exact hasR_f1 c4 | exact hasR_f2 (by omega) c2 c4 | exact hasR_f3 (by omega) (by omega) c4)) ?_
          exact ro_zret hx hb hr hlocks dX1_hasRange_31
        · obtain ⟨yn, h_yn, rfl⟩ := in_ex (in_t3 (n := n0 - xn) (by omega) c2 (Int32.not_lt.mp c4)) (by omega)
          refine lv_iconst (v := nI (1)) hx hb dX1_hasRange_26 (by decide) ?_
          refine lv_goto (tgt := 31) hx hb dX1_hasRange_27 (by decide) ?_
          refine nv_cv (show nI (1) = bI (hasR n0 (nI xn) (nI yn)) from nv_t (by unfold hasR; first | exact hasR_t (by omega) (by omega) (by omega) | exact hasR_f0 c4 | exact hasR_f1 c4 | exact hasR_f2 (by omega) c2 c4 | exact hasR_f3 (by omega) (by omega) c4)) ?_
          exact ro_zret hx hb hr hlocks dX1_hasRange_31

set_option maxHeartbeats 4000000 in
set_option maxRecDepth 100000 in
/-- X1_begin -/
theorem c_X1_begin (l : Launch) (D : va_G) (ci : Nat → ClassId) (G : Nat → Prop) (ka : Nat) (a : Nat → Nat) (b0 n0 : Nat) (f0 : Nat → Int32) (hI : injA a 2) (hG : ∀ k, k < 2 → G (a k)) (bb nn : Nat) (h_b : bb < 64) (h_n : nn < 64) : Met l yX1_begin wsX1_begin ({ frames := 0, cells := 0, slots := 0, locals := 0 } : Room) (va_Pc [.ref (a 0), .int (nI bb), .int (nI nn)] (ro_B D (tyL ci) (wSh ci a b0 n0 f0) (en D (ci 0) G ka))) (mu_Q (aT a) (none) (fun H => va_P D vwCl (wSh ci a bb (if bb = 0 then 0 else nn) (fun _ => 0)) H)) 0 0 (aT a) := by
  refine mu_Met (cc := cX1_begin) (maxL := 4) (ret := none) [(0, .ref (a 0)), (1, .int (nI bb)), (2, .int (nI nn))] (wSh_D hI) (by decide) rfl (Nat.le_of_ble_eq_true rfl) rfl ?_
  intro p e s m below meth c H locs hx hb hml hr hlocks hts hown hP hK hs0 hD hS ls hl
  have hown : s.vm.findClass RX1 = some m.cls := hown
  have hinX1 : ∀ w ∈ wsX10, w ∈ wsX1_begin := by decide +kernel
  have hE := hE_en D (ci 0) G ka
  refine lv_aload_n hx hb dX1_begin_0 rfl (lv_at hl 0 rfl) ?_
  refine lv_iload_n hx hb dX1_begin_1 rfl (lv_at hl 1 rfl) ?_
  refine va_put (D := D) (ci := 1) (v := .int (nI bb)) (ty := .int) (C := RX1) (T := TX1) (N := 3) hx hb hts hinX1 tyX1 tyX1_ok nmX1 hown hK hP hD hS 0 rfl rfl 1 (by decide) (hts (.fieldLink RX1 15 "OneShort$Sheet" "bits" "I") (List.mem_of_getElem? (i := 1) rfl)) (fun _ h9 => h9) rfl (by decide +kernel) rfl rfl (Nat.le_of_ble_eq_true rfl) dX1_begin_2 (fun H locs hP hD hS => ?_)
  have hP := va_P.re (wSh_b ci a b0 n0 f0 (bb)) hP
  have hD := va_D.re (wSh_b ci a b0 n0 f0 (bb)) hD
  refine lv_aload_n hx hb dX1_begin_5 rfl (lv_at hl 0 rfl) ?_
  refine lv_iload_n hx hb dX1_begin_6 rfl (lv_at hl 1 rfl) ?_
  refine nv_ifne (tgt := 14) hx hb (by omega) dX1_begin_7 (by decide) (fun c1 => ?_) (fun c1 => ?_)
  · refine lv_iload_n hx hb dX1_begin_14 rfl (lv_at hl 2 rfl) ?_
    refine va_put (D := D) (ci := 1) (v := .int (nI nn)) (ty := .int) (C := RX1) (T := TX1) (N := 3) hx hb hts hinX1 tyX1 tyX1_ok nmX1 hown hK hP hD hS 0 rfl rfl 2 (by decide) (hts (.fieldLink RX1 19 "OneShort$Sheet" "length" "I") (List.mem_of_getElem? (i := 2) rfl)) (fun _ h9 => h9) rfl (by decide +kernel) rfl rfl (Nat.le_of_ble_eq_true rfl) dX1_begin_15 (fun H locs hP hD hS => ?_)
    have hP := va_P.re (wSh_n ci a bb n0 f0 (nn)) hP
    have hD := va_D.re (wSh_n ci a bb n0 f0 (nn)) hD
    refine lv_iconst (v := nI (0)) hx hb dX1_begin_18 (by decide) ?_
    refine lv_istore_n (lv' := [(3, .int (nI 0)), (0, .ref (a 0)), (1, .int (nI bb)), (2, .int (nI nn))]) hx hb dX1_begin_19 rfl hl (by decide) rfl (fun ls hl => ?_)
    have L20 : ∀ (k20 : Nat) (i : Nat) (f : Nat → Int32), 40 - i < k20 → (i ≤ 40) → (∀ j, j < i → f j = 0) → ∀ (x3 : Int32), x3 = nI (i) → ∀ (H : Heap) (locs : List Loc), va_P D vwCl (wSh ci a bb (if bb = 0 then 0 else nn) f) H → va_S (aT a) s.heap H locs → ∀ ls : Array Slot, lv_has ls 4 [(3, .int (x3)), (0, .ref (a 0)), (1, .int (nI bb)), (2, .int (nI nn))] → W p l e (headSpec wsX1_begin ({ frames := 0, cells := 0, slots := 0, locals := 0 } : Room)).room s m ([.ref (a 0), .int (nI bb), .int (nI nn)] : List Value).toArray below meth c H locs 0 0 (MQ below (mu_Q (aT a) (none) (fun H => va_P D vwCl (wSh ci a bb (if bb = 0 then 0 else nn) (fun _ => 0)) H)) ([.ref (a 0), .int (nI bb), .int (nI nn)] : List Value).toArray s 0 0 (aT a)) (F0 m 20 ls []) := by
      intro k20
      induction k20 with
      | zero => intro i f h0; exact absurd h0 (Nat.not_lt_zero _)
      | succ k20 ih20 =>
        intro i f hk20 h_i h_f x3 e3  H locs hP hS ls hl
        subst e3
        have hD : va_D (aT a) (wSh ci a bb (if bb = 0 then 0 else nn) f) := wSh_D hI
        refine lv_iload_n hx hb dX1_begin_20 rfl (lv_at hl 0 rfl) ?_
        refine lv_bipush (v := nI (40)) hx hb dX1_begin_21 (by decide) ?_
        refine nv_icmp_ge (tgt := 39) hx hb (by omega) (by omega) dX1_begin_23 (by decide) (fun c2 => ?_) (fun c2 => ?_)
        · exact mu_vret hx hb hr hlocks hS ((va_P.shf hP (fun j hj => h_f j (by omega)))) dX1_begin_39
        · refine lv_aload_n hx hb dX1_begin_26 rfl (lv_at hl 1 rfl) ?_
          refine va_get (D := D) (ci := 1) (v := .ref (a 1)) (C := RX1) (T := TX1) (N := 3) hx hb hts hinX1 hown hK hP 0 rfl rfl 0 (by decide) (hts (.fieldLink RX1 9 "OneShort$Sheet" "numbers" "[I") (List.mem_of_getElem? (i := 3) rfl)) (fun _ h9 => h9) rfl dX1_begin_27 ?_
          refine lv_iload_n hx hb dX1_begin_30 rfl (lv_at hl 0 rfl) ?_
          refine lv_iconst (v := nI (0)) hx hb dX1_begin_31 (by decide) ?_
          refine nv_iast hx hb hK hP hD hS 1 0 rfl rfl (by omega) (by decide) dX1_begin_32 (fun H locs hP hD hS => ?_)
          have hP := va_P.re (wSh_f ci a bb (if bb = 0 then 0 else nn) f (i) (nI (0))) hP
          have hD := va_D.re (wSh_f ci a bb (if bb = 0 then 0 else nn) f (i) (nI (0))) hD
          refine nv_iinc1 (lv' := [(3, .int (nI (i + 1))), (0, .ref (a 0)), (1, .int (nI bb)), (2, .int (nI nn))]) hx hb dX1_begin_33 hl (k := 0) rfl (by decide) rfl (fun ls hl => ?_)
          refine lv_goto (tgt := 20) hx hb dX1_begin_36 (by decide) ?_
          exact ih20 (i + 1) (upd f (i) (nI (0))) (by omega) (by omega) (upd_all (F := fun _ => 0) h_f rfl) (nI (i + 1)) rfl _ _ hP hS ls (lv_sub hl [0, 1, 2, 3] rfl)
    exact L20 _ (0) (f0) (Nat.lt_succ_self _) (by omega) (fun _ h => absurd h (Nat.not_lt_zero _)) (nI (0)) rfl _ _ (va_P.re (by first | rw [if_pos c1] | rw [if_neg c1]) hP) hS ls (lv_sub hl [0, 1, 2, 3] rfl)
  · refine lv_iconst (v := nI (0)) hx hb dX1_begin_10 (by decide) ?_
    refine lv_goto (tgt := 15) hx hb dX1_begin_11 (by decide) ?_
    refine va_put (D := D) (ci := 1) (v := .int (nI 0)) (ty := .int) (C := RX1) (T := TX1) (N := 3) hx hb hts hinX1 tyX1 tyX1_ok nmX1 hown hK hP hD hS 0 rfl rfl 2 (by decide) (hts (.fieldLink RX1 19 "OneShort$Sheet" "length" "I") (List.mem_of_getElem? (i := 2) rfl)) (fun _ h9 => h9) rfl (by decide +kernel) rfl rfl (Nat.le_of_ble_eq_true rfl) dX1_begin_15 (fun H locs hP hD hS => ?_)
    have hP := va_P.re (wSh_n ci a bb n0 f0 (0)) hP
    have hD := va_D.re (wSh_n ci a bb n0 f0 (0)) hD
    refine lv_iconst (v := nI (0)) hx hb dX1_begin_18 (by decide) ?_
    refine lv_istore_n (lv' := [(3, .int (nI 0)), (0, .ref (a 0)), (1, .int (nI bb)), (2, .int (nI nn))]) hx hb dX1_begin_19 rfl hl (by decide) rfl (fun ls hl => ?_)
    have L20 : ∀ (k20 : Nat) (i : Nat) (f : Nat → Int32), 40 - i < k20 → (i ≤ 40) → (∀ j, j < i → f j = 0) → ∀ (x3 : Int32), x3 = nI (i) → ∀ (H : Heap) (locs : List Loc), va_P D vwCl (wSh ci a bb (if bb = 0 then 0 else nn) f) H → va_S (aT a) s.heap H locs → ∀ ls : Array Slot, lv_has ls 4 [(3, .int (x3)), (0, .ref (a 0)), (1, .int (nI bb)), (2, .int (nI nn))] → W p l e (headSpec wsX1_begin ({ frames := 0, cells := 0, slots := 0, locals := 0 } : Room)).room s m ([.ref (a 0), .int (nI bb), .int (nI nn)] : List Value).toArray below meth c H locs 0 0 (MQ below (mu_Q (aT a) (none) (fun H => va_P D vwCl (wSh ci a bb (if bb = 0 then 0 else nn) (fun _ => 0)) H)) ([.ref (a 0), .int (nI bb), .int (nI nn)] : List Value).toArray s 0 0 (aT a)) (F0 m 20 ls []) := by
      intro k20
      induction k20 with
      | zero => intro i f h0; exact absurd h0 (Nat.not_lt_zero _)
      | succ k20 ih20 =>
        intro i f hk20 h_i h_f x3 e3  H locs hP hS ls hl
        subst e3
        have hD : va_D (aT a) (wSh ci a bb (if bb = 0 then 0 else nn) f) := wSh_D hI
        refine lv_iload_n hx hb dX1_begin_20 rfl (lv_at hl 0 rfl) ?_
        refine lv_bipush (v := nI (40)) hx hb dX1_begin_21 (by decide) ?_
        refine nv_icmp_ge (tgt := 39) hx hb (by omega) (by omega) dX1_begin_23 (by decide) (fun c3 => ?_) (fun c3 => ?_)
        · exact mu_vret hx hb hr hlocks hS ((va_P.shf hP (fun j hj => h_f j (by omega)))) dX1_begin_39
        · refine lv_aload_n hx hb dX1_begin_26 rfl (lv_at hl 1 rfl) ?_
          refine va_get (D := D) (ci := 1) (v := .ref (a 1)) (C := RX1) (T := TX1) (N := 3) hx hb hts hinX1 hown hK hP 0 rfl rfl 0 (by decide) (hts (.fieldLink RX1 9 "OneShort$Sheet" "numbers" "[I") (List.mem_of_getElem? (i := 3) rfl)) (fun _ h9 => h9) rfl dX1_begin_27 ?_
          refine lv_iload_n hx hb dX1_begin_30 rfl (lv_at hl 0 rfl) ?_
          refine lv_iconst (v := nI (0)) hx hb dX1_begin_31 (by decide) ?_
          refine nv_iast hx hb hK hP hD hS 1 0 rfl rfl (by omega) (by decide) dX1_begin_32 (fun H locs hP hD hS => ?_)
          have hP := va_P.re (wSh_f ci a bb (if bb = 0 then 0 else nn) f (i) (nI (0))) hP
          have hD := va_D.re (wSh_f ci a bb (if bb = 0 then 0 else nn) f (i) (nI (0))) hD
          refine nv_iinc1 (lv' := [(3, .int (nI (i + 1))), (0, .ref (a 0)), (1, .int (nI bb)), (2, .int (nI nn))]) hx hb dX1_begin_33 hl (k := 0) rfl (by decide) rfl (fun ls hl => ?_)
          refine lv_goto (tgt := 20) hx hb dX1_begin_36 (by decide) ?_
          exact ih20 (i + 1) (upd f (i) (nI (0))) (by omega) (by omega) (upd_all (F := fun _ => 0) h_f rfl) (nI (i + 1)) rfl _ _ hP hS ls (lv_sub hl [0, 1, 2, 3] rfl)
    exact L20 _ (0) (f0) (Nat.lt_succ_self _) (by omega) (fun _ h => absurd h (Nat.not_lt_zero _)) (nI (0)) rfl _ _ (va_P.re (by first | rw [if_pos c1] | rw [if_neg c1]) hP) hS ls (lv_sub hl [0, 1, 2, 3] rfl)

set_option maxHeartbeats 4000000 in
set_option maxRecDepth 100000 in
/-- X1_set -/
theorem c_X1_set (l : Launch) (D : va_G) (ci : Nat → ClassId) (G : Nat → Prop) (ka : Nat) (a : Nat → Nat) (b0 n0 : Nat) (f0 : Nat → Int32) (hI : injA a 2) (hG : ∀ k, k < 2 → G (a k)) (i : Nat) (v : Int32) (h_i : i < 40) (h_b : b0 < 64) : Met l yX1_set wsX1_set ({ frames := 0, cells := 0, slots := 0, locals := 0 } : Room) (va_Pc [.ref (a 0), .int (nI i), .int (v)] (ro_B D (tyL ci) (wSh ci a b0 n0 f0) (en D (ci 0) G ka))) (mu_Q (aT a) (none) (fun H => va_P D vwCl (wSh ci a b0 n0 (upd f0 i (cutN b0 v))) H)) 0 0 (aT a) := by
  refine mu_Met (cc := cX1_set) (maxL := 3) (ret := none) [(0, .ref (a 0)), (1, .int (nI i)), (2, .int (v))] (wSh_D hI) (by decide) rfl (Nat.le_of_ble_eq_true rfl) rfl ?_
  intro p e s m below meth c H locs hx hb hml hr hlocks hts hown hP hK hs0 hD hS ls hl
  have hown : s.vm.findClass RX1 = some m.cls := hown
  have hinX1 : ∀ w ∈ wsX10, w ∈ wsX1_set := by decide +kernel
  have hE := hE_en D (ci 0) G ka
  refine lv_aload_n hx hb dX1_set_0 rfl (lv_at hl 0 rfl) ?_
  refine va_get (D := D) (ci := 1) (v := .int (nI b0)) (C := RX1) (T := TX1) (N := 3) hx hb hts hinX1 hown hK hP 0 rfl rfl 1 (by decide) (hts (.fieldLink RX1 15 "OneShort$Sheet" "bits" "I") (List.mem_of_getElem? (i := 1) rfl)) (fun _ h9 => h9) rfl dX1_set_1 ?_
  refine lv_bipush (v := nI (8)) hx hb dX1_set_4 (by decide) ?_
  refine nv_icmp_ne (tgt := 20) hx hb (by omega) (by omega) dX1_set_6 (by decide) (fun c1 => ?_) (fun c1 => ?_)
  · refine lv_aload_n hx hb dX1_set_20 rfl (lv_at hl 0 rfl) ?_
    refine va_get (D := D) (ci := 1) (v := .int (nI b0)) (C := RX1) (T := TX1) (N := 3) hx hb hts hinX1 hown hK hP 0 rfl rfl 1 (by decide) (hts (.fieldLink RX1 15 "OneShort$Sheet" "bits" "I") (List.mem_of_getElem? (i := 1) rfl)) (fun _ h9 => h9) rfl dX1_set_21 ?_
    refine lv_bipush (v := nI (16)) hx hb dX1_set_24 (by decide) ?_
    refine nv_icmp_ne (tgt := 40) hx hb (by omega) (by omega) dX1_set_26 (by decide) (fun c2 => ?_) (fun c2 => ?_)
    · refine lv_aload_n hx hb dX1_set_40 rfl (lv_at hl 0 rfl) ?_
      refine va_get (D := D) (ci := 1) (v := .ref (a 1)) (C := RX1) (T := TX1) (N := 3) hx hb hts hinX1 hown hK hP 0 rfl rfl 0 (by decide) (hts (.fieldLink RX1 9 "OneShort$Sheet" "numbers" "[I") (List.mem_of_getElem? (i := 2) rfl)) (fun _ h9 => h9) rfl dX1_set_41 ?_
      refine lv_iload_n hx hb dX1_set_44 rfl (lv_at hl 1 rfl) ?_
      refine lv_iload_n hx hb dX1_set_45 rfl (lv_at hl 2 rfl) ?_
      refine nv_iast hx hb hK hP hD hS 1 0 rfl rfl (by omega) (by decide) dX1_set_46 (fun H locs hP hD hS => ?_)
      have hP := va_P.re (wSh_f ci a b0 n0 f0 (i) (v)) hP
      have hD := va_D.re (wSh_f ci a b0 n0 f0 (i) (v)) hD
      exact mu_vret hx hb hr hlocks hS ((va_P.re (congrArg (fun z => wSh ci a b0 n0 (upd f0 i z)) (by first | exact cut8 c2 | exact cut16 c1 c2 | exact cut32 c1 c2)) hP)) dX1_set_47
    · refine lv_aload_n hx hb dX1_set_29 rfl (lv_at hl 0 rfl) ?_
      refine va_get (D := D) (ci := 1) (v := .ref (a 1)) (C := RX1) (T := TX1) (N := 3) hx hb hts hinX1 hown hK hP 0 rfl rfl 0 (by decide) (hts (.fieldLink RX1 9 "OneShort$Sheet" "numbers" "[I") (List.mem_of_getElem? (i := 2) rfl)) (fun _ h9 => h9) rfl dX1_set_30 ?_
      refine lv_iload_n hx hb dX1_set_33 rfl (lv_at hl 1 rfl) ?_
      refine lv_iload_n hx hb dX1_set_34 rfl (lv_at hl 2 rfl) ?_
      refine lv_i2s hx hb dX1_set_35 rfl ?_
      refine nv_iast hx hb hK hP hD hS 1 0 rfl rfl (by omega) (by decide) dX1_set_36 (fun H locs hP hD hS => ?_)
      have hP := va_P.re (wSh_f ci a b0 n0 f0 (i) ((v).toInt16.toInt32)) hP
      have hD := va_D.re (wSh_f ci a b0 n0 f0 (i) ((v).toInt16.toInt32)) hD
      refine lv_goto (tgt := 47) hx hb dX1_set_37 (by decide) ?_
      exact mu_vret hx hb hr hlocks hS ((va_P.re (congrArg (fun z => wSh ci a b0 n0 (upd f0 i z)) (by first | exact cut8 c2 | exact cut16 c1 c2 | exact cut32 c1 c2)) hP)) dX1_set_47
  · refine lv_aload_n hx hb dX1_set_9 rfl (lv_at hl 0 rfl) ?_
    refine va_get (D := D) (ci := 1) (v := .ref (a 1)) (C := RX1) (T := TX1) (N := 3) hx hb hts hinX1 hown hK hP 0 rfl rfl 0 (by decide) (hts (.fieldLink RX1 9 "OneShort$Sheet" "numbers" "[I") (List.mem_of_getElem? (i := 2) rfl)) (fun _ h9 => h9) rfl dX1_set_10 ?_
    refine lv_iload_n hx hb dX1_set_13 rfl (lv_at hl 1 rfl) ?_
    refine lv_iload_n hx hb dX1_set_14 rfl (lv_at hl 2 rfl) ?_
    refine lv_i2b hx hb dX1_set_15 rfl ?_
    refine nv_iast hx hb hK hP hD hS 1 0 rfl rfl (by omega) (by decide) dX1_set_16 (fun H locs hP hD hS => ?_)
    have hP := va_P.re (wSh_f ci a b0 n0 f0 (i) ((v).toInt8.toInt32)) hP
    have hD := va_D.re (wSh_f ci a b0 n0 f0 (i) ((v).toInt8.toInt32)) hD
    refine lv_goto (tgt := 47) hx hb dX1_set_17 (by decide) ?_
    exact mu_vret hx hb hr hlocks hS ((va_P.re (congrArg (fun z => wSh ci a b0 n0 (upd f0 i z)) (by first | exact cut8 c1 | exact cut16 rfl c1 | exact cut32 rfl c1)) hP)) dX1_set_47
