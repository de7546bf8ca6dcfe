/-! walks laid by program -/
set_option maxHeartbeats 4000000 in
set_option maxRecDepth 100000 in
/-- X3_lackOf -/
theorem c_X3_lackOf (l : Launch) (D : va_G) (ci : Nat → ClassId) (G : Nat → Prop) (ka : Nat) (ad : Nat → Nat) (X : AS) (T : OS) (tq la tt : Nat → Int32) (z : Nat → Nat → Int32) (s_ : Int32) (hWX : WFX X) : Met l yX3_lackOf wsX3_lackOf ({ frames := 1, cells := 0, slots := 0, locals := 21 } : Room) (va_Pc [.ref (ad 0), .int (s_)] (ro_B D (tyL ci) (wX ci ad X T tq la tt z) (en D (ci 0) G ka))) (ro_Q (some (.int (lk (lackN X s_))))) 0 0 (fun _ => False) := by
  refine ro_Met (cc := cX3_lackOf) (maxL := 2) (ret := (some .int)) [(0, .ref (ad 0)), (1, .int (s_))] (by decide) rfl (Nat.le_of_ble_eq_true rfl) rfl ?_
  intro p e s m below meth c hx hb hml hr hlocks hts hown hP hK hs ls hl
  have hown : s.vm.findClass RX3 = some m.cls := hown
  have hinX3 : ∀ w ∈ wsX30, w ∈ wsX3_lackOf := by decide +kernel
  have hE := hE_en D (ci 0) G ka
  have hWF := hWX.w
  have f_n := hWF.n
  have f_e := hWX.e
  have f_tl := hWX.t
  refine lv_aload_n hx hb dX3_lackOf_0 rfl (lv_at hl 0 rfl) ?_
  refine lv_iload_n hx hb dX3_lackOf_1 rfl (lv_at hl 1 rfl) ?_
  refine ro_V (n := 1) (As := [.int (s_)]) (rest := []) ⟨hx, hb, hml, hown, hts⟩ (c_X3_isSheet l D ci G ka ad X T tq la tt z (s_) hWX) gX3_lackOf_X3_isSheet rfl ⟨rfl, rfl⟩ (by decide +kernel) rfl ⟨Nat.le_of_ble_eq_true rfl, Nat.le_of_ble_eq_true rfl⟩ hE hs hK hP (ci := 3) (q0 := 0) rfl rfl hl.1 rfl (Nat.le_of_ble_eq_true rfl) dX3_lackOf_2 ⟨Nat.zero_le _, Nat.zero_le _⟩ ?_
  refine nv_ifne_b (tgt := 10) hx hb dX3_lackOf_5 (by decide) (fun c1 => ?_) (fun c1 => ?_)
  · obtain ⟨s_n, h_s_n, rfl⟩ := in_ex c1 (by omega)
    have t_s_n : tn (nI s_n) = s_n := tn_nI (by omega)
    have f2 := hWX.sl s_n
    have f3 := sb_lt hWX s_n
    refine lv_aload_n hx hb dX3_lackOf_10 rfl (lv_at hl 0 rfl) ?_
    refine va_get (D := D) (ci := 3) (v := .ref (ad 1)) (C := RX3) (T := TX3) (N := 9) hx hb hts hinX3 hown hK hP 0 rfl rfl 5 (by decide) (hts (.fieldLink RX3 35 "OneShort" "sheets" "[LOneShort$Sheet;") (List.mem_of_getElem? (i := 1) rfl)) (fun _ h9 => h9) rfl dX3_lackOf_11 ?_
    refine lv_iload_n hx hb dX3_lackOf_14 rfl (lv_at hl 1 rfl) ?_
    refine nv_aald (v := .ref (ad (40 + 2 * (s_n)))) hx hb hK hP 1 1 rfl rfl (by omega) (by decide) rfl dX3_lackOf_15 ?_
    refine ro_V (n := 0) (As := []) (rest := []) ⟨hx, hb, hml, hown, hts⟩ (c_X1_isMissing l D ci G ka (sh ad (40 + 2 * (s_n))) (X.2.2.2.2.2.2.1 (s_n)) (X.2.2.2.2.2.2.2.1 (s_n)) (X.2.2.2.2.2.2.2.2 (s_n))  (by omega)) gX3_lackOf_X1_isMissing rfl ⟨rfl, rfl⟩ (by decide +kernel) rfl ⟨Nat.le_of_ble_eq_true rfl, Nat.le_of_ble_eq_true rfl⟩ hE hs hK (wX_sh (k := s_n) (by omega) hP) (ci := 1) (q0 := 0) rfl rfl hl.1 rfl (Nat.le_of_ble_eq_true rfl) dX3_lackOf_16 ⟨Nat.zero_le _, Nat.zero_le _⟩ ?_
    refine nv_ifeq_b (tgt := 26) hx hb dX3_lackOf_19 (by decide) (fun c4 => ?_) (fun c4 => ?_)
    · have d5 := of_decide_eq_false c4
      refine lv_iconst (v := -1) hx hb dX3_lackOf_26 (by decide) ?_
      refine nv_cv (show -1 = lk (lackN X (nI s_n)) from by first | (simp [lackN, lk, c1, c4, t_s_n, d5]; done)) ?_
      exact ro_iret hx hb hr hlocks dX3_lackOf_27
    · have d6 := of_decide_eq_true c4
      refine lv_iconst (v := nI (5)) hx hb dX3_lackOf_22 (by decide) ?_
      refine lv_goto (tgt := 27) hx hb dX3_lackOf_23 (by decide) ?_
      refine nv_cv (show nI (5) = lk (lackN X (nI s_n)) from by first | (simp [lackN, lk, c1, c4, t_s_n, d6]; done)) ?_
      exact ro_iret hx hb hr hlocks dX3_lackOf_27
  · refine lv_iconst (v := nI (0)) hx hb dX3_lackOf_8 (by decide) ?_
    refine nv_cv (show nI (0) = lk (lackN X s_) from by first | (simp [lackN, lk, c1]; done)) ?_
    exact ro_iret hx hb hr hlocks dX3_lackOf_9
