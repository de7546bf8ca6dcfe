/-! walks laid by program -/
set_option maxHeartbeats 4000000 in
set_option maxRecDepth 100000 in
/-- X3_isBar -/
theorem c_X3_isBar (l : Launch) (D : va_G) (ci : Nat → ClassId) (G : Nat → Prop) (ka : Nat) (ad : Nat → Nat) (X : AS) (T : OS) (tq la tt : Nat → Int32) (z : Nat → Nat → Int32) (x : Int32) (hWX : WFX X) : Met l yX3_isBar wsX3_isBar ({ frames := 0, cells := 0, slots := 0, locals := 0 } : Room) (va_Pc [.ref (ad 0), .int (x)] (ro_B D (tyL ci) (wX ci ad X T tq la tt z) (en D (ci 0) G ka))) (ro_Q (some (.int (bI (inN x 12))))) 0 0 (fun _ => False) := by
  refine ro_Met (cc := cX3_isBar) (maxL := 2) (ret := (some .boolean)) [(0, .ref (ad 0)), (1, .int (x))] (by decide) rfl (Nat.le_of_ble_eq_true rfl) rfl ?_
  intro p e s m below meth c hx hb hml hr hlocks hts hown hP hK hs ls hl
  have hown : s.vm.findClass RX3 = some m.cls := hown
  have hE := hE_en D (ci 0) G ka
  have hWF := hWX.w
  have f_n := hWF.n
  have f_e := hWX.e
  have f_tl := hWX.t
  refine lv_iload_n hx hb dX3_isBar_0 rfl (lv_at hl 1 rfl) ?_
  refine lv_if_lt (tgt := 14) hx hb dX3_isBar_1 (by decide) (fun c1 => ?_) (fun c1 => ?_)
  · refine lv_iconst (v := nI (0)) hx hb dX3_isBar_14 (by decide) ?_
    refine nv_cv (show nI (0) = bI (inN x 12) from nv_f (by first | exact in_t (by decide) rfl c1 | exact in_f0 c1 | exact in_f1 (by decide) c1)) ?_
    exact ro_zret hx hb hr hlocks dX3_isBar_15
  · refine lv_iload_n hx hb dX3_isBar_4 rfl (lv_at hl 1 rfl) ?_
    refine lv_bipush (v := nI (12)) hx hb dX3_isBar_5 (by decide) ?_
    refine lv_icmp_ge (tgt := 14) hx hb dX3_isBar_7 (by decide) (fun c2 => ?_) (fun c2 => ?_)
    · refine lv_iconst (v := nI (0)) hx hb dX3_isBar_14 (by decide) ?_
      refine nv_cv (show nI (0) = bI (inN x 12) from nv_f (by first | exact in_t (by decide) c1 c2 | exact in_f0 c2 | exact in_f1 (by decide) c2)) ?_
      exact ro_zret hx hb hr hlocks dX3_isBar_15
    · refine lv_iconst (v := nI (1)) hx hb dX3_isBar_10 (by decide) ?_
      refine lv_goto (tgt := 15) hx hb dX3_isBar_11 (by decide) ?_
      refine nv_cv (show nI (1) = bI (inN x 12) from nv_t (by first | exact in_t (by decide) c1 c2 | exact in_f0 c2 | exact in_f1 (by decide) c2)) ?_
      exact ro_zret hx hb hr hlocks dX3_isBar_15

set_option maxHeartbeats 4000000 in
set_option maxRecDepth 100000 in
/-- X3_isSeat -/
theorem c_X3_isSeat (l : Launch) (D : va_G) (ci : Nat → ClassId) (G : Nat → Prop) (ka : Nat) (ad : Nat → Nat) (X : AS) (T : OS) (tq la tt : Nat → Int32) (z : Nat → Nat → Int32) (x : Int32) (hWX : WFX X) : Met l yX3_isSeat wsX3_isSeat ({ frames := 0, cells := 0, slots := 0, locals := 0 } : Room) (va_Pc [.ref (ad 0), .int (x)] (ro_B D (tyL ci) (wX ci ad X T tq la tt z) (en D (ci 0) G ka))) (ro_Q (some (.int (bI (inN x 16))))) 0 0 (fun _ => False) := by
  refine ro_Met (cc := cX3_isSeat) (maxL := 2) (ret := (some .boolean)) [(0, .ref (ad 0)), (1, .int (x))] (by decide) rfl (Nat.le_of_ble_eq_true rfl) rfl ?_
  intro p e s m below meth c hx hb hml hr hlocks hts hown hP hK hs ls hl
  have hown : s.vm.findClass RX3 = some m.cls := hown
  have hE := hE_en D (ci 0) G ka
  have hWF := hWX.w
  have f_n := hWF.n
  have f_e := hWX.e
  have f_tl := hWX.t
  refine lv_iload_n hx hb dX3_isSeat_0 rfl (lv_at hl 1 rfl) ?_
  refine lv_if_lt (tgt := 14) hx hb dX3_isSeat_1 (by decide) (fun c1 => ?_) (fun c1 => ?_)
  · refine lv_iconst (v := nI (0)) hx hb dX3_isSeat_14 (by decide) ?_
    refine nv_cv (show nI (0) = bI (inN x 16) from nv_f (by first | exact in_t (by decide) rfl c1 | exact in_f0 c1 | exact in_f1 (by decide) c1)) ?_
    exact ro_zret hx hb hr hlocks dX3_isSeat_15
  · refine lv_iload_n hx hb dX3_isSeat_4 rfl (lv_at hl 1 rfl) ?_
    refine lv_bipush (v := nI (16)) hx hb dX3_isSeat_5 (by decide) ?_
    refine lv_icmp_ge (tgt := 14) hx hb dX3_isSeat_7 (by decide) (fun c2 => ?_) (fun c2 => ?_)
    · refine lv_iconst (v := nI (0)) hx hb dX3_isSeat_14 (by decide) ?_
      refine nv_cv (show nI (0) = bI (inN x 16) from nv_f (by first | exact in_t (by decide) c1 c2 | exact in_f0 c2 | exact in_f1 (by decide) c2)) ?_
      exact ro_zret hx hb hr hlocks dX3_isSeat_15
    · refine lv_iconst (v := nI (1)) hx hb dX3_isSeat_10 (by decide) ?_
      refine lv_goto (tgt := 15) hx hb dX3_isSeat_11 (by decide) ?_
      refine nv_cv (show nI (1) = bI (inN x 16) from nv_t (by first | exact in_t (by decide) c1 c2 | exact in_f0 c2 | exact in_f1 (by decide) c2)) ?_
      exact ro_zret hx hb hr hlocks dX3_isSeat_15

set_option maxHeartbeats 4000000 in
set_option maxRecDepth 100000 in
/-- X3_isKind -/
theorem c_X3_isKind (l : Launch) (D : va_G) (ci : Nat → ClassId) (G : Nat → Prop) (ka : Nat) (ad : Nat → Nat) (X : AS) (T : OS) (tq la tt : Nat → Int32) (z : Nat → Nat → Int32) (x : Int32) (hWX : WFX X) : Met l yX3_isKind wsX3_isKind ({ frames := 0, cells := 0, slots := 0, locals := 0 } : Room) (va_Pc [.ref (ad 0), .int (x)] (ro_B D (tyL ci) (wX ci ad X T tq la tt z) (en D (ci 0) G ka))) (ro_Q (some (.int (bI (inN x 7))))) 0 0 (fun _ => False) := by
  refine ro_Met (cc := cX3_isKind) (maxL := 2) (ret := (some .boolean)) [(0, .ref (ad 0)), (1, .int (x))] (by decide) rfl (Nat.le_of_ble_eq_true rfl) rfl ?_
  intro p e s m below meth c hx hb hml hr hlocks hts hown hP hK hs ls hl
  have hown : s.vm.findClass RX3 = some m.cls := hown
  have hE := hE_en D (ci 0) G ka
  have hWF := hWX.w
  have f_n := hWF.n
  have f_e := hWX.e
  have f_tl := hWX.t
  refine lv_iload_n hx hb dX3_isKind_0 rfl (lv_at hl 1 rfl) ?_
  refine lv_if_lt (tgt := 14) hx hb dX3_isKind_1 (by decide) (fun c1 => ?_) (fun c1 => ?_)
  · refine lv_iconst (v := nI (0)) hx hb dX3_isKind_14 (by decide) ?_
    refine nv_cv (show nI (0) = bI (inN x 7) from nv_f (by first | exact in_t (by decide) rfl c1 | exact in_f0 c1 | exact in_f1 (by decide) c1)) ?_
    exact ro_zret hx hb hr hlocks dX3_isKind_15
  · refine lv_iload_n hx hb dX3_isKind_4 rfl (lv_at hl 1 rfl) ?_
    refine lv_bipush (v := nI (7)) hx hb dX3_isKind_5 (by decide) ?_
    refine lv_icmp_ge (tgt := 14) hx hb dX3_isKind_7 (by decide) (fun c2 => ?_) (fun c2 => ?_)
    · refine lv_iconst (v := nI (0)) hx hb dX3_isKind_14 (by decide) ?_
      refine nv_cv (show nI (0) = bI (inN x 7) from nv_f (by first | exact in_t (by decide) c1 c2 | exact in_f0 c2 | exact in_f1 (by decide) c2)) ?_
      exact ro_zret hx hb hr hlocks dX3_isKind_15
    · refine lv_iconst (v := nI (1)) hx hb dX3_isKind_10 (by decide) ?_
      refine lv_goto (tgt := 15) hx hb dX3_isKind_11 (by decide) ?_
      refine nv_cv (show nI (1) = bI (inN x 7) from nv_t (by first | exact in_t (by decide) c1 c2 | exact in_f0 c2 | exact in_f1 (by decide) c2)) ?_
      exact ro_zret hx hb hr hlocks dX3_isKind_15

set_option maxHeartbeats 4000000 in
set_option maxRecDepth 100000 in
/-- X3_isSpot -/
theorem c_X3_isSpot (l : Launch) (D : va_G) (ci : Nat → ClassId) (G : Nat → Prop) (ka : Nat) (ad : Nat → Nat) (X : AS) (T : OS) (tq la tt : Nat → Int32) (z : Nat → Nat → Int32) (x : Int32) (hWX : WFX X) : Met l yX3_isSpot wsX3_isSpot ({ frames := 0, cells := 0, slots := 0, locals := 0 } : Room) (va_Pc [.ref (ad 0), .int (x)] (ro_B D (tyL ci) (wX ci ad X T tq la tt z) (en D (ci 0) G ka))) (ro_Q (some (.int (bI (inN x 10))))) 0 0 (fun _ => False) := by
  refine ro_Met (cc := cX3_isSpot) (maxL := 2) (ret := (some .boolean)) [(0, .ref (ad 0)), (1, .int (x))] (by decide) rfl (Nat.le_of_ble_eq_true rfl) rfl ?_
  intro p e s m below meth c hx hb hml hr hlocks hts hown hP hK hs ls hl
  have hown : s.vm.findClass RX3 = some m.cls := hown
  have hE := hE_en D (ci 0) G ka
  have hWF := hWX.w
  have f_n := hWF.n
  have f_e := hWX.e
  have f_tl := hWX.t
  refine lv_iload_n hx hb dX3_isSpot_0 rfl (lv_at hl 1 rfl) ?_
  refine lv_if_lt (tgt := 14) hx hb dX3_isSpot_1 (by decide) (fun c1 => ?_) (fun c1 => ?_)
  · refine lv_iconst (v := nI (0)) hx hb dX3_isSpot_14 (by decide) ?_
    refine nv_cv (show nI (0) = bI (inN x 10) from nv_f (by first | exact in_t (by decide) rfl c1 | exact in_f0 c1 | exact in_f1 (by decide) c1)) ?_
    exact ro_zret hx hb hr hlocks dX3_isSpot_15
  · refine lv_iload_n hx hb dX3_isSpot_4 rfl (lv_at hl 1 rfl) ?_
    refine lv_bipush (v := nI (10)) hx hb dX3_isSpot_5 (by decide) ?_
    refine lv_icmp_ge (tgt := 14) hx hb dX3_isSpot_7 (by decide) (fun c2 => ?_) (fun c2 => ?_)
    · refine lv_iconst (v := nI (0)) hx hb dX3_isSpot_14 (by decide) ?_
      refine nv_cv (show nI (0) = bI (inN x 10) from nv_f (by first | exact in_t (by decide) c1 c2 | exact in_f0 c2 | exact in_f1 (by decide) c2)) ?_
      exact ro_zret hx hb hr hlocks dX3_isSpot_15
    · refine lv_iconst (v := nI (1)) hx hb dX3_isSpot_10 (by decide) ?_
      refine lv_goto (tgt := 15) hx hb dX3_isSpot_11 (by decide) ?_
      refine nv_cv (show nI (1) = bI (inN x 10) from nv_t (by first | exact in_t (by decide) c1 c2 | exact in_f0 c2 | exact in_f1 (by decide) c2)) ?_
      exact ro_zret hx hb hr hlocks dX3_isSpot_15

set_option maxHeartbeats 4000000 in
set_option maxRecDepth 100000 in
/-- X3_isSheet -/
theorem c_X3_isSheet (l : Launch) (D : va_G) (ci : Nat → ClassId) (G : Nat → Prop) (ka : Nat) (ad : Nat → Nat) (X : AS) (T : OS) (tq la tt : Nat → Int32) (z : Nat → Nat → Int32) (x : Int32) (hWX : WFX X) : Met l yX3_isSheet wsX3_isSheet ({ frames := 0, cells := 0, slots := 0, locals := 0 } : Room) (va_Pc [.ref (ad 0), .int (x)] (ro_B D (tyL ci) (wX ci ad X T tq la tt z) (en D (ci 0) G ka))) (ro_Q (some (.int (bI (inN x 4))))) 0 0 (fun _ => False) := by
  refine ro_Met (cc := cX3_isSheet) (maxL := 2) (ret := (some .boolean)) [(0, .ref (ad 0)), (1, .int (x))] (by decide) rfl (Nat.le_of_ble_eq_true rfl) rfl ?_
  intro p e s m below meth c hx hb hml hr hlocks hts hown hP hK hs ls hl
  have hown : s.vm.findClass RX3 = some m.cls := hown
  have hE := hE_en D (ci 0) G ka
  have hWF := hWX.w
  have f_n := hWF.n
  have f_e := hWX.e
  have f_tl := hWX.t
  refine lv_iload_n hx hb dX3_isSheet_0 rfl (lv_at hl 1 rfl) ?_
  refine lv_if_lt (tgt := 13) hx hb dX3_isSheet_1 (by decide) (fun c1 => ?_) (fun c1 => ?_)
  · refine lv_iconst (v := nI (0)) hx hb dX3_isSheet_13 (by decide) ?_
    refine nv_cv (show nI (0) = bI (inN x 4) from nv_f (by first | exact in_t (by decide) rfl c1 | exact in_f0 c1 | exact in_f1 (by decide) c1)) ?_
    exact ro_zret hx hb hr hlocks dX3_isSheet_14
  · refine lv_iload_n hx hb dX3_isSheet_4 rfl (lv_at hl 1 rfl) ?_
    refine lv_iconst (v := nI (4)) hx hb dX3_isSheet_5 (by decide) ?_
    refine lv_icmp_ge (tgt := 13) hx hb dX3_isSheet_6 (by decide) (fun c2 => ?_) (fun c2 => ?_)
    · refine lv_iconst (v := nI (0)) hx hb dX3_isSheet_13 (by decide) ?_
      refine nv_cv (show nI (0) = bI (inN x 4) from nv_f (by first | exact in_t (by decide) c1 c2 | exact in_f0 c2 | exact in_f1 (by decide) c2)) ?_
      exact ro_zret hx hb hr hlocks dX3_isSheet_14
    · refine lv_iconst (v := nI (1)) hx hb dX3_isSheet_9 (by decide) ?_
      refine lv_goto (tgt := 14) hx hb dX3_isSheet_10 (by decide) ?_
      refine nv_cv (show nI (1) = bI (inN x 4) from nv_t (by first | exact in_t (by decide) c1 c2 | exact in_f0 c2 | exact in_f1 (by decide) c2)) ?_
      exact ro_zret hx hb hr hlocks dX3_isSheet_14

set_option maxHeartbeats 4000000 in
set_option maxRecDepth 100000 in
/-- X3_isPlayer -/
theorem c_X3_isPlayer (l : Launch) (D : va_G) (ci : Nat → ClassId) (G : Nat → Prop) (ka : Nat) (ad : Nat → Nat) (X : AS) (T : OS) (tq la tt : Nat → Int32) (z : Nat → Nat → Int32) (x : Int32) (hWX : WFX X) : Met l yX3_isPlayer wsX3_isPlayer ({ frames := 0, cells := 0, slots := 0, locals := 0 } : Room) (va_Pc [.ref (ad 0), .int (x)] (ro_B D (tyL ci) (wX ci ad X T tq la tt z) (en D (ci 0) G ka))) (ro_Q (some (.int (bI (inN x (X.1 7 0)))))) 0 0 (fun _ => False) := by
  refine ro_Met (cc := cX3_isPlayer) (maxL := 2) (ret := (some .boolean)) [(0, .ref (ad 0)), (1, .int (x))] (by decide) rfl (Nat.le_of_ble_eq_true rfl) rfl ?_
  intro p e s m below meth c hx hb hml hr hlocks hts hown hP hK hs ls hl
  have hown : s.vm.findClass RX3 = some m.cls := hown
  have hinX0 : ∀ w ∈ wsX00, w ∈ wsX3_isPlayer := by decide +kernel
  have hinX3 : ∀ w ∈ wsX30, w ∈ wsX3_isPlayer := by decide +kernel
  have hE := hE_en D (ci 0) G ka
  have hWF := hWX.w
  have f_n := hWF.n
  have f_e := hWX.e
  have f_tl := hWX.t
  refine lv_iload_n hx hb dX3_isPlayer_0 rfl (lv_at hl 1 rfl) ?_
  refine lv_if_lt (tgt := 19) hx hb dX3_isPlayer_1 (by decide) (fun c1 => ?_) (fun c1 => ?_)
  · refine lv_iconst (v := nI (0)) hx hb dX3_isPlayer_19 (by decide) ?_
    refine nv_cv (show nI (0) = bI (inN x (X.1 7 0)) from nv_f (by first | exact in_t (by omega) rfl c1 | exact in_f0 c1 | exact in_f1 (by omega) c1)) ?_
    exact ro_zret hx hb hr hlocks dX3_isPlayer_20
  · refine lv_iload_n hx hb dX3_isPlayer_4 rfl (lv_at hl 1 rfl) ?_
    refine lv_aload_n hx hb dX3_isPlayer_5 rfl (lv_at hl 0 rfl) ?_
    refine va_get (D := D) (ci := 3) (v := .ref (ad 5)) (C := RX3) (T := TX3) (N := 9) hx hb hts hinX3 hown hK hP 0 rfl rfl 0 (by decide) (hts (.fieldLink RX3 10 "OneShort" "orchestra" "LOneShort$Orchestra;") (List.mem_of_getElem? (i := 1) rfl)) (fun _ h9 => h9) rfl dX3_isPlayer_6 ?_
    refine va_get (D := D) (ci := 0) (v := .int (nI (X.1 7 0))) (C := RX0) (T := TX0) (N := 13) hx hb hts hinX0 hown hK hP 5 rfl rfl 7 (by decide) (hts (.fieldLink RX3 73 "OneShort$Orchestra" "size" "I") (List.mem_of_getElem? (i := 2) rfl)) (fun _ h9 => h9) rfl dX3_isPlayer_9 ?_
    refine lv_icmp_ge (tgt := 19) hx hb dX3_isPlayer_12 (by decide) (fun c2 => ?_) (fun c2 => ?_)
    · refine lv_iconst (v := nI (0)) hx hb dX3_isPlayer_19 (by decide) ?_
      refine nv_cv (show nI (0) = bI (inN x (X.1 7 0)) from nv_f (by first | exact in_t (by omega) c1 c2 | exact in_f0 c2 | exact in_f1 (by omega) c2)) ?_
      exact ro_zret hx hb hr hlocks dX3_isPlayer_20
    · refine lv_iconst (v := nI (1)) hx hb dX3_isPlayer_15 (by decide) ?_
      refine lv_goto (tgt := 20) hx hb dX3_isPlayer_16 (by decide) ?_
      refine nv_cv (show nI (1) = bI (inN x (X.1 7 0)) from nv_t (by first | exact in_t (by omega) c1 c2 | exact in_f0 c2 | exact in_f1 (by omega) c2)) ?_
      exact ro_zret hx hb hr hlocks dX3_isPlayer_20

set_option maxHeartbeats 4000000 in
set_option maxRecDepth 100000 in
/-- X3_isPair -/
theorem c_X3_isPair (l : Launch) (D : va_G) (ci : Nat → ClassId) (G : Nat → Prop) (ka : Nat) (ad : Nat → Nat) (X : AS) (T : OS) (tq la tt : Nat → Int32) (z : Nat → Nat → Int32) (x y : Int32) (hWX : WFX X) : Met l yX3_isPair wsX3_isPair ({ frames := 1, cells := 0, slots := 0, locals := 21 } : Room) (va_Pc [.ref (ad 0), .int (x), .int (y)] (ro_B D (tyL ci) (wX ci ad X T tq la tt z) (en D (ci 0) G ka))) (ro_Q (some (.int (bI (pairB X x y))))) 0 0 (fun _ => False) := by
  refine ro_Met (cc := cX3_isPair) (maxL := 3) (ret := (some .boolean)) [(0, .ref (ad 0)), (1, .int (x)), (2, .int (y))] (by decide) rfl (Nat.le_of_ble_eq_true rfl) rfl ?_
  intro p e s m below meth c hx hb hml hr hlocks hts hown hP hK hs ls hl
  have hown : s.vm.findClass RX3 = some m.cls := hown
  have hE := hE_en D (ci 0) G ka
  have hWF := hWX.w
  have f_n := hWF.n
  have f_e := hWX.e
  have f_tl := hWX.t
  refine lv_aload_n hx hb dX3_isPair_0 rfl (lv_at hl 0 rfl) ?_
  refine lv_iload_n hx hb dX3_isPair_1 rfl (lv_at hl 1 rfl) ?_
  refine ro_V (n := 1) (As := [.int (x)]) (rest := []) ⟨hx, hb, hml, hown, hts⟩ (c_X3_isPlayer l D ci G ka ad X T tq la tt z (x) hWX) gX3_isPair_X3_isPlayer rfl ⟨rfl, rfl⟩ (by decide +kernel) rfl ⟨Nat.le_of_ble_eq_true rfl, Nat.le_of_ble_eq_true rfl⟩ hE hs hK hP (ci := 3) (q0 := 0) rfl rfl hl.1 rfl (Nat.le_of_ble_eq_true rfl) dX3_isPair_2 ⟨Nat.zero_le _, Nat.zero_le _⟩ ?_
  refine nv_ifeq_b (tgt := 25) hx hb dX3_isPair_5 (by decide) (fun c1 => ?_) (fun c1 => ?_)
  · refine lv_iconst (v := nI (0)) hx hb dX3_isPair_25 (by decide) ?_
    refine nv_cv (show nI (0) = bI (pairB X x y) from nv_f (by simp [pairB, c1])) ?_
    exact ro_zret hx hb hr hlocks dX3_isPair_26
  · refine lv_aload_n hx hb dX3_isPair_8 rfl (lv_at hl 0 rfl) ?_
    refine lv_iload_n hx hb dX3_isPair_9 rfl (lv_at hl 2 rfl) ?_
    refine ro_V (n := 1) (As := [.int (y)]) (rest := []) ⟨hx, hb, hml, hown, hts⟩ (c_X3_isPlayer l D ci G ka ad X T tq la tt z (y) hWX) gX3_isPair_X3_isPlayer rfl ⟨rfl, rfl⟩ (by decide +kernel) rfl ⟨Nat.le_of_ble_eq_true rfl, Nat.le_of_ble_eq_true rfl⟩ hE hs hK hP (ci := 3) (q0 := 0) rfl rfl hl.1 rfl (Nat.le_of_ble_eq_true rfl) dX3_isPair_10 ⟨Nat.zero_le _, Nat.zero_le _⟩ ?_
    refine nv_ifeq_b (tgt := 25) hx hb dX3_isPair_13 (by decide) (fun c2 => ?_) (fun c2 => ?_)
    · refine lv_iconst (v := nI (0)) hx hb dX3_isPair_25 (by decide) ?_
      refine nv_cv (show nI (0) = bI (pairB X x y) from nv_f (by simp [pairB, c1, c2])) ?_
      exact ro_zret hx hb hr hlocks dX3_isPair_26
    · refine lv_iload_n hx hb dX3_isPair_16 rfl (lv_at hl 1 rfl) ?_
      refine lv_iload_n hx hb dX3_isPair_17 rfl (lv_at hl 2 rfl) ?_
      refine lv_icmp_eq (tgt := 25) hx hb dX3_isPair_18 (by decide) (fun c3 => ?_) (fun c3 => ?_)
      · refine lv_iconst (v := nI (0)) hx hb dX3_isPair_25 (by decide) ?_
        refine nv_cv (show nI (0) = bI (pairB X x y) from nv_f (by simp [pairB, c1, c2, c3])) ?_
        exact ro_zret hx hb hr hlocks dX3_isPair_26
      · refine lv_iconst (v := nI (1)) hx hb dX3_isPair_21 (by decide) ?_
        refine lv_goto (tgt := 26) hx hb dX3_isPair_22 (by decide) ?_
        refine nv_cv (show nI (1) = bI (pairB X x y) from nv_t (by simp [pairB, c1, c2, c3])) ?_
        exact ro_zret hx hb hr hlocks dX3_isPair_26

set_option maxHeartbeats 4000000 in
set_option maxRecDepth 100000 in
/-- X3_finding -/
theorem c_X3_finding (l : Launch) (D : va_G) (ci : Nat → ClassId) (G : Nat → Prop) (ka : Nat) (ad : Nat → Nat) (X : AS) (T : OS) (tq la tt : Nat → Int32) (z : Nat → Nat → Int32) (hI : injA ad 48) (hG : ∀ k, k < 48 → G (ad k)) (k : Nat) (hWX : WFX X) (h_k : k < 7) : Met l yX3_finding wsX3_finding ({ frames := 0, cells := 0, slots := 0, locals := 0 } : Room) (va_Pc [.ref (ad 0), .int (nI k)] (ro_B D (tyL ci) (wX ci ad X T tq la tt z) (en D (ci 0) G ka))) (mu_Q (aX ad) (some (.int (fnd k))) (fun H => ∃ T tq la tt z, va_P D vwCl (wX ci ad (toF X (inc X.2.2.2.1 k)) T tq la tt z) H)) 0 0 (aX ad) := by
  refine mu_Met (cc := cX3_finding) (maxL := 2) (ret := (some .int)) [(0, .ref (ad 0)), (1, .int (nI k))] (wX_D hI) (by decide) rfl (Nat.le_of_ble_eq_true rfl) rfl ?_
  intro p e s m below meth c H locs hx hb hml hr hlocks hts hown hP hK hs0 hD hS ls hl
  have hown : s.vm.findClass RX3 = some m.cls := hown
  have hinX3 : ∀ w ∈ wsX30, w ∈ wsX3_finding := by decide +kernel
  have hE := hE_en D (ci 0) G ka
  have hWF := hWX.w
  have f_n := hWF.n
  have f_e := hWX.e
  have f_tl := hWX.t
  have hGA := aX_G hG
  have hWK := hWX.k
  refine lv_aload_n hx hb dX3_finding_0 rfl (lv_at hl 0 rfl) ?_
  refine va_get (D := D) (ci := 3) (v := .ref (ad 2)) (C := RX3) (T := TX3) (N := 9) hx hb hts hinX3 hown hK hP 0 rfl rfl 6 (by decide) (hts (.fieldLink RX3 39 "OneShort" "findings" "[I") (List.mem_of_getElem? (i := 1) rfl)) (fun _ h9 => h9) rfl dX3_finding_1 ?_
  refine lv_iload_n hx hb dX3_finding_4 rfl (lv_at hl 1 rfl) ?_
  refine lv_dup2_11 hx hb dX3_finding_5 rfl rfl ?_
  refine nv_iald (v := nI (X.2.2.2.1 (k))) hx hb hK hP 2 0 rfl rfl (by omega) (by decide) rfl dX3_finding_6 ?_
  refine lv_iconst (v := nI (1)) hx hb dX3_finding_7 (by decide) ?_
  refine nv_iadd hx hb dX3_finding_8 ?_
  refine nv_iast hx hb hK hP hD hS 2 0 rfl rfl (by omega) (by decide) dX3_finding_9 (fun H locs hP hD hS => ?_)
  have hP : va_P D vwCl (wX ci ad (toF X (inc X.2.2.2.1 (k))) T tq la tt z) H := va_P.re (wX_fd ci ad X T tq la tt z (k)) hP
  have hD : va_D (aX ad) (wX ci ad (toF X (inc X.2.2.2.1 (k))) T tq la tt z) := wX_D hI
  refine lv_ldc (v := -1000001) hx hb hown (hts (.constant RX3 249 (-1000001)) (List.mem_of_getElem? (i := 2) rfl)) dX3_finding_10 ?_
  refine lv_iload_n hx hb dX3_finding_12 rfl (lv_at hl 1 rfl) ?_
  refine lv_isub hx hb dX3_finding_13 ?_
  refine nv_cv (show (-1000001 - nI (k)) = fnd k from rfl) ?_
  exact mu_iret hx hb hr hlocks hS (⟨_, _, _, _, _, hP⟩) dX3_finding_14
