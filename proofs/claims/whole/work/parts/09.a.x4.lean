/-! walks laid by program -/
set_option maxHeartbeats 4000000 in
set_option maxRecDepth 100000 in
/-- X4_within -/
theorem c_X4_within (l : Launch) (D : va_G) (ci : Nat → ClassId) (wc : va_W) (v lo hi : Int32)  : Met l yX4_within wsX4_within ({ frames := 0, cells := 0, slots := 0, locals := 0 } : Room) (va_Pc [.int (v), .int (lo), .int (hi)] (ro_B D (tyL ci) wc (enT))) (ro_Q (some (.int (bI (wth v lo hi))))) 0 0 (fun _ => False) := by
  refine ro_Met (cc := cX4_within) (maxL := 3) (ret := (some .boolean)) [(0, .int (v)), (1, .int (lo)), (2, .int (hi))] (by decide) rfl (Nat.le_of_ble_eq_true rfl) rfl ?_
  intro p e s m below meth c hx hb hml hr hlocks hts hown hP hK hs ls hl
  have hown : s.vm.findClass RX4 = some m.cls := hown
  have hE := hE_T
  refine lv_iload_n hx hb dX4_within_0 rfl (lv_at hl 0 rfl) ?_
  refine lv_iload_n hx hb dX4_within_1 rfl (lv_at hl 1 rfl) ?_
  refine lv_icmp_lt (tgt := 14) hx hb dX4_within_2 (by decide) (fun c1 => ?_) (fun c1 => ?_)
  · refine lv_iconst (v := nI (0)) hx hb dX4_within_14 (by decide) ?_
    refine nv_cv (show nI (0) = bI (wth v lo hi) from nv_f (by first | exact wth_t rfl c1 | exact wth_f0 c1 | exact wth_f1 c1)) ?_
    exact ro_zret hx hb hr hlocks dX4_within_15
  · refine lv_iload_n hx hb dX4_within_5 rfl (lv_at hl 0 rfl) ?_
    refine lv_iload_n hx hb dX4_within_6 rfl (lv_at hl 2 rfl) ?_
    refine lv_icmp_gt (tgt := 14) hx hb dX4_within_7 (by decide) (fun c2 => ?_) (fun c2 => ?_)
    · refine lv_iconst (v := nI (0)) hx hb dX4_within_14 (by decide) ?_
      refine nv_cv (show nI (0) = bI (wth v lo hi) from nv_f (by first | exact wth_t c1 c2 | exact wth_f0 c2 | exact wth_f1 c2)) ?_
      exact ro_zret hx hb hr hlocks dX4_within_15
    · refine lv_iconst (v := nI (1)) hx hb dX4_within_10 (by decide) ?_
      refine lv_goto (tgt := 15) hx hb dX4_within_11 (by decide) ?_
      refine nv_cv (show nI (1) = bI (wth v lo hi) from nv_t (by first | exact wth_t c1 c2 | exact wth_f0 c2 | exact wth_f1 c2)) ?_
      exact ro_zret hx hb hr hlocks dX4_within_15

set_option maxHeartbeats 4000000 in
set_option maxRecDepth 100000 in
/-- X4_isBar -/
theorem c_X4_isBar (l : Launch) (D : va_G) (ci : Nat → ClassId) (wc : va_W) (x : Int32)  : Met l yX4_isBar wsX4_isBar ({ frames := 1, cells := 0, slots := 0, locals := 22 } : Room) (va_Pc [.int (x)] (ro_B D (tyL ci) wc (enT))) (ro_Q (some (.int (bI (inN x 12))))) 0 0 (fun _ => False) := by
  refine ro_Met (cc := cX4_isBar) (maxL := 1) (ret := (some .boolean)) [(0, .int (x))] (by decide) rfl (Nat.le_of_ble_eq_true rfl) rfl ?_
  intro p e s m below meth c hx hb hml hr hlocks hts hown hP hK hs ls hl
  have hown : s.vm.findClass RX4 = some m.cls := hown
  have hE := hE_T
  refine lv_iload_n hx hb dX4_isBar_0 rfl (lv_at hl 0 rfl) ?_
  refine lv_iconst (v := nI (0)) hx hb dX4_isBar_1 (by decide) ?_
  refine lv_bipush (v := nI (11)) hx hb dX4_isBar_2 (by decide) ?_
  refine ro_S (n := 3) (As := [.int (x), .int (nI 0), .int (nI 11)]) (rest := []) ⟨hx, hb, hml, hown, hts⟩ (c_X4_within l D ci wc (x) (nI (0)) (nI (11)) ) gX4_isBar_X4_within rfl ⟨rfl, rfl⟩ (by decide +kernel) rfl ⟨Nat.le_of_ble_eq_true rfl, Nat.le_of_ble_eq_true rfl⟩ hE hs hK hP hl.1 rfl (Nat.le_of_ble_eq_true rfl) dX4_isBar_4 ⟨Nat.zero_le _, Nat.zero_le _⟩ ?_
  refine nv_cv (congrArg bI (wth_in x 11 (by decide))) ?_
  exact ro_zret hx hb hr hlocks dX4_isBar_7

set_option maxHeartbeats 4000000 in
set_option maxRecDepth 100000 in
/-- X4_isSeat -/
theorem c_X4_isSeat (l : Launch) (D : va_G) (ci : Nat → ClassId) (wc : va_W) (x : Int32)  : Met l yX4_isSeat wsX4_isSeat ({ frames := 1, cells := 0, slots := 0, locals := 22 } : Room) (va_Pc [.int (x)] (ro_B D (tyL ci) wc (enT))) (ro_Q (some (.int (bI (inN x 16))))) 0 0 (fun _ => False) := by
  refine ro_Met (cc := cX4_isSeat) (maxL := 1) (ret := (some .boolean)) [(0, .int (x))] (by decide) rfl (Nat.le_of_ble_eq_true rfl) rfl ?_
  intro p e s m below meth c hx hb hml hr hlocks hts hown hP hK hs ls hl
  have hown : s.vm.findClass RX4 = some m.cls := hown
  have hE := hE_T
  refine lv_iload_n hx hb dX4_isSeat_0 rfl (lv_at hl 0 rfl) ?_
  refine lv_iconst (v := nI (0)) hx hb dX4_isSeat_1 (by decide) ?_
  refine lv_bipush (v := nI (15)) hx hb dX4_isSeat_2 (by decide) ?_
  refine ro_S (n := 3) (As := [.int (x), .int (nI 0), .int (nI 15)]) (rest := []) ⟨hx, hb, hml, hown, hts⟩ (c_X4_within l D ci wc (x) (nI (0)) (nI (15)) ) gX4_isSeat_X4_within rfl ⟨rfl, rfl⟩ (by decide +kernel) rfl ⟨Nat.le_of_ble_eq_true rfl, Nat.le_of_ble_eq_true rfl⟩ hE hs hK hP hl.1 rfl (Nat.le_of_ble_eq_true rfl) dX4_isSeat_4 ⟨Nat.zero_le _, Nat.zero_le _⟩ ?_
  refine nv_cv (congrArg bI (wth_in x 15 (by decide))) ?_
  exact ro_zret hx hb hr hlocks dX4_isSeat_7

set_option maxHeartbeats 4000000 in
set_option maxRecDepth 100000 in
/-- X4_isKind -/
theorem c_X4_isKind (l : Launch) (D : va_G) (ci : Nat → ClassId) (wc : va_W) (x : Int32)  : Met l yX4_isKind wsX4_isKind ({ frames := 1, cells := 0, slots := 0, locals := 22 } : Room) (va_Pc [.int (x)] (ro_B D (tyL ci) wc (enT))) (ro_Q (some (.int (bI (inN x 7))))) 0 0 (fun _ => False) := by
  refine ro_Met (cc := cX4_isKind) (maxL := 1) (ret := (some .boolean)) [(0, .int (x))] (by decide) rfl (Nat.le_of_ble_eq_true rfl) rfl ?_
  intro p e s m below meth c hx hb hml hr hlocks hts hown hP hK hs ls hl
  have hown : s.vm.findClass RX4 = some m.cls := hown
  have hE := hE_T
  refine lv_iload_n hx hb dX4_isKind_0 rfl (lv_at hl 0 rfl) ?_
  refine lv_iconst (v := nI (0)) hx hb dX4_isKind_1 (by decide) ?_
  refine lv_bipush (v := nI (6)) hx hb dX4_isKind_2 (by decide) ?_
  refine ro_S (n := 3) (As := [.int (x), .int (nI 0), .int (nI 6)]) (rest := []) ⟨hx, hb, hml, hown, hts⟩ (c_X4_within l D ci wc (x) (nI (0)) (nI (6)) ) gX4_isKind_X4_within rfl ⟨rfl, rfl⟩ (by decide +kernel) rfl ⟨Nat.le_of_ble_eq_true rfl, Nat.le_of_ble_eq_true rfl⟩ hE hs hK hP hl.1 rfl (Nat.le_of_ble_eq_true rfl) dX4_isKind_4 ⟨Nat.zero_le _, Nat.zero_le _⟩ ?_
  refine nv_cv (congrArg bI (wth_in x 6 (by decide))) ?_
  exact ro_zret hx hb hr hlocks dX4_isKind_7

set_option maxHeartbeats 4000000 in
set_option maxRecDepth 100000 in
/-- X4_areParts -/
theorem c_X4_areParts (l : Launch) (D : va_G) (ci : Nat → ClassId) (wc : va_W) (x : Int32)  : Met l yX4_areParts wsX4_areParts ({ frames := 1, cells := 0, slots := 0, locals := 22 } : Room) (va_Pc [.int (x)] (ro_B D (tyL ci) wc (enT))) (ro_Q (some (.int (bI (inN x 64))))) 0 0 (fun _ => False) := by
  refine ro_Met (cc := cX4_areParts) (maxL := 1) (ret := (some .boolean)) [(0, .int (x))] (by decide) rfl (Nat.le_of_ble_eq_true rfl) rfl ?_
  intro p e s m below meth c hx hb hml hr hlocks hts hown hP hK hs ls hl
  have hown : s.vm.findClass RX4 = some m.cls := hown
  have hE := hE_T
  refine lv_iload_n hx hb dX4_areParts_0 rfl (lv_at hl 0 rfl) ?_
  refine lv_iconst (v := nI (0)) hx hb dX4_areParts_1 (by decide) ?_
  refine lv_bipush (v := nI (63)) hx hb dX4_areParts_2 (by decide) ?_
  refine ro_S (n := 3) (As := [.int (x), .int (nI 0), .int (nI 63)]) (rest := []) ⟨hx, hb, hml, hown, hts⟩ (c_X4_within l D ci wc (x) (nI (0)) (nI (63)) ) gX4_areParts_X4_within rfl ⟨rfl, rfl⟩ (by decide +kernel) rfl ⟨Nat.le_of_ble_eq_true rfl, Nat.le_of_ble_eq_true rfl⟩ hE hs hK hP hl.1 rfl (Nat.le_of_ble_eq_true rfl) dX4_areParts_4 ⟨Nat.zero_le _, Nat.zero_le _⟩ ?_
  refine nv_cv (congrArg bI (wth_in x 63 (by decide))) ?_
  exact ro_zret hx hb hr hlocks dX4_areParts_7

set_option maxHeartbeats 4000000 in
set_option maxRecDepth 100000 in
/-- X4_isSpot -/
theorem c_X4_isSpot (l : Launch) (D : va_G) (ci : Nat → ClassId) (wc : va_W) (x : Int32)  : Met l yX4_isSpot wsX4_isSpot ({ frames := 1, cells := 0, slots := 0, locals := 22 } : Room) (va_Pc [.int (x)] (ro_B D (tyL ci) wc (enT))) (ro_Q (some (.int (bI (inN x 10))))) 0 0 (fun _ => False) := by
  refine ro_Met (cc := cX4_isSpot) (maxL := 1) (ret := (some .boolean)) [(0, .int (x))] (by decide) rfl (Nat.le_of_ble_eq_true rfl) rfl ?_
  intro p e s m below meth c hx hb hml hr hlocks hts hown hP hK hs ls hl
  have hown : s.vm.findClass RX4 = some m.cls := hown
  have hE := hE_T
  refine lv_iload_n hx hb dX4_isSpot_0 rfl (lv_at hl 0 rfl) ?_
  refine lv_iconst (v := nI (0)) hx hb dX4_isSpot_1 (by decide) ?_
  refine lv_bipush (v := nI (9)) hx hb dX4_isSpot_2 (by decide) ?_
  refine ro_S (n := 3) (As := [.int (x), .int (nI 0), .int (nI 9)]) (rest := []) ⟨hx, hb, hml, hown, hts⟩ (c_X4_within l D ci wc (x) (nI (0)) (nI (9)) ) gX4_isSpot_X4_within rfl ⟨rfl, rfl⟩ (by decide +kernel) rfl ⟨Nat.le_of_ble_eq_true rfl, Nat.le_of_ble_eq_true rfl⟩ hE hs hK hP hl.1 rfl (Nat.le_of_ble_eq_true rfl) dX4_isSpot_4 ⟨Nat.zero_le _, Nat.zero_le _⟩ ?_
  refine nv_cv (congrArg bI (wth_in x 9 (by decide))) ?_
  exact ro_zret hx hb hr hlocks dX4_isSpot_7

set_option maxHeartbeats 4000000 in
set_option maxRecDepth 100000 in
/-- X4_isSheet -/
theorem c_X4_isSheet (l : Launch) (D : va_G) (ci : Nat → ClassId) (wc : va_W) (x : Int32)  : Met l yX4_isSheet wsX4_isSheet ({ frames := 1, cells := 0, slots := 0, locals := 22 } : Room) (va_Pc [.int (x)] (ro_B D (tyL ci) wc (enT))) (ro_Q (some (.int (bI (inN x 4))))) 0 0 (fun _ => False) := by
  refine ro_Met (cc := cX4_isSheet) (maxL := 1) (ret := (some .boolean)) [(0, .int (x))] (by decide) rfl (Nat.le_of_ble_eq_true rfl) rfl ?_
  intro p e s m below meth c hx hb hml hr hlocks hts hown hP hK hs ls hl
  have hown : s.vm.findClass RX4 = some m.cls := hown
  have hE := hE_T
  refine lv_iload_n hx hb dX4_isSheet_0 rfl (lv_at hl 0 rfl) ?_
  refine lv_iconst (v := nI (0)) hx hb dX4_isSheet_1 (by decide) ?_
  refine lv_iconst (v := nI (3)) hx hb dX4_isSheet_2 (by decide) ?_
  refine ro_S (n := 3) (As := [.int (x), .int (nI 0), .int (nI 3)]) (rest := []) ⟨hx, hb, hml, hown, hts⟩ (c_X4_within l D ci wc (x) (nI (0)) (nI (3)) ) gX4_isSheet_X4_within rfl ⟨rfl, rfl⟩ (by decide +kernel) rfl ⟨Nat.le_of_ble_eq_true rfl, Nat.le_of_ble_eq_true rfl⟩ hE hs hK hP hl.1 rfl (Nat.le_of_ble_eq_true rfl) dX4_isSheet_3 ⟨Nat.zero_le _, Nat.zero_le _⟩ ?_
  refine nv_cv (congrArg bI (wth_in x 3 (by decide))) ?_
  exact ro_zret hx hb hr hlocks dX4_isSheet_6

set_option maxHeartbeats 4000000 in
set_option maxRecDepth 100000 in
/-- X4_has -/
theorem c_X4_has (l : Launch) (D : va_G) (ci : Nat → ClassId) (wc : va_W) (t k : Nat) (h_t : t < 2147483648) (h_k : k < 32) : Met l yX4_has wsX4_has ({ frames := 0, cells := 0, slots := 0, locals := 0 } : Room) (va_Pc [.int (nI t), .int (nI k)] (ro_B D (tyL ci) wc (enT))) (ro_Q (some (.int (bI (t.testBit k))))) 0 0 (fun _ => False) := by
  refine ro_Met (cc := cX4_has) (maxL := 2) (ret := (some .boolean)) [(0, .int (nI t)), (1, .int (nI k))] (by decide) rfl (Nat.le_of_ble_eq_true rfl) rfl ?_
  intro p e s m below meth c hx hb hml hr hlocks hts hown hP hK hs ls hl
  have hown : s.vm.findClass RX4 = some m.cls := hown
  have hE := hE_T
  refine lv_iload_n hx hb dX4_has_0 rfl (lv_at hl 0 rfl) ?_
  refine lv_iload_n hx hb dX4_has_1 rfl (lv_at hl 1 rfl) ?_
  refine nv_ishr hx hb (by omega) (by omega) dX4_has_2 ?_
  refine lv_iconst (v := nI (1)) hx hb dX4_has_3 (by decide) ?_
  refine nv_iand hx hb dX4_has_4 ?_
  have f1 : ((t / 2 ^ (k)) &&& 1) ≤ 1 := Nat.and_le_right
  have f2 : ((t / 2 ^ (k)) &&& 1) ≤ (t / 2 ^ (k)) := Nat.and_le_left
  refine lv_iconst (v := nI (1)) hx hb dX4_has_5 (by decide) ?_
  refine nv_icmp_ne (tgt := 13) hx hb (by omega) (by omega) dX4_has_6 (by decide) (fun c3 => ?_) (fun c3 => ?_)
  · refine lv_iconst (v := nI (0)) hx hb dX4_has_13 (by decide) ?_
    refine nv_cv (show nI (0) = bI (t.testBit k) from nv_f (by first | exact bit_t (by omega) | exact bit_f (by omega))) ?_
    exact ro_zret hx hb hr hlocks dX4_has_14
  · refine lv_iconst (v := nI (1)) hx hb dX4_has_9 (by decide) ?_
    refine lv_goto (tgt := 14) hx hb dX4_has_10 (by decide) ?_
    refine nv_cv (show nI (1) = bI (t.testBit k) from nv_t (by first | exact bit_t (by omega) | exact bit_f (by omega))) ?_
    exact ro_zret hx hb hr hlocks dX4_has_14

set_option maxHeartbeats 4000000 in
set_option maxRecDepth 100000 in
/-- X4_at -/
theorem c_X4_at (l : Launch) (D : va_G) (ci : Nat → ClassId) (wc : va_W) (p0 f : Nat)  : Met l yX4_at wsX4_at ({ frames := 0, cells := 0, slots := 0, locals := 0 } : Room) (va_Pc [.int (nI p0), .int (nI f)] (ro_B D (tyL ci) wc (enT))) (ro_Q (some (.int (nI (25 + 5 * p0 + f))))) 0 0 (fun _ => False) := by
  refine ro_Met (cc := cX4_at) (maxL := 2) (ret := (some .int)) [(0, .int (nI p0)), (1, .int (nI f))] (by decide) rfl (Nat.le_of_ble_eq_true rfl) rfl ?_
  intro p e s m below meth c hx hb hml hr hlocks hts hown hP hK hs ls hl
  have hown : s.vm.findClass RX4 = some m.cls := hown
  have hE := hE_T
  refine lv_bipush (v := nI (25)) hx hb dX4_at_0 (by decide) ?_
  refine lv_iconst (v := nI (5)) hx hb dX4_at_2 (by decide) ?_
  refine lv_iload_n hx hb dX4_at_3 rfl (lv_at hl 0 rfl) ?_
  refine nv_imul hx hb dX4_at_4 ?_
  refine nv_iadd hx hb dX4_at_5 ?_
  refine lv_iload_n hx hb dX4_at_6 rfl (lv_at hl 1 rfl) ?_
  refine nv_iadd hx hb dX4_at_7 ?_
  refine nv_cv (show nI (((25 + (5 * p0)) + f)) = nI (25 + 5 * p0 + f) from nv_e (rfl)) ?_
  exact ro_iret hx hb hr hlocks dX4_at_8

set_option maxHeartbeats 4000000 in
set_option maxRecDepth 100000 in
/-- X4_playerIs -/
theorem c_X4_playerIs (l : Launch) (D : va_G) (ci : Nat → ClassId) (am : Nat → Nat) (X : AS) (kr : Nat → Int32) (q0 q1 q2 q3 q4 q5 : Int32) (iw : Bool) (kn : Nat → Option Nat) (y0 y1 y2 y3 y4 y5 y6 : Nat → Int32) (p0 f : Nat) (hWF : WF X.1) (h_p : p0 < 8) (h_f : f < 5) : Met l yX4_playerIs wsX4_playerIs ({ frames := 1, cells := 0, slots := 0, locals := 21 } : Room) (va_Pc [.ref (am 0), .int (nI p0), .int (nI f)] (ro_B D (tyL ci) (wN ci am X kr q0 q1 q2 q3 q4 q5 iw kn y0 y1 y2 y3 y4 y5 y6) (enT))) (ro_Q (some (.int (nI (X.1 (f + 1) p0))))) 0 0 (fun _ => False) := by
  refine ro_Met (cc := cX4_playerIs) (maxL := 3) (ret := (some .int)) [(0, .ref (am 0)), (1, .int (nI p0)), (2, .int (nI f))] (by decide) rfl (Nat.le_of_ble_eq_true rfl) rfl ?_
  intro p e s m below meth c hx hb hml hr hlocks hts hown hP hK hs ls hl
  have hown : s.vm.findClass RX4 = some m.cls := hown
  have hinX4 : ∀ w ∈ wsX40, w ∈ wsX4_playerIs := by decide +kernel
  have hE := hE_T
  have f_n := hWF.n
  refine lv_aload_n hx hb dX4_playerIs_0 rfl (lv_at hl 0 rfl) ?_
  refine va_get (D := D) (ci := 4) (v := .ref (am 1)) (C := RX4) (T := TX4) (N := 24) hx hb hts hinX4 hown hK hP 0 rfl rfl 0 (by decide) (hts (.fieldLink RX4 9 "OneShortModel" "now" "[I") (List.mem_of_getElem? (i := 1) rfl)) (fun _ h9 => h9) rfl dX4_playerIs_1 ?_
  refine lv_iload_n hx hb dX4_playerIs_4 rfl (lv_at hl 1 rfl) ?_
  refine lv_iload_n hx hb dX4_playerIs_5 rfl (lv_at hl 2 rfl) ?_
  refine ro_S (n := 2) (As := [.int (nI p0), .int (nI f)]) (rest := [.ref (am 1)]) ⟨hx, hb, hml, hown, hts⟩ (c_X4_at l D ci (wN ci am X kr q0 q1 q2 q3 q4 q5 iw kn y0 y1 y2 y3 y4 y5 y6) (p0) (f) ) gX4_playerIs_X4_at rfl ⟨rfl, rfl⟩ (by decide +kernel) rfl ⟨Nat.le_of_ble_eq_true rfl, Nat.le_of_ble_eq_true rfl⟩ hE hs hK hP hl.1 rfl (Nat.le_of_ble_eq_true rfl) dX4_playerIs_6 ⟨Nat.zero_le _, Nat.zero_le _⟩ ?_
  refine nv_iald (v := nI (X.1 (f + 1) p0)) hx hb hK hP 1 0 rfl rfl (by omega) (by decide) (pk_f X.1 p0 (by omega)) dX4_playerIs_9 ?_
  exact ro_iret hx hb hr hlocks dX4_playerIs_10
