/-! walks laid by program -/
set_option maxHeartbeats 4000000 in
set_option maxRecDepth 100000 in
/-- X2_append -/
theorem c_X2_append (l : Launch) (D : va_G) (ci : Nat → ClassId) (G : Nat → Prop) (ka : Nat) (a : Nat → Nat) (tl : Nat) (tb : Nat → Nat) (tq : Nat → Int32) (hI : injA a 2) (hG : ∀ k, k < 2 → G (a k)) (v : Nat) (h_l : tl < 120) : Met l yX2_append wsX2_append ({ frames := 0, cells := 0, slots := 0, locals := 0 } : Room) (va_Pc [.ref (a 0), .int (nI v)] (ro_B D (tyL ci) (wTp ci a tl tb tq) (en D (ci 0) G ka))) (mu_Q (aT a) (none) (fun H => va_P D vwCl (wTp ci a (tl + 1) (updF tb tl v) tq) H)) 0 0 (aT a) := by
  refine mu_Met (cc := cX2_append) (maxL := 2) (ret := none) [(0, .ref (a 0)), (1, .int (nI v))] (wTp_D hI) (by decide) rfl (Nat.le_of_ble_eq_true rfl) rfl ?_
  intro p e s m below meth c H locs hx hb hml hr hlocks hts hown hP hK hs0 hD hS ls hl
  have hown : s.vm.findClass RX2 = some m.cls := hown
  have hinX2 : ∀ w ∈ wsX20, w ∈ wsX2_append := by decide +kernel
  have hE := hE_en D (ci 0) G ka
  refine lv_aload_n hx hb dX2_append_0 rfl (lv_at hl 0 rfl) ?_
  refine va_get (D := D) (ci := 2) (v := .int (nI tl)) (C := RX2) (T := TX2) (N := 6) hx hb hts hinX2 hown hK hP 0 rfl rfl 0 (by decide) (hts (.fieldLink RX2 9 "OneShort$Tape" "length" "I") (List.mem_of_getElem? (i := 1) rfl)) (fun _ h9 => h9) rfl dX2_append_1 ?_
  refine lv_bipush (v := nI (120)) hx hb dX2_append_4 (by decide) ?_
  refine nv_icmp_ge (tgt := 29) hx hb (by omega) (by omega) dX2_append_6 (by decide) (fun c1 => ?_) (fun c1 => ?_)
  · exact absurd h_l (by omega)
  · refine lv_aload_n hx hb dX2_append_9 rfl (lv_at hl 0 rfl) ?_
    refine va_get (D := D) (ci := 2) (v := .ref (a 1)) (C := RX2) (T := TX2) (N := 6) hx hb hts hinX2 hown hK hP 0 rfl rfl 1 (by decide) (hts (.fieldLink RX2 15 "OneShort$Tape" "bytes" "[I") (List.mem_of_getElem? (i := 2) rfl)) (fun _ h9 => h9) rfl dX2_append_10 ?_
    refine lv_aload_n hx hb dX2_append_13 rfl (lv_at hl 0 rfl) ?_
    refine va_get (D := D) (ci := 2) (v := .int (nI tl)) (C := RX2) (T := TX2) (N := 6) hx hb hts hinX2 hown hK hP 0 rfl rfl 0 (by decide) (hts (.fieldLink RX2 9 "OneShort$Tape" "length" "I") (List.mem_of_getElem? (i := 1) rfl)) (fun _ h9 => h9) rfl dX2_append_14 ?_
    refine lv_iload_n hx hb dX2_append_17 rfl (lv_at hl 1 rfl) ?_
    refine nv_iast hx hb hK hP hD hS 1 0 rfl rfl (by omega) (by decide) dX2_append_18 (fun H locs hP hD hS => ?_)
    have hP := va_P.re (wTp_b ci a tl tb tq (tl) (v)) hP
    have hD := va_D.re (wTp_b ci a tl tb tq (tl) (v)) hD
    refine lv_aload_n hx hb dX2_append_19 rfl (lv_at hl 0 rfl) ?_
    refine lv_dup hx hb dX2_append_20 rfl ?_
    refine va_get (D := D) (ci := 2) (v := .int (nI tl)) (C := RX2) (T := TX2) (N := 6) hx hb hts hinX2 hown hK hP 0 rfl rfl 0 (by decide) (hts (.fieldLink RX2 9 "OneShort$Tape" "length" "I") (List.mem_of_getElem? (i := 1) rfl)) (fun _ h9 => h9) rfl dX2_append_21 ?_
    refine lv_iconst (v := nI (1)) hx hb dX2_append_24 (by decide) ?_
    refine nv_iadd hx hb dX2_append_25 ?_
    refine va_put (D := D) (ci := 2) (v := .int (nI ((tl + 1)))) (ty := .int) (C := RX2) (T := TX2) (N := 6) hx hb hts hinX2 tyX2 tyX2_ok nmX2 hown hK hP hD hS 0 rfl rfl 0 (by decide) (hts (.fieldLink RX2 9 "OneShort$Tape" "length" "I") (List.mem_of_getElem? (i := 1) rfl)) (fun _ h9 => h9) rfl (by decide +kernel) rfl rfl (Nat.le_of_ble_eq_true rfl) dX2_append_26 (fun H locs hP hD hS => ?_)
    have hP := va_P.re (wTp_l ci a tl (updF tb (tl) (v)) tq ((tl + 1))) hP
    have hD := va_D.re (wTp_l ci a tl (updF tb (tl) (v)) tq ((tl + 1))) hD
    exact mu_vret hx hb hr hlocks hS (hP) dX2_append_29
