/-! walks laid by program -/
set_option maxHeartbeats 4000000 in
set_option maxRecDepth 100000 in
/-- X4_item -/
theorem c_X4_item (l : Launch) (D : va_G) (ci : Nat → ClassId) (am : Nat → Nat) (X : AS) (kr : Nat → Int32) (q0 q1 q2 q3 q4 q5 : Int32) (iw : Bool) (kn : Nat → Option Nat) (y0 y1 y2 y3 y4 y5 y6 : Nat → Int32) (hI : injA am 16) (G : Nat → Prop) (adK adV : Nat → Nat) (fx : Nat) (mm : Nat) (i0 i1 i2 i3 i4 : Int32) (hGA : ∀ q, aM am q → G q) (h_kn : ∀ j, j < 7 → kn j = some (adK j)) (h_tl : X.2.2.2.2.1 ≤ 120) (h_tb : ∀ k, X.2.2.2.2.2.1 k < 256) (h_m : mm < 120) : Met l yX4_item wsX4_item ({ frames := 0, cells := 0, slots := 0, locals := 0 } : Room) (va_Pc [.ref (am 0), .int (i0), .int (i1), .int (i2), .int (i3), .int (i4)] (ro_B D (tyL ci) (wN ci am X kr q0 q1 q2 q3 (nI (mm)) q5 iw kn y0 y1 y2 y3 y4 y5 y6) (enW G adK adV fx rfX))) (mu_Q (aM am) (none) (fun H => va_P D vwCl (wN ci am X kr q0 q1 q2 q3 (nI ((mm + 1))) q5 iw kn y0 y1 y2 y3 y4 (itU y5 mm i0 i1 i2 i3 i4) y6) H)) 0 0 (aM am) := by
  refine mu_Met (cc := cX4_item) (maxL := 7) (ret := none) [(0, .ref (am 0)), (1, .int (i0)), (2, .int (i1)), (3, .int (i2)), (4, .int (i3)), (5, .int (i4))] (wN_D hI) (by decide) rfl (Nat.le_of_ble_eq_true rfl) rfl ?_
  intro p e s m below meth c H locs hx hb hml hr hlocks hts hown hP hK hs0 hD hS ls hl
  have hown : s.vm.findClass RX4 = some m.cls := hown
  have hinX4 : ∀ w ∈ wsX40, w ∈ wsX4_item := by decide +kernel
  have hE := hE_W G adK adV fx rfX
  refine lv_iconst (v := nI (5)) hx hb dX4_item_0 (by decide) ?_
  refine lv_aload_n hx hb dX4_item_1 rfl (lv_at hl 0 rfl) ?_
  refine va_get (D := D) (ci := 4) (v := .int (nI mm)) (C := RX4) (T := TX4) (N := 24) hx hb hts hinX4 hown hK hP 0 rfl rfl 18 (by decide) (hts (.fieldLink RX4 283 "OneShortModel" "itemMany" "I") (List.mem_of_getElem? (i := 1) rfl)) (fun _ h9 => h9) rfl dX4_item_2 ?_
  refine nv_imul hx hb dX4_item_5 ?_
  refine lv_istore (lv' := [(6, .int (nI ((5 * mm)))), (0, .ref (am 0)), (1, .int (i0)), (2, .int (i1)), (3, .int (i2)), (4, .int (i3)), (5, .int (i4))]) hx hb dX4_item_6 hl (by decide) rfl (fun ls hl => ?_)
  refine lv_aload_n hx hb dX4_item_8 rfl (lv_at hl 1 rfl) ?_
  refine va_get (D := D) (ci := 4) (v := .ref (am 11)) (C := RX4) (T := TX4) (N := 24) hx hb hts hinX4 hown hK hP 0 rfl rfl 17 (by decide) (hts (.fieldLink RX4 57 "OneShortModel" "items" "[I") (List.mem_of_getElem? (i := 2) rfl)) (fun _ h9 => h9) rfl dX4_item_9 ?_
  refine lv_iload hx hb dX4_item_12 (lv_at hl 0 rfl) ?_
  refine lv_iload_n hx hb dX4_item_14 rfl (lv_at hl 2 rfl) ?_
  refine nv_iast hx hb hK hP hD hS 11 0 rfl rfl (by omega) (by decide) dX4_item_15 (fun H locs hP hD hS => ?_)
  have hP : va_P D vwCl (wN ci am X kr q0 q1 q2 q3 (nI (mm)) q5 iw kn y0 y1 y2 y3 y4 (upd y5 ((5 * mm)) (i0)) y6) H := va_P.re (wN_y5 ci am X kr q0 q1 q2 q3 (nI (mm)) q5 iw kn y0 y1 y2 y3 y4 y5 y6 ((5 * mm)) (i0)) hP
  have hD : va_D (aM am) (wN ci am X kr q0 q1 q2 q3 (nI (mm)) q5 iw kn y0 y1 y2 y3 y4 (upd y5 ((5 * mm)) (i0)) y6) := wN_D hI
  refine lv_aload_n hx hb dX4_item_16 rfl (lv_at hl 1 rfl) ?_
  refine va_get (D := D) (ci := 4) (v := .ref (am 11)) (C := RX4) (T := TX4) (N := 24) hx hb hts hinX4 hown hK hP 0 rfl rfl 17 (by decide) (hts (.fieldLink RX4 57 "OneShortModel" "items" "[I") (List.mem_of_getElem? (i := 2) rfl)) (fun _ h9 => h9) rfl dX4_item_17 ?_
  refine lv_iload hx hb dX4_item_20 (lv_at hl 0 rfl) ?_
  refine lv_iconst (v := nI (1)) hx hb dX4_item_22 (by decide) ?_
  refine nv_iadd hx hb dX4_item_23 ?_
  refine lv_iload_n hx hb dX4_item_24 rfl (lv_at hl 3 rfl) ?_
  refine nv_iast hx hb hK hP hD hS 11 0 rfl rfl (by omega) (by decide) dX4_item_25 (fun H locs hP hD hS => ?_)
  have hP : va_P D vwCl (wN ci am X kr q0 q1 q2 q3 (nI (mm)) q5 iw kn y0 y1 y2 y3 y4 (upd (upd y5 ((5 * mm)) (i0)) (((5 * mm) + 1)) (i1)) y6) H := va_P.re (wN_y5 ci am X kr q0 q1 q2 q3 (nI (mm)) q5 iw kn y0 y1 y2 y3 y4 (upd y5 ((5 * mm)) (i0)) y6 (((5 * mm) + 1)) (i1)) hP
  have hD : va_D (aM am) (wN ci am X kr q0 q1 q2 q3 (nI (mm)) q5 iw kn y0 y1 y2 y3 y4 (upd (upd y5 ((5 * mm)) (i0)) (((5 * mm) + 1)) (i1)) y6) := wN_D hI
  refine lv_aload_n hx hb dX4_item_26 rfl (lv_at hl 1 rfl) ?_
  refine va_get (D := D) (ci := 4) (v := .ref (am 11)) (C := RX4) (T := TX4) (N := 24) hx hb hts hinX4 hown hK hP 0 rfl rfl 17 (by decide) (hts (.fieldLink RX4 57 "OneShortModel" "items" "[I") (List.mem_of_getElem? (i := 2) rfl)) (fun _ h9 => h9) rfl dX4_item_27 ?_
  refine lv_iload hx hb dX4_item_30 (lv_at hl 0 rfl) ?_
  refine lv_iconst (v := nI (2)) hx hb dX4_item_32 (by decide) ?_
  refine nv_iadd hx hb dX4_item_33 ?_
  refine lv_iload_n hx hb dX4_item_34 rfl (lv_at hl 4 rfl) ?_
  refine nv_iast hx hb hK hP hD hS 11 0 rfl rfl (by omega) (by decide) dX4_item_35 (fun H locs hP hD hS => ?_)
  have hP : va_P D vwCl (wN ci am X kr q0 q1 q2 q3 (nI (mm)) q5 iw kn y0 y1 y2 y3 y4 (upd (upd (upd y5 ((5 * mm)) (i0)) (((5 * mm) + 1)) (i1)) (((5 * mm) + 2)) (i2)) y6) H := va_P.re (wN_y5 ci am X kr q0 q1 q2 q3 (nI (mm)) q5 iw kn y0 y1 y2 y3 y4 (upd (upd y5 ((5 * mm)) (i0)) (((5 * mm) + 1)) (i1)) y6 (((5 * mm) + 2)) (i2)) hP
  have hD : va_D (aM am) (wN ci am X kr q0 q1 q2 q3 (nI (mm)) q5 iw kn y0 y1 y2 y3 y4 (upd (upd (upd y5 ((5 * mm)) (i0)) (((5 * mm) + 1)) (i1)) (((5 * mm) + 2)) (i2)) y6) := wN_D hI
  refine lv_aload_n hx hb dX4_item_36 rfl (lv_at hl 1 rfl) ?_
  refine va_get (D := D) (ci := 4) (v := .ref (am 11)) (C := RX4) (T := TX4) (N := 24) hx hb hts hinX4 hown hK hP 0 rfl rfl 17 (by decide) (hts (.fieldLink RX4 57 "OneShortModel" "items" "[I") (List.mem_of_getElem? (i := 2) rfl)) (fun _ h9 => h9) rfl dX4_item_37 ?_
  refine lv_iload hx hb dX4_item_40 (lv_at hl 0 rfl) ?_
  refine lv_iconst (v := nI (3)) hx hb dX4_item_42 (by decide) ?_
  refine nv_iadd hx hb dX4_item_43 ?_
  refine lv_iload hx hb dX4_item_44 (lv_at hl 5 rfl) ?_
  refine nv_iast hx hb hK hP hD hS 11 0 rfl rfl (by omega) (by decide) dX4_item_46 (fun H locs hP hD hS => ?_)
  have hP : va_P D vwCl (wN ci am X kr q0 q1 q2 q3 (nI (mm)) q5 iw kn y0 y1 y2 y3 y4 (upd (upd (upd (upd y5 ((5 * mm)) (i0)) (((5 * mm) + 1)) (i1)) (((5 * mm) + 2)) (i2)) (((5 * mm) + 3)) (i3)) y6) H := va_P.re (wN_y5 ci am X kr q0 q1 q2 q3 (nI (mm)) q5 iw kn y0 y1 y2 y3 y4 (upd (upd (upd y5 ((5 * mm)) (i0)) (((5 * mm) + 1)) (i1)) (((5 * mm) + 2)) (i2)) y6 (((5 * mm) + 3)) (i3)) hP
  have hD : va_D (aM am) (wN ci am X kr q0 q1 q2 q3 (nI (mm)) q5 iw kn y0 y1 y2 y3 y4 (upd (upd (upd (upd y5 ((5 * mm)) (i0)) (((5 * mm) + 1)) (i1)) (((5 * mm) + 2)) (i2)) (((5 * mm) + 3)) (i3)) y6) := wN_D hI
  refine lv_aload_n hx hb dX4_item_47 rfl (lv_at hl 1 rfl) ?_
  refine va_get (D := D) (ci := 4) (v := .ref (am 11)) (C := RX4) (T := TX4) (N := 24) hx hb hts hinX4 hown hK hP 0 rfl rfl 17 (by decide) (hts (.fieldLink RX4 57 "OneShortModel" "items" "[I") (List.mem_of_getElem? (i := 2) rfl)) (fun _ h9 => h9) rfl dX4_item_48 ?_
  refine lv_iload hx hb dX4_item_51 (lv_at hl 0 rfl) ?_
  refine lv_iconst (v := nI (4)) hx hb dX4_item_53 (by decide) ?_
  refine nv_iadd hx hb dX4_item_54 ?_
  refine lv_iload hx hb dX4_item_55 (lv_at hl 6 rfl) ?_
  refine nv_iast hx hb hK hP hD hS 11 0 rfl rfl (by omega) (by decide) dX4_item_57 (fun H locs hP hD hS => ?_)
  have hP : va_P D vwCl (wN ci am X kr q0 q1 q2 q3 (nI (mm)) q5 iw kn y0 y1 y2 y3 y4 (upd (upd (upd (upd (upd y5 ((5 * mm)) (i0)) (((5 * mm) + 1)) (i1)) (((5 * mm) + 2)) (i2)) (((5 * mm) + 3)) (i3)) (((5 * mm) + 4)) (i4)) y6) H := va_P.re (wN_y5 ci am X kr q0 q1 q2 q3 (nI (mm)) q5 iw kn y0 y1 y2 y3 y4 (upd (upd (upd (upd y5 ((5 * mm)) (i0)) (((5 * mm) + 1)) (i1)) (((5 * mm) + 2)) (i2)) (((5 * mm) + 3)) (i3)) y6 (((5 * mm) + 4)) (i4)) hP
  have hD : va_D (aM am) (wN ci am X kr q0 q1 q2 q3 (nI (mm)) q5 iw kn y0 y1 y2 y3 y4 (upd (upd (upd (upd (upd y5 ((5 * mm)) (i0)) (((5 * mm) + 1)) (i1)) (((5 * mm) + 2)) (i2)) (((5 * mm) + 3)) (i3)) (((5 * mm) + 4)) (i4)) y6) := wN_D hI
  refine lv_aload_n hx hb dX4_item_58 rfl (lv_at hl 1 rfl) ?_
  refine lv_dup hx hb dX4_item_59 rfl ?_
  refine va_get (D := D) (ci := 4) (v := .int (nI mm)) (C := RX4) (T := TX4) (N := 24) hx hb hts hinX4 hown hK hP 0 rfl rfl 18 (by decide) (hts (.fieldLink RX4 283 "OneShortModel" "itemMany" "I") (List.mem_of_getElem? (i := 1) rfl)) (fun _ h9 => h9) rfl dX4_item_60 ?_
  refine lv_iconst (v := nI (1)) hx hb dX4_item_63 (by decide) ?_
  refine nv_iadd hx hb dX4_item_64 ?_
  refine va_put (D := D) (ci := 4) (v := .int (nI ((mm + 1)))) (ty := .int) (C := RX4) (T := TX4) (N := 24) hx hb hts hinX4 tyX4 tyX4_ok nmX4 hown hK hP hD hS 0 rfl rfl 18 (by decide) (hts (.fieldLink RX4 283 "OneShortModel" "itemMany" "I") (List.mem_of_getElem? (i := 1) rfl)) (fun _ h9 => h9) rfl (by decide +kernel) rfl rfl (Nat.le_of_ble_eq_true rfl) dX4_item_65 (fun H locs hP hD hS => ?_)
  have hP : va_P D vwCl (wN ci am X kr q0 q1 q2 q3 (nI ((mm + 1))) q5 iw kn y0 y1 y2 y3 y4 (upd (upd (upd (upd (upd y5 ((5 * mm)) (i0)) (((5 * mm) + 1)) (i1)) (((5 * mm) + 2)) (i2)) (((5 * mm) + 3)) (i3)) (((5 * mm) + 4)) (i4)) y6) H := va_P.re (wN_q4 ci am X kr q0 q1 q2 q3 (nI (mm)) q5 iw kn y0 y1 y2 y3 y4 (upd (upd (upd (upd (upd y5 ((5 * mm)) (i0)) (((5 * mm) + 1)) (i1)) (((5 * mm) + 2)) (i2)) (((5 * mm) + 3)) (i3)) (((5 * mm) + 4)) (i4)) y6 (nI ((mm + 1)))) hP
  have hD : va_D (aM am) (wN ci am X kr q0 q1 q2 q3 (nI ((mm + 1))) q5 iw kn y0 y1 y2 y3 y4 (upd (upd (upd (upd (upd y5 ((5 * mm)) (i0)) (((5 * mm) + 1)) (i1)) (((5 * mm) + 2)) (i2)) (((5 * mm) + 3)) (i3)) (((5 * mm) + 4)) (i4)) y6) := wN_D hI
  exact mu_vret hx hb hr hlocks hS (hP) dX4_item_68

set_option maxHeartbeats 4000000 in
set_option maxRecDepth 100000 in
/-- X4_kindTold -/
theorem c_X4_kindTold (l : Launch) (D : va_G) (ci : Nat → ClassId) (am : Nat → Nat) (X : AS) (kr : Nat → Int32) (q0 q1 q2 q3 q4 q5 : Int32) (iw : Bool) (kn : Nat → Option Nat) (y0 y1 y2 y3 y4 y5 y6 : Nat → Int32) (hI : injA am 16) (G : Nat → Prop) (adK adV : Nat → Nat) (fx : Nat) (p : Nat) (hGA : ∀ q, aM am q → G q) (h_kn : ∀ j, j < 7 → kn j = some (adK j)) (h_tl : X.2.2.2.2.1 ≤ 120) (h_tb : ∀ k, X.2.2.2.2.2.1 k < 256) (h_p : p ≤ X.2.2.2.2.1) : Met l yX4_kindTold wsX4_kindTold ({ frames := 5, cells := 0, slots := 0, locals := 108 } : Room) (va_Pc [.ref (am 0)] (ro_B D (tyL ci) (wN ci am X kr (nI (stt X.2.2.2.2.2.1 X.2.2.2.2.1 p)) (nI (nxt X.2.2.2.2.2.1 X.2.2.2.2.1 p)) (nI (min (srt X.2.2.2.2.2.1 X.2.2.2.2.1 p) 3)) (nI (vlu X.2.2.2.2.2.1 X.2.2.2.2.1 p)) q4 q5 iw kn y0 y1 y2 y3 y4 y5 y6) (enW G adK adV fx rfX))) (ro_Q (some (.int (nI (kT X.2.2.2.2.2.1 X.2.2.2.2.1 p) - nI (1))))) 0 0 (fun _ => False) := by
  refine ro_Met (cc := cX4_kindTold) (maxL := 3) (ret := (some .int)) [(0, .ref (am 0))] (by decide) rfl (Nat.le_of_ble_eq_true rfl) rfl ?_
  intro pg e s m below meth c hx hb hml hr hlocks hts hown hP hK hs ls hl
  have hown : s.vm.findClass RX4 = some m.cls := hown
  have hinX4 : ∀ w ∈ wsX40, w ∈ wsX4_kindTold := by decide +kernel
  have hE := hE_W G adK adV fx rfX
  have f_t := tokf (tb := X.2.2.2.2.2.1) (tl := X.2.2.2.2.1) h_p
  refine lv_iconst (v := -1) hx hb dX4_kindTold_0 (by decide) ?_
  refine lv_istore_n (lv' := [(1, .int (-1)), (0, .ref (am 0))]) hx hb dX4_kindTold_1 rfl hl (by decide) rfl (fun ls hl => ?_)
  refine lv_iconst (v := nI (0)) hx hb dX4_kindTold_2 (by decide) ?_
  refine lv_istore_n (lv' := [(2, .int (nI 0)), (1, .int (-1)), (0, .ref (am 0))]) hx hb dX4_kindTold_3 rfl hl (by decide) rfl (fun ls hl => ?_)
  have L4 : ∀ (k4 : Nat) (i : Nat), 7 - i < k4 → (i ≤ 7) → ∀ (x1 : Int32), ∀ (x2 : Int32), x1 = nI ((lK (fun k => isW X.2.2.2.2.2.1 X.2.2.2.2.1 p k) (i))) - nI (1) → x2 = nI (i) → ∀ ls : Array Slot, lv_has ls 3 [(1, .int (x1)), (2, .int (x2)), (0, .ref (am 0))] → W pg l e (headSpec wsX4_kindTold ({ frames := 5, cells := 0, slots := 0, locals := 108 } : Room)).room s m ([.ref (am 0)] : List Value).toArray below meth c s.heap [] 0 0 (MQ below (ro_Q (some (.int (nI (kT X.2.2.2.2.2.1 X.2.2.2.2.1 p) - nI (1))))) ([.ref (am 0)] : List Value).toArray s 0 0 (fun _ => False)) (F0 m 4 ls []) := by
    intro k4
    induction k4 with
    | zero => intro i h0; exact absurd h0 (Nat.not_lt_zero _)
    | succ k4 ih4 =>
      intro i hk4 h_i x1 x2 e1 e2 ls hl
      subst e1
      subst e2
      have f_l := lK_le (P := (fun k => isW X.2.2.2.2.2.1 X.2.2.2.2.1 p k)) i
      refine lv_iload_n hx hb dX4_kindTold_4 rfl (lv_at hl 1 rfl) ?_
      refine lv_aload_n hx hb dX4_kindTold_5 rfl (lv_at hl 2 rfl) ?_
      refine va_get (D := D) (ci := 4) (v := .ref (am 10)) (C := RX4) (T := TX4) (N := 24) hx hb hts hinX4 hown hK hP 0 rfl rfl 16 (by decide) (hts (.fieldLink RX4 53 "OneShortModel" "kindNames" "[Ljava/lang/String;") (List.mem_of_getElem? (i := 1) rfl)) (fun _ h9 => h9) rfl dX4_kindTold_6 ?_
      refine va_alen (v := nI (7)) hx hb hK hP 10 2 rfl rfl rfl dX4_kindTold_9 ?_
      refine nv_icmp_ge (tgt := 38) hx hb (by omega) (by omega) dX4_kindTold_10 (by decide) (fun c1 => ?_) (fun c1 => ?_)
      · refine lv_iload_n hx hb dX4_kindTold_38 rfl (lv_at hl 0 rfl) ?_
        refine nv_cv (show nI ((lK (fun k => isW X.2.2.2.2.2.1 X.2.2.2.2.1 p k) (i))) - nI (1) = nI (kT X.2.2.2.2.2.1 X.2.2.2.2.1 p) - nI (1) from by rw [show i = 7 by omega, lK_kT]) ?_
        exact ro_iret hx hb hr hlocks dX4_kindTold_39
      · refine lv_aload_n hx hb dX4_kindTold_13 rfl (lv_at hl 2 rfl) ?_
        refine lv_aload_n hx hb dX4_kindTold_14 rfl (lv_at hl 2 rfl) ?_
        refine va_get (D := D) (ci := 4) (v := .ref (am 10)) (C := RX4) (T := TX4) (N := 24) hx hb hts hinX4 hown hK hP 0 rfl rfl 16 (by decide) (hts (.fieldLink RX4 53 "OneShortModel" "kindNames" "[Ljava/lang/String;") (List.mem_of_getElem? (i := 1) rfl)) (fun _ h9 => h9) rfl dX4_kindTold_15 ?_
        refine lv_iload_n hx hb dX4_kindTold_18 rfl (lv_at hl 1 rfl) ?_
        refine nv_aald (v := .ref (adK (i))) hx hb hK hP 10 2 rfl rfl (by omega) (by decide) (by rw [h_kn _ (by omega)]; rfl) dX4_kindTold_19 ?_
        refine ro_V (n := 1) (As := [.ref (adK (i))]) (rest := []) ⟨hx, hb, hml, hown, hts⟩ (c_X4_isWord l D ci am X kr (nI (stt X.2.2.2.2.2.1 X.2.2.2.2.1 p)) (nI (nxt X.2.2.2.2.2.1 X.2.2.2.2.1 p)) (nI (min (srt X.2.2.2.2.2.1 X.2.2.2.2.1 p) 3)) (nI (vlu X.2.2.2.2.2.1 X.2.2.2.2.1 p)) q4 q5 iw kn y0 y1 y2 y3 y4 y5 y6 hI G adK adV fx (p) ((i)) hGA h_kn h_tl h_tb (by omega) (by omega)) gX4_kindTold_X4_isWord rfl ⟨rfl, rfl⟩ (by decide +kernel) rfl ⟨Nat.le_of_ble_eq_true rfl, Nat.le_of_ble_eq_true rfl⟩ hE hs hK hP (ci := 4) (q0 := 0) rfl rfl hl.1 rfl (Nat.le_of_ble_eq_true rfl) dX4_kindTold_20 ⟨Nat.zero_le _, Nat.zero_le _⟩ ?_
        refine nv_ifeq_b (tgt := 30) hx hb dX4_kindTold_23 (by decide) (fun c2 => ?_) (fun c2 => ?_)
        · refine lv_iload_n hx hb dX4_kindTold_30 rfl (lv_at hl 0 rfl) ?_
          refine lv_istore_n (lv' := [(1, .int (nI ((lK (fun k => isW X.2.2.2.2.2.1 X.2.2.2.2.1 p k) (i))) - nI (1))), (2, .int (nI i)), (0, .ref (am 0))]) hx hb dX4_kindTold_31 rfl hl (by decide) rfl (fun ls hl => ?_)
          refine nv_iinc1 (lv' := [(2, .int (nI (i + 1))), (1, .int (nI ((lK (fun k => isW X.2.2.2.2.2.1 X.2.2.2.2.1 p k) (i))) - nI (1))), (0, .ref (am 0))]) hx hb dX4_kindTold_32 hl (k := 1) rfl (by decide) rfl (fun ls hl => ?_)
          refine lv_goto (tgt := 4) hx hb dX4_kindTold_35 (by decide) ?_
          exact ih4 (i + 1) (by omega) (by omega) (nI ((lK (fun k => isW X.2.2.2.2.2.1 X.2.2.2.2.1 p k) (i))) - nI (1)) (nI (i + 1)) (by first | (rw [lK_t c2]; exact (nI_pred _).symm) | rw [lK_f c2]) rfl ls (lv_sub hl [1, 0, 2] rfl)
        · refine lv_iload_n hx hb dX4_kindTold_26 rfl (lv_at hl 1 rfl) ?_
          refine lv_goto (tgt := 31) hx hb dX4_kindTold_27 (by decide) ?_
          refine lv_istore_n (lv' := [(1, .int (nI i)), (2, .int (nI i)), (0, .ref (am 0))]) hx hb dX4_kindTold_31 rfl hl (by decide) rfl (fun ls hl => ?_)
          refine nv_iinc1 (lv' := [(2, .int (nI (i + 1))), (1, .int (nI i)), (0, .ref (am 0))]) hx hb dX4_kindTold_32 hl (k := 1) rfl (by decide) rfl (fun ls hl => ?_)
          refine lv_goto (tgt := 4) hx hb dX4_kindTold_35 (by decide) ?_
          exact ih4 (i + 1) (by omega) (by omega) (nI (i)) (nI (i + 1)) (by first | (rw [lK_t c2]; exact (nI_pred _).symm) | rw [lK_f c2]) rfl ls (lv_sub hl [1, 0, 2] rfl)
  exact L4 _ (0) (Nat.lt_succ_self _) (by omega) (-1) (nI (0)) (by rfl) rfl ls (lv_sub hl [1, 0, 2] rfl)

set_option maxHeartbeats 4000000 in
set_option maxRecDepth 100000 in
/-- X4_afterWord -/
theorem c_X4_afterWord (l : Launch) (D : va_G) (ci : Nat → ClassId) (am : Nat → Nat) (X : AS) (kr : Nat → Int32) (q0 q1 q2 q3 q4 q5 : Int32) (iw : Bool) (kn : Nat → Option Nat) (y0 y1 y2 y3 y4 y5 y6 : Nat → Int32) (hI : injA am 16) (G : Nat → Prop) (adK adV : Nat → Nat) (fx : Nat) (wr : Bool) (p i o hi : Nat) (hGA : ∀ q, aM am q → G q) (h_kn : ∀ j, j < 7 → kn j = some (adK j)) (h_tl : X.2.2.2.2.1 ≤ 120) (h_tb : ∀ k, X.2.2.2.2.2.1 k < 256) (h_p : p ≤ X.2.2.2.2.1) (h_i : i < 12) (h_o : o < 1000) (h_h : hi < 1000) : Met l yX4_afterWord wsX4_afterWord ({ frames := 5, cells := 0, slots := 0, locals := 108 } : Room) (va_Pc [.ref (am 0), .ref (adK (i)), .int (nI o), .int (nI hi)] (ro_B D (tyL ci) (wN ci am X kr (nI (stt X.2.2.2.2.2.1 X.2.2.2.2.1 p)) (nI (nxt X.2.2.2.2.2.1 X.2.2.2.2.1 p)) (nI (min (srt X.2.2.2.2.2.1 X.2.2.2.2.1 p) 3)) (nI (vlu X.2.2.2.2.2.1 X.2.2.2.2.1 p)) q4 q5 wr kn y0 y1 y2 y3 y4 y5 y6) (enW G adK adV fx rfX))) (mu_Q (aM am) (some (.int (nI (aV X.2.2.2.2.2.1 X.2.2.2.2.1 i o (wr, p))))) (fun H => va_P D vwCl (wN ci am X kr (nI (stt X.2.2.2.2.2.1 X.2.2.2.2.1 ((aS X.2.2.2.2.2.1 X.2.2.2.2.1 i hi (wr, p)).2))) (nI (nxt X.2.2.2.2.2.1 X.2.2.2.2.1 ((aS X.2.2.2.2.2.1 X.2.2.2.2.1 i hi (wr, p)).2))) (nI (min (srt X.2.2.2.2.2.1 X.2.2.2.2.1 ((aS X.2.2.2.2.2.1 X.2.2.2.2.1 i hi (wr, p)).2)) 3)) (nI (vlu X.2.2.2.2.2.1 X.2.2.2.2.1 ((aS X.2.2.2.2.2.1 X.2.2.2.2.1 i hi (wr, p)).2))) q4 q5 ((aS X.2.2.2.2.2.1 X.2.2.2.2.1 i hi (wr, p)).1) kn y0 y1 y2 y3 y4 y5 y6) H)) 0 0 (aM am) := by
  refine mu_Met (cc := cX4_afterWord) (maxL := 4) (ret := (some .int)) [(0, .ref (am 0)), (1, .ref (adK (i))), (2, .int (nI o)), (3, .int (nI hi))] (wN_D hI) (by decide) rfl (Nat.le_of_ble_eq_true rfl) rfl ?_
  intro pg e s m below meth c H locs hx hb hml hr hlocks hts hown hP hK hs0 hD hS ls hl
  have hown : s.vm.findClass RX4 = some m.cls := hown
  have hinX4 : ∀ w ∈ wsX40, w ∈ wsX4_afterWord := by decide +kernel
  have hE := hE_W G adK adV fx rfX
  have f_t := tokf (tb := X.2.2.2.2.2.1) (tl := X.2.2.2.2.1) h_p
  refine lv_aload_n hx hb dX4_afterWord_0 rfl (lv_at hl 0 rfl) ?_
  refine va_get (D := D) (ci := 4) (v := .int (bI (wr))) (C := RX4) (T := TX4) (N := 24) hx hb hts hinX4 hown hK hP 0 rfl rfl 15 (by decide) (hts (.fieldLink RX4 272 "OneShortModel" "isWrong" "Z") (List.mem_of_getElem? (i := 1) rfl)) (fun _ h9 => h9) rfl dX4_afterWord_1 ?_
  refine nv_ifne_b (tgt := 15) hx hb dX4_afterWord_4 (by decide) (fun c1 => ?_) (fun c1 => ?_)
  · refine lv_iload_n hx hb dX4_afterWord_15 rfl (lv_at hl 2 rfl) ?_
    refine nv_cv (show nI (o) = nI (aV X.2.2.2.2.2.1 X.2.2.2.2.1 i o (wr, p)) from nv_e (by simp [aV, mP, c1])) ?_
    exact mu_iret hx hb hr hlocks hS ((by first | (rw [show aS X.2.2.2.2.2.1 X.2.2.2.2.1 i hi (wr, p) = (wr, p) from by simp [aS, c1]]; exact hP) | ((rw [show mW wr true = false from by simp [mW, c1], show mP X.2.2.2.2.2.1 X.2.2.2.2.1 wr true p = nxt X.2.2.2.2.2.1 X.2.2.2.2.1 p from by simp [mP, c1]] at hP); rw [show aS X.2.2.2.2.2.1 X.2.2.2.2.1 i hi (wr, p) = (mW false (rNum X.2.2.2.2.2.1 X.2.2.2.2.1 (nxt X.2.2.2.2.2.1 X.2.2.2.2.1 p) hi), mP X.2.2.2.2.2.1 X.2.2.2.2.1 false (rNum X.2.2.2.2.2.1 X.2.2.2.2.1 (nxt X.2.2.2.2.2.1 X.2.2.2.2.1 p) hi) (nxt X.2.2.2.2.2.1 X.2.2.2.2.1 p)) from by simp [aS, c1]]; exact hP))) dX4_afterWord_16
  · refine lv_aload_n hx hb dX4_afterWord_7 rfl (lv_at hl 0 rfl) ?_
    refine lv_aload_n hx hb dX4_afterWord_8 rfl (lv_at hl 1 rfl) ?_
    refine ro_V (n := 1) (As := [.ref (adK (i))]) (rest := []) ⟨hx, hb, hml, hown, hts⟩ (c_X4_isWord l D ci am X kr (nI (stt X.2.2.2.2.2.1 X.2.2.2.2.1 p)) (nI (nxt X.2.2.2.2.2.1 X.2.2.2.2.1 p)) (nI (min (srt X.2.2.2.2.2.1 X.2.2.2.2.1 p) 3)) (nI (vlu X.2.2.2.2.2.1 X.2.2.2.2.1 p)) q4 q5 wr kn y0 y1 y2 y3 y4 y5 y6 hI G adK adV fx (p) ((i)) hGA h_kn h_tl h_tb (by omega) (by omega)) gX4_afterWord_X4_isWord rfl ⟨rfl, rfl⟩ (by decide +kernel) rfl ⟨Nat.le_of_ble_eq_true rfl, Nat.le_of_ble_eq_true rfl⟩ hE (enW_S hGA hs0 hS) hK hP (ci := 4) (q0 := 0) rfl rfl hl.1 rfl (Nat.le_of_ble_eq_true rfl) dX4_afterWord_9 ⟨Nat.zero_le _, Nat.zero_le _⟩ ?_
    refine nv_ifne_b (tgt := 17) hx hb dX4_afterWord_12 (by decide) (fun c2 => ?_) (fun c2 => ?_)
    · refine lv_aload_n hx hb dX4_afterWord_17 rfl (lv_at hl 0 rfl) ?_
      refine lv_iconst (v := nI (1)) hx hb dX4_afterWord_18 (by decide) ?_
      refine nv_cv (show nI (1) = bI (true) from rfl) ?_
      refine mu_V (n := 1) (As := [.int (bI (true))]) (rest := []) ⟨hx, hb, hml, hown, hts⟩ (c_X4_must l D ci am X kr (nI (stt X.2.2.2.2.2.1 X.2.2.2.2.1 p)) (nI (nxt X.2.2.2.2.2.1 X.2.2.2.2.1 p)) (nI (min (srt X.2.2.2.2.2.1 X.2.2.2.2.1 p) 3)) (nI (vlu X.2.2.2.2.2.1 X.2.2.2.2.1 p)) q4 q5 wr kn y0 y1 y2 y3 y4 y5 y6 hI G adK adV fx (true) (wr) (p) hGA h_kn h_tl h_tb (by omega)) gX4_afterWord_X4_must rfl ⟨rfl, rfl⟩ (by decide +kernel) rfl ⟨Nat.le_of_ble_eq_true rfl, Nat.le_of_ble_eq_true rfl⟩ hE (enW_S hGA hs0 hS) hK hP (ci := 4) (q0 := 0) rfl rfl hl.1 rfl (Nat.le_of_ble_eq_true rfl) dX4_afterWord_19 ⟨Nat.zero_le _, Nat.zero_le _⟩ hS (fun _ h => h) (fun H1 locs hz hfr hB hS => ?_)
      have hP := hB
      have hP : va_P D vwCl (wN ci am X kr (nI (stt X.2.2.2.2.2.1 X.2.2.2.2.1 (mP X.2.2.2.2.2.1 X.2.2.2.2.1 wr true p))) (nI (nxt X.2.2.2.2.2.1 X.2.2.2.2.1 (mP X.2.2.2.2.2.1 X.2.2.2.2.1 wr true p))) (nI (min (srt X.2.2.2.2.2.1 X.2.2.2.2.1 (mP X.2.2.2.2.2.1 X.2.2.2.2.1 wr true p)) 3)) (nI (vlu X.2.2.2.2.2.1 X.2.2.2.2.1 (mP X.2.2.2.2.2.1 X.2.2.2.2.1 wr true p))) q4 q5 (mW wr true) kn y0 y1 y2 y3 y4 y5 y6) H1 := hP
      generalize H1 = H at hP hS ⊢
      have hD : va_D (aM am) (wN ci am X kr (nI (stt X.2.2.2.2.2.1 X.2.2.2.2.1 (mP X.2.2.2.2.2.1 X.2.2.2.2.1 wr true p))) (nI (nxt X.2.2.2.2.2.1 X.2.2.2.2.1 (mP X.2.2.2.2.2.1 X.2.2.2.2.1 wr true p))) (nI (min (srt X.2.2.2.2.2.1 X.2.2.2.2.1 (mP X.2.2.2.2.2.1 X.2.2.2.2.1 wr true p)) 3)) (nI (vlu X.2.2.2.2.2.1 X.2.2.2.2.1 (mP X.2.2.2.2.2.1 X.2.2.2.2.1 wr true p))) q4 q5 (mW wr true) kn y0 y1 y2 y3 y4 y5 y6) := wN_D hI
      have f3 := mP_le (tb := X.2.2.2.2.2.1) (wr := wr) (is := true) (show p ≤ X.2.2.2.2.1 by omega)
      have f4 := tokf (tb := X.2.2.2.2.2.1) (mP_le (tb := X.2.2.2.2.2.1) (wr := wr) (is := true) (show p ≤ X.2.2.2.2.1 by omega))
      refine lv_aload_n hx hb dX4_afterWord_22 rfl (lv_at hl 0 rfl) ?_
      refine lv_iconst (v := nI (0)) hx hb dX4_afterWord_23 (by decide) ?_
      refine lv_iload_n hx hb dX4_afterWord_24 rfl (lv_at hl 3 rfl) ?_
      refine mu_V (n := 2) (As := [.int (nI 0), .int (nI hi)]) (rest := []) ⟨hx, hb, hml, hown, hts⟩ (c_X4_number l D ci am X kr (nI (stt X.2.2.2.2.2.1 X.2.2.2.2.1 (mP X.2.2.2.2.2.1 X.2.2.2.2.1 wr true p))) (nI (nxt X.2.2.2.2.2.1 X.2.2.2.2.1 (mP X.2.2.2.2.2.1 X.2.2.2.2.1 wr true p))) (nI (min (srt X.2.2.2.2.2.1 X.2.2.2.2.1 (mP X.2.2.2.2.2.1 X.2.2.2.2.1 wr true p)) 3)) (nI (vlu X.2.2.2.2.2.1 X.2.2.2.2.1 (mP X.2.2.2.2.2.1 X.2.2.2.2.1 wr true p))) q4 q5 (mW wr true) kn y0 y1 y2 y3 y4 y5 y6 hI G adK adV fx ((mW wr true)) (mP X.2.2.2.2.2.1 X.2.2.2.2.1 wr true p) (hi) hGA h_kn h_tl h_tb (by omega) (by omega)) gX4_afterWord_X4_number rfl ⟨rfl, rfl⟩ (by decide +kernel) rfl ⟨Nat.le_of_ble_eq_true rfl, Nat.le_of_ble_eq_true rfl⟩ hE (enW_S hGA hs0 hS) hK hP (ci := 4) (q0 := 0) rfl rfl hl.1 rfl (Nat.le_of_ble_eq_true rfl) dX4_afterWord_25 ⟨Nat.zero_le _, Nat.zero_le _⟩ hS (fun _ h => h) (fun H1 locs hz hfr hB hS => ?_)
      have hP := hB
      have hP : va_P D vwCl (wN ci am X kr (nI (stt X.2.2.2.2.2.1 X.2.2.2.2.1 (mP X.2.2.2.2.2.1 X.2.2.2.2.1 (mW wr true) (rNum X.2.2.2.2.2.1 X.2.2.2.2.1 (mP X.2.2.2.2.2.1 X.2.2.2.2.1 wr true p) hi) (mP X.2.2.2.2.2.1 X.2.2.2.2.1 wr true p)))) (nI (nxt X.2.2.2.2.2.1 X.2.2.2.2.1 (mP X.2.2.2.2.2.1 X.2.2.2.2.1 (mW wr true) (rNum X.2.2.2.2.2.1 X.2.2.2.2.1 (mP X.2.2.2.2.2.1 X.2.2.2.2.1 wr true p) hi) (mP X.2.2.2.2.2.1 X.2.2.2.2.1 wr true p)))) (nI (min (srt X.2.2.2.2.2.1 X.2.2.2.2.1 (mP X.2.2.2.2.2.1 X.2.2.2.2.1 (mW wr true) (rNum X.2.2.2.2.2.1 X.2.2.2.2.1 (mP X.2.2.2.2.2.1 X.2.2.2.2.1 wr true p) hi) (mP X.2.2.2.2.2.1 X.2.2.2.2.1 wr true p))) 3)) (nI (vlu X.2.2.2.2.2.1 X.2.2.2.2.1 (mP X.2.2.2.2.2.1 X.2.2.2.2.1 (mW wr true) (rNum X.2.2.2.2.2.1 X.2.2.2.2.1 (mP X.2.2.2.2.2.1 X.2.2.2.2.1 wr true p) hi) (mP X.2.2.2.2.2.1 X.2.2.2.2.1 wr true p)))) q4 q5 (mW (mW wr true) (rNum X.2.2.2.2.2.1 X.2.2.2.2.1 (mP X.2.2.2.2.2.1 X.2.2.2.2.1 wr true p) hi)) kn y0 y1 y2 y3 y4 y5 y6) H1 := hP
      generalize H1 = H at hP hS ⊢
      have hD : va_D (aM am) (wN ci am X kr (nI (stt X.2.2.2.2.2.1 X.2.2.2.2.1 (mP X.2.2.2.2.2.1 X.2.2.2.2.1 (mW wr true) (rNum X.2.2.2.2.2.1 X.2.2.2.2.1 (mP X.2.2.2.2.2.1 X.2.2.2.2.1 wr true p) hi) (mP X.2.2.2.2.2.1 X.2.2.2.2.1 wr true p)))) (nI (nxt X.2.2.2.2.2.1 X.2.2.2.2.1 (mP X.2.2.2.2.2.1 X.2.2.2.2.1 (mW wr true) (rNum X.2.2.2.2.2.1 X.2.2.2.2.1 (mP X.2.2.2.2.2.1 X.2.2.2.2.1 wr true p) hi) (mP X.2.2.2.2.2.1 X.2.2.2.2.1 wr true p)))) (nI (min (srt X.2.2.2.2.2.1 X.2.2.2.2.1 (mP X.2.2.2.2.2.1 X.2.2.2.2.1 (mW wr true) (rNum X.2.2.2.2.2.1 X.2.2.2.2.1 (mP X.2.2.2.2.2.1 X.2.2.2.2.1 wr true p) hi) (mP X.2.2.2.2.2.1 X.2.2.2.2.1 wr true p))) 3)) (nI (vlu X.2.2.2.2.2.1 X.2.2.2.2.1 (mP X.2.2.2.2.2.1 X.2.2.2.2.1 (mW wr true) (rNum X.2.2.2.2.2.1 X.2.2.2.2.1 (mP X.2.2.2.2.2.1 X.2.2.2.2.1 wr true p) hi) (mP X.2.2.2.2.2.1 X.2.2.2.2.1 wr true p)))) q4 q5 (mW (mW wr true) (rNum X.2.2.2.2.2.1 X.2.2.2.2.1 (mP X.2.2.2.2.2.1 X.2.2.2.2.1 wr true p) hi)) kn y0 y1 y2 y3 y4 y5 y6) := wN_D hI
      have f5 := mP_le (tb := X.2.2.2.2.2.1) (wr := (mW wr true)) (is := (rNum X.2.2.2.2.2.1 X.2.2.2.2.1 (mP X.2.2.2.2.2.1 X.2.2.2.2.1 wr true p) hi)) (show mP X.2.2.2.2.2.1 X.2.2.2.2.1 wr true p ≤ X.2.2.2.2.1 by omega)
      have f6 := tokf (tb := X.2.2.2.2.2.1) (mP_le (tb := X.2.2.2.2.2.1) (wr := (mW wr true)) (is := rNum X.2.2.2.2.2.1 X.2.2.2.2.1 (mP X.2.2.2.2.2.1 X.2.2.2.2.1 wr true p) hi) (show mP X.2.2.2.2.2.1 X.2.2.2.2.1 wr true p ≤ X.2.2.2.2.1 by omega))
      refine nv_cv (show nI (vlu X.2.2.2.2.2.1 X.2.2.2.2.1 (mP X.2.2.2.2.2.1 X.2.2.2.2.1 wr true p)) = nI (aV X.2.2.2.2.2.1 X.2.2.2.2.1 i o (wr, p)) from nv_e (by simp [aV, mP, c1, c2])) ?_
      exact mu_iret hx hb hr hlocks hS ((by first | (rw [show aS X.2.2.2.2.2.1 X.2.2.2.2.1 i hi (wr, p) = (wr, p) from by simp [aS, c1, c2]]; exact hP) | ((rw [show mW wr true = false from by simp [mW, c1, c2], show mP X.2.2.2.2.2.1 X.2.2.2.2.1 wr true p = nxt X.2.2.2.2.2.1 X.2.2.2.2.1 p from by simp [mP, c1, c2]] at hP); rw [show aS X.2.2.2.2.2.1 X.2.2.2.2.1 i hi (wr, p) = (mW false (rNum X.2.2.2.2.2.1 X.2.2.2.2.1 (nxt X.2.2.2.2.2.1 X.2.2.2.2.1 p) hi), mP X.2.2.2.2.2.1 X.2.2.2.2.1 false (rNum X.2.2.2.2.2.1 X.2.2.2.2.1 (nxt X.2.2.2.2.2.1 X.2.2.2.2.1 p) hi) (nxt X.2.2.2.2.2.1 X.2.2.2.2.1 p)) from by simp [aS, c1, c2]]; exact hP))) dX4_afterWord_28
    · refine lv_iload_n hx hb dX4_afterWord_15 rfl (lv_at hl 2 rfl) ?_
      refine nv_cv (show nI (o) = nI (aV X.2.2.2.2.2.1 X.2.2.2.2.1 i o (wr, p)) from nv_e (by simp [aV, mP, c1, c2])) ?_
      exact mu_iret hx hb hr hlocks hS ((by first | (rw [show aS X.2.2.2.2.2.1 X.2.2.2.2.1 i hi (wr, p) = (wr, p) from by simp [aS, c1, c2]]; exact hP) | ((rw [show mW wr true = false from by simp [mW, c1, c2], show mP X.2.2.2.2.2.1 X.2.2.2.2.1 wr true p = nxt X.2.2.2.2.2.1 X.2.2.2.2.1 p from by simp [mP, c1, c2]] at hP); rw [show aS X.2.2.2.2.2.1 X.2.2.2.2.1 i hi (wr, p) = (mW false (rNum X.2.2.2.2.2.1 X.2.2.2.2.1 (nxt X.2.2.2.2.2.1 X.2.2.2.2.1 p) hi), mP X.2.2.2.2.2.1 X.2.2.2.2.1 false (rNum X.2.2.2.2.2.1 X.2.2.2.2.1 (nxt X.2.2.2.2.2.1 X.2.2.2.2.1 p) hi) (nxt X.2.2.2.2.2.1 X.2.2.2.2.1 p)) from by simp [aS, c1, c2]]; exact hP))) dX4_afterWord_16

set_option maxHeartbeats 4000000 in
set_option maxRecDepth 100000 in
/-- X4_readItem -/
theorem c_X4_readItem (l : Launch) (D : va_G) (ci : Nat → ClassId) (am : Nat → Nat) (X : AS) (kr : Nat → Int32) (q0 q1 q2 q3 q4 q5 : Int32) (iw : Bool) (kn : Nat → Option Nat) (y0 y1 y2 y3 y4 y5 y6 : Nat → Int32) (hI : injA am 16) (G : Nat → Prop) (adK adV : Nat → Nat) (fx : Nat) (p mm n5 : Nat) (hGA : ∀ q, aM am q → G q) (h_kn : ∀ j, j < 7 → kn j = some (adK j)) (h_tl : X.2.2.2.2.1 ≤ 120) (h_tb : ∀ k, X.2.2.2.2.2.1 k < 256) (h_p : p ≤ X.2.2.2.2.1) (h_m : mm < 120) (h_5 : n5 ≤ 8) : Met l yX4_readItem wsX4_readItem ({ frames := 6, cells := 0, slots := 0, locals := 131 } : Room) (va_Pc [.ref (am 0)] (ro_B D (tyL ci) (wN ci am X kr (nI (stt X.2.2.2.2.2.1 X.2.2.2.2.1 p)) (nI (nxt X.2.2.2.2.2.1 X.2.2.2.2.1 p)) (nI (min (srt X.2.2.2.2.2.1 X.2.2.2.2.1 p) 3)) (nI (vlu X.2.2.2.2.2.1 X.2.2.2.2.1 p)) (nI (mm)) (nI (n5)) false kn y0 y1 y2 y3 y4 y5 y6) (enW G adK adV fx rfX))) (mu_Q (aM am) (none) (fun H => va_P D vwCl (wN ci am X kr (nI (stt X.2.2.2.2.2.1 X.2.2.2.2.1 ((riS X.2.2.2.2.2.1 X.2.2.2.2.1 p n5).2))) (nI (nxt X.2.2.2.2.2.1 X.2.2.2.2.1 ((riS X.2.2.2.2.2.1 X.2.2.2.2.1 p n5).2))) (nI (min (srt X.2.2.2.2.2.1 X.2.2.2.2.1 ((riS X.2.2.2.2.2.1 X.2.2.2.2.1 p n5).2)) 3)) (nI (vlu X.2.2.2.2.2.1 X.2.2.2.2.1 ((riS X.2.2.2.2.2.1 X.2.2.2.2.1 p n5).2))) (nI ((mm + 1))) (nI (riN X.2.2.2.2.2.1 X.2.2.2.2.1 p n5)) ((riS X.2.2.2.2.2.1 X.2.2.2.2.1 p n5).1) kn y0 y1 y2 y3 y4 (riY X.2.2.2.2.2.1 X.2.2.2.2.1 y5 mm p n5) y6) H)) 0 0 (aM am) := by
  refine mu_Met (cc := cX4_readItem) (maxL := 5) (ret := none) [(0, .ref (am 0))] (wN_D hI) (by decide) rfl (Nat.le_of_ble_eq_true rfl) rfl ?_
  intro pg e s m below meth c H locs hx hb hml hr hlocks hts hown hP hK hs0 hD hS ls hl
  have hown : s.vm.findClass RX4 = some m.cls := hown
  have hinX4 : ∀ w ∈ wsX40, w ∈ wsX4_readItem := by decide +kernel
  have hE := hE_W G adK adV fx rfX
  have f_t := tokf (tb := X.2.2.2.2.2.1) (tl := X.2.2.2.2.1) h_p
  refine lv_aload_n hx hb dX4_readItem_0 rfl (lv_at hl 0 rfl) ?_
  refine ro_V (n := 0) (As := []) (rest := []) ⟨hx, hb, hml, hown, hts⟩ (c_X4_kindTold l D ci am X kr (nI (stt X.2.2.2.2.2.1 X.2.2.2.2.1 p)) (nI (nxt X.2.2.2.2.2.1 X.2.2.2.2.1 p)) (nI (min (srt X.2.2.2.2.2.1 X.2.2.2.2.1 p) 3)) (nI (vlu X.2.2.2.2.2.1 X.2.2.2.2.1 p)) (nI (mm)) (nI (n5)) false kn y0 y1 y2 y3 y4 y5 y6 hI G adK adV fx (p) hGA h_kn h_tl h_tb (by omega)) gX4_readItem_X4_kindTold rfl ⟨rfl, rfl⟩ (by decide +kernel) rfl ⟨Nat.le_of_ble_eq_true rfl, Nat.le_of_ble_eq_true rfl⟩ hE (enW_S hGA hs0 hS) hK hP (ci := 4) (q0 := 0) rfl rfl hl.1 rfl (Nat.le_of_ble_eq_true rfl) dX4_readItem_1 ⟨Nat.zero_le _, Nat.zero_le _⟩ ?_
  have f1 := kT_le (tb := X.2.2.2.2.2.1) (tl := X.2.2.2.2.1) (p)
  refine lv_istore_n (lv' := [(1, .int (nI (kT X.2.2.2.2.2.1 X.2.2.2.2.1 p) - nI (1))), (0, .ref (am 0))]) hx hb dX4_readItem_4 rfl hl (by decide) rfl (fun ls hl => ?_)
  refine lv_iload_n hx hb dX4_readItem_5 rfl (lv_at hl 0 rfl) ?_
  refine nv_iflt_D (tgt := 93) hx hb (by omega) dX4_readItem_6 (by decide) (fun c2 => ?_) (fun c2 => ?_)
  · refine lv_aload_n hx hb dX4_readItem_93 rfl (lv_at hl 1 rfl) ?_
    refine lv_aload_n hx hb dX4_readItem_94 rfl (lv_at hl 1 rfl) ?_
    refine nv_ldcwS (tx := "bar") (q := adK 7) hx hb hown (hs0.2.2.2 ("OneShortModel", 315, "bar", 7) (by decide)) dX4_readItem_95 ?_
    refine ro_V (n := 1) (As := [.ref (adK 7)]) (rest := [.ref (am 0)]) ⟨hx, hb, hml, hown, hts⟩ (c_X4_isWord l D ci am X kr (nI (stt X.2.2.2.2.2.1 X.2.2.2.2.1 p)) (nI (nxt X.2.2.2.2.2.1 X.2.2.2.2.1 p)) (nI (min (srt X.2.2.2.2.2.1 X.2.2.2.2.1 p) 3)) (nI (vlu X.2.2.2.2.2.1 X.2.2.2.2.1 p)) (nI (mm)) (nI (n5)) false kn y0 y1 y2 y3 y4 y5 y6 hI G adK adV fx (p) (7) hGA h_kn h_tl h_tb (by omega) (by omega)) gX4_readItem_X4_isWord rfl ⟨rfl, rfl⟩ (by decide +kernel) rfl ⟨Nat.le_of_ble_eq_true rfl, Nat.le_of_ble_eq_true rfl⟩ hE (enW_S hGA hs0 hS) hK hP (ci := 4) (q0 := 0) rfl rfl hl.1 rfl (Nat.le_of_ble_eq_true rfl) dX4_readItem_98 ⟨Nat.zero_le _, Nat.zero_le _⟩ ?_
    refine mu_V (n := 1) (As := [.int (bI (isW X.2.2.2.2.2.1 X.2.2.2.2.1 p 7))]) (rest := []) ⟨hx, hb, hml, hown, hts⟩ (c_X4_must l D ci am X kr (nI (stt X.2.2.2.2.2.1 X.2.2.2.2.1 p)) (nI (nxt X.2.2.2.2.2.1 X.2.2.2.2.1 p)) (nI (min (srt X.2.2.2.2.2.1 X.2.2.2.2.1 p) 3)) (nI (vlu X.2.2.2.2.2.1 X.2.2.2.2.1 p)) (nI (mm)) (nI (n5)) false kn y0 y1 y2 y3 y4 y5 y6 hI G adK adV fx (isW X.2.2.2.2.2.1 X.2.2.2.2.1 p 7) (false) (p) hGA h_kn h_tl h_tb (by omega)) gX4_readItem_X4_must rfl ⟨rfl, rfl⟩ (by decide +kernel) rfl ⟨Nat.le_of_ble_eq_true rfl, Nat.le_of_ble_eq_true rfl⟩ hE (enW_S hGA hs0 hS) hK hP (ci := 4) (q0 := 0) rfl rfl hl.1 rfl (Nat.le_of_ble_eq_true rfl) dX4_readItem_101 ⟨Nat.zero_le _, Nat.zero_le _⟩ hS (fun _ h => h) (fun H1 locs hz hfr hB hS => ?_)
    have hP := hB
    have hP : va_P D vwCl (wN ci am X kr (nI (stt X.2.2.2.2.2.1 X.2.2.2.2.1 (mP X.2.2.2.2.2.1 X.2.2.2.2.1 false (isW X.2.2.2.2.2.1 X.2.2.2.2.1 p 7) p))) (nI (nxt X.2.2.2.2.2.1 X.2.2.2.2.1 (mP X.2.2.2.2.2.1 X.2.2.2.2.1 false (isW X.2.2.2.2.2.1 X.2.2.2.2.1 p 7) p))) (nI (min (srt X.2.2.2.2.2.1 X.2.2.2.2.1 (mP X.2.2.2.2.2.1 X.2.2.2.2.1 false (isW X.2.2.2.2.2.1 X.2.2.2.2.1 p 7) p)) 3)) (nI (vlu X.2.2.2.2.2.1 X.2.2.2.2.1 (mP X.2.2.2.2.2.1 X.2.2.2.2.1 false (isW X.2.2.2.2.2.1 X.2.2.2.2.1 p 7) p))) (nI (mm)) (nI (n5)) (mW false (isW X.2.2.2.2.2.1 X.2.2.2.2.1 p 7)) kn y0 y1 y2 y3 y4 y5 y6) H1 := hP
    generalize H1 = H at hP hS ⊢
    have hD : va_D (aM am) (wN ci am X kr (nI (stt X.2.2.2.2.2.1 X.2.2.2.2.1 (mP X.2.2.2.2.2.1 X.2.2.2.2.1 false (isW X.2.2.2.2.2.1 X.2.2.2.2.1 p 7) p))) (nI (nxt X.2.2.2.2.2.1 X.2.2.2.2.1 (mP X.2.2.2.2.2.1 X.2.2.2.2.1 false (isW X.2.2.2.2.2.1 X.2.2.2.2.1 p 7) p))) (nI (min (srt X.2.2.2.2.2.1 X.2.2.2.2.1 (mP X.2.2.2.2.2.1 X.2.2.2.2.1 false (isW X.2.2.2.2.2.1 X.2.2.2.2.1 p 7) p)) 3)) (nI (vlu X.2.2.2.2.2.1 X.2.2.2.2.1 (mP X.2.2.2.2.2.1 X.2.2.2.2.1 false (isW X.2.2.2.2.2.1 X.2.2.2.2.1 p 7) p))) (nI (mm)) (nI (n5)) (mW false (isW X.2.2.2.2.2.1 X.2.2.2.2.1 p 7)) kn y0 y1 y2 y3 y4 y5 y6) := wN_D hI
    have f3 := mP_le (tb := X.2.2.2.2.2.1) (wr := false) (is := isW X.2.2.2.2.2.1 X.2.2.2.2.1 p 7) (show p ≤ X.2.2.2.2.1 by omega)
    have f4 := tokf (tb := X.2.2.2.2.2.1) (mP_le (tb := X.2.2.2.2.2.1) (wr := false) (is := isW X.2.2.2.2.2.1 X.2.2.2.2.1 p 7) (show p ≤ X.2.2.2.2.1 by omega))
    obtain ⟨r0, e_r0⟩ : ∃ r0, rb0 X.2.2.2.2.2.1 X.2.2.2.2.1 p = r0 := ⟨_, rfl⟩
    have hP : va_P D vwCl (wN ci am X kr (nI (stt X.2.2.2.2.2.1 X.2.2.2.2.1 r0.2)) (nI (nxt X.2.2.2.2.2.1 X.2.2.2.2.1 r0.2)) (nI (min (srt X.2.2.2.2.2.1 X.2.2.2.2.1 r0.2) 3)) (nI (vlu X.2.2.2.2.2.1 X.2.2.2.2.1 r0.2)) (nI (mm)) (nI (n5)) r0.1 kn y0 y1 y2 y3 y4 y5 y6) H := by rw [← e_r0]; exact hP
    have hD : va_D (aM am) (wN ci am X kr (nI (stt X.2.2.2.2.2.1 X.2.2.2.2.1 r0.2)) (nI (nxt X.2.2.2.2.2.1 X.2.2.2.2.1 r0.2)) (nI (min (srt X.2.2.2.2.2.1 X.2.2.2.2.1 r0.2) 3)) (nI (vlu X.2.2.2.2.2.1 X.2.2.2.2.1 r0.2)) (nI (mm)) (nI (n5)) r0.1 kn y0 y1 y2 y3 y4 y5 y6) := wN_D hI
    have f_r0 : r0.2 ≤ X.2.2.2.2.1 := by rw [← e_r0]; exact mP_le h_p
    have f_r0t := tokf (tb := X.2.2.2.2.2.1) (tl := X.2.2.2.2.1) (p := r0.2) (by omega)
    refine lv_aload_n hx hb dX4_readItem_104 rfl (lv_at hl 1 rfl) ?_
    refine lv_iconst (v := nI (0)) hx hb dX4_readItem_105 (by decide) ?_
    refine lv_bipush (v := nI (11)) hx hb dX4_readItem_106 (by decide) ?_
    refine mu_V (n := 2) (As := [.int (nI 0), .int (nI 11)]) (rest := []) ⟨hx, hb, hml, hown, hts⟩ (c_X4_number l D ci am X kr (nI (stt X.2.2.2.2.2.1 X.2.2.2.2.1 r0.2)) (nI (nxt X.2.2.2.2.2.1 X.2.2.2.2.1 r0.2)) (nI (min (srt X.2.2.2.2.2.1 X.2.2.2.2.1 r0.2) 3)) (nI (vlu X.2.2.2.2.2.1 X.2.2.2.2.1 r0.2)) (nI (mm)) (nI (n5)) r0.1 kn y0 y1 y2 y3 y4 y5 y6 hI G adK adV fx (r0.1) (r0.2) (11) hGA h_kn h_tl h_tb (by omega) (by omega)) gX4_readItem_X4_number rfl ⟨rfl, rfl⟩ (by decide +kernel) rfl ⟨Nat.le_of_ble_eq_true rfl, Nat.le_of_ble_eq_true rfl⟩ hE (enW_S hGA hs0 hS) hK hP (ci := 4) (q0 := 0) rfl rfl hl.1 rfl (Nat.le_of_ble_eq_true rfl) dX4_readItem_108 ⟨Nat.zero_le _, Nat.zero_le _⟩ hS (fun _ h => h) (fun H1 locs hz hfr hB hS => ?_)
    have hP := hB
    have hP : va_P D vwCl (wN ci am X kr (nI (stt X.2.2.2.2.2.1 X.2.2.2.2.1 (mP X.2.2.2.2.2.1 X.2.2.2.2.1 r0.1 (rNum X.2.2.2.2.2.1 X.2.2.2.2.1 r0.2 11) r0.2))) (nI (nxt X.2.2.2.2.2.1 X.2.2.2.2.1 (mP X.2.2.2.2.2.1 X.2.2.2.2.1 r0.1 (rNum X.2.2.2.2.2.1 X.2.2.2.2.1 r0.2 11) r0.2))) (nI (min (srt X.2.2.2.2.2.1 X.2.2.2.2.1 (mP X.2.2.2.2.2.1 X.2.2.2.2.1 r0.1 (rNum X.2.2.2.2.2.1 X.2.2.2.2.1 r0.2 11) r0.2)) 3)) (nI (vlu X.2.2.2.2.2.1 X.2.2.2.2.1 (mP X.2.2.2.2.2.1 X.2.2.2.2.1 r0.1 (rNum X.2.2.2.2.2.1 X.2.2.2.2.1 r0.2 11) r0.2))) (nI (mm)) (nI (n5)) (mW r0.1 (rNum X.2.2.2.2.2.1 X.2.2.2.2.1 r0.2 11)) kn y0 y1 y2 y3 y4 y5 y6) H1 := hP
    generalize H1 = H at hP hS ⊢
    have hD : va_D (aM am) (wN ci am X kr (nI (stt X.2.2.2.2.2.1 X.2.2.2.2.1 (mP X.2.2.2.2.2.1 X.2.2.2.2.1 r0.1 (rNum X.2.2.2.2.2.1 X.2.2.2.2.1 r0.2 11) r0.2))) (nI (nxt X.2.2.2.2.2.1 X.2.2.2.2.1 (mP X.2.2.2.2.2.1 X.2.2.2.2.1 r0.1 (rNum X.2.2.2.2.2.1 X.2.2.2.2.1 r0.2 11) r0.2))) (nI (min (srt X.2.2.2.2.2.1 X.2.2.2.2.1 (mP X.2.2.2.2.2.1 X.2.2.2.2.1 r0.1 (rNum X.2.2.2.2.2.1 X.2.2.2.2.1 r0.2 11) r0.2)) 3)) (nI (vlu X.2.2.2.2.2.1 X.2.2.2.2.1 (mP X.2.2.2.2.2.1 X.2.2.2.2.1 r0.1 (rNum X.2.2.2.2.2.1 X.2.2.2.2.1 r0.2 11) r0.2))) (nI (mm)) (nI (n5)) (mW r0.1 (rNum X.2.2.2.2.2.1 X.2.2.2.2.1 r0.2 11)) kn y0 y1 y2 y3 y4 y5 y6) := wN_D hI
    have f5 := mP_le (tb := X.2.2.2.2.2.1) (wr := r0.1) (is := (rNum X.2.2.2.2.2.1 X.2.2.2.2.1 r0.2 11)) (show r0.2 ≤ X.2.2.2.2.1 by omega)
    have f6 := tokf (tb := X.2.2.2.2.2.1) (mP_le (tb := X.2.2.2.2.2.1) (wr := r0.1) (is := rNum X.2.2.2.2.2.1 X.2.2.2.2.1 r0.2 11) (show r0.2 ≤ X.2.2.2.2.1 by omega))
    obtain ⟨r1, e_r1⟩ : ∃ r1, rb1 X.2.2.2.2.2.1 X.2.2.2.2.1 11 r0 = r1 := ⟨_, rfl⟩
    have hP : va_P D vwCl (wN ci am X kr (nI (stt X.2.2.2.2.2.1 X.2.2.2.2.1 r1.2)) (nI (nxt X.2.2.2.2.2.1 X.2.2.2.2.1 r1.2)) (nI (min (srt X.2.2.2.2.2.1 X.2.2.2.2.1 r1.2) 3)) (nI (vlu X.2.2.2.2.2.1 X.2.2.2.2.1 r1.2)) (nI (mm)) (nI (n5)) r1.1 kn y0 y1 y2 y3 y4 y5 y6) H := by rw [← e_r1]; exact hP
    have hD : va_D (aM am) (wN ci am X kr (nI (stt X.2.2.2.2.2.1 X.2.2.2.2.1 r1.2)) (nI (nxt X.2.2.2.2.2.1 X.2.2.2.2.1 r1.2)) (nI (min (srt X.2.2.2.2.2.1 X.2.2.2.2.1 r1.2) 3)) (nI (vlu X.2.2.2.2.2.1 X.2.2.2.2.1 r1.2)) (nI (mm)) (nI (n5)) r1.1 kn y0 y1 y2 y3 y4 y5 y6) := wN_D hI
    have f_r1 : r1.2 ≤ X.2.2.2.2.1 := by rw [← e_r1]; exact mP_le f_r0
    have f_r1t := tokf (tb := X.2.2.2.2.2.1) (tl := X.2.2.2.2.1) (p := r1.2) (by omega)
    refine lv_istore_n (lv' := [(2, .int (nI (vlu X.2.2.2.2.2.1 X.2.2.2.2.1 r0.2))), (1, .int (nI (kT X.2.2.2.2.2.1 X.2.2.2.2.1 p) - nI (1))), (0, .ref (am 0))]) hx hb dX4_readItem_111 rfl hl (by decide) rfl (fun ls hl => ?_)
    refine lv_aload_n hx hb dX4_readItem_112 rfl (lv_at hl 2 rfl) ?_
    refine lv_bipush (v := nI (10)) hx hb dX4_readItem_113 (by decide) ?_
    refine lv_iload_n hx hb dX4_readItem_115 rfl (lv_at hl 0 rfl) ?_
    refine lv_aload_n hx hb dX4_readItem_116 rfl (lv_at hl 2 rfl) ?_
    refine lv_iconst (v := nI (0)) hx hb dX4_readItem_117 (by decide) ?_
    refine lv_bipush (v := nI (63)) hx hb dX4_readItem_118 (by decide) ?_
    refine mu_V (n := 2) (As := [.int (nI 0), .int (nI 63)]) (rest := [.int (nI (vlu X.2.2.2.2.2.1 X.2.2.2.2.1 r0.2)), .int (nI 10), .ref (am 0)]) ⟨hx, hb, hml, hown, hts⟩ (c_X4_number l D ci am X kr (nI (stt X.2.2.2.2.2.1 X.2.2.2.2.1 r1.2)) (nI (nxt X.2.2.2.2.2.1 X.2.2.2.2.1 r1.2)) (nI (min (srt X.2.2.2.2.2.1 X.2.2.2.2.1 r1.2) 3)) (nI (vlu X.2.2.2.2.2.1 X.2.2.2.2.1 r1.2)) (nI (mm)) (nI (n5)) r1.1 kn y0 y1 y2 y3 y4 y5 y6 hI G adK adV fx (r1.1) (r1.2) (63) hGA h_kn h_tl h_tb (by omega) (by omega)) gX4_readItem_X4_number rfl ⟨rfl, rfl⟩ (by decide +kernel) rfl ⟨Nat.le_of_ble_eq_true rfl, Nat.le_of_ble_eq_true rfl⟩ hE (enW_S hGA hs0 hS) hK hP (ci := 4) (q0 := 0) rfl rfl hl.1 rfl (Nat.le_of_ble_eq_true rfl) dX4_readItem_120 ⟨Nat.zero_le _, Nat.zero_le _⟩ hS (fun _ h => h) (fun H1 locs hz hfr hB hS => ?_)
    have hP := hB
    have hP : va_P D vwCl (wN ci am X kr (nI (stt X.2.2.2.2.2.1 X.2.2.2.2.1 (mP X.2.2.2.2.2.1 X.2.2.2.2.1 r1.1 (rNum X.2.2.2.2.2.1 X.2.2.2.2.1 r1.2 63) r1.2))) (nI (nxt X.2.2.2.2.2.1 X.2.2.2.2.1 (mP X.2.2.2.2.2.1 X.2.2.2.2.1 r1.1 (rNum X.2.2.2.2.2.1 X.2.2.2.2.1 r1.2 63) r1.2))) (nI (min (srt X.2.2.2.2.2.1 X.2.2.2.2.1 (mP X.2.2.2.2.2.1 X.2.2.2.2.1 r1.1 (rNum X.2.2.2.2.2.1 X.2.2.2.2.1 r1.2 63) r1.2)) 3)) (nI (vlu X.2.2.2.2.2.1 X.2.2.2.2.1 (mP X.2.2.2.2.2.1 X.2.2.2.2.1 r1.1 (rNum X.2.2.2.2.2.1 X.2.2.2.2.1 r1.2 63) r1.2))) (nI (mm)) (nI (n5)) (mW r1.1 (rNum X.2.2.2.2.2.1 X.2.2.2.2.1 r1.2 63)) kn y0 y1 y2 y3 y4 y5 y6) H1 := hP
    generalize H1 = H at hP hS ⊢
    have hD : va_D (aM am) (wN ci am X kr (nI (stt X.2.2.2.2.2.1 X.2.2.2.2.1 (mP X.2.2.2.2.2.1 X.2.2.2.2.1 r1.1 (rNum X.2.2.2.2.2.1 X.2.2.2.2.1 r1.2 63) r1.2))) (nI (nxt X.2.2.2.2.2.1 X.2.2.2.2.1 (mP X.2.2.2.2.2.1 X.2.2.2.2.1 r1.1 (rNum X.2.2.2.2.2.1 X.2.2.2.2.1 r1.2 63) r1.2))) (nI (min (srt X.2.2.2.2.2.1 X.2.2.2.2.1 (mP X.2.2.2.2.2.1 X.2.2.2.2.1 r1.1 (rNum X.2.2.2.2.2.1 X.2.2.2.2.1 r1.2 63) r1.2)) 3)) (nI (vlu X.2.2.2.2.2.1 X.2.2.2.2.1 (mP X.2.2.2.2.2.1 X.2.2.2.2.1 r1.1 (rNum X.2.2.2.2.2.1 X.2.2.2.2.1 r1.2 63) r1.2))) (nI (mm)) (nI (n5)) (mW r1.1 (rNum X.2.2.2.2.2.1 X.2.2.2.2.1 r1.2 63)) kn y0 y1 y2 y3 y4 y5 y6) := wN_D hI
    have f7 := mP_le (tb := X.2.2.2.2.2.1) (wr := r1.1) (is := (rNum X.2.2.2.2.2.1 X.2.2.2.2.1 r1.2 63)) (show r1.2 ≤ X.2.2.2.2.1 by omega)
    have f8 := tokf (tb := X.2.2.2.2.2.1) (mP_le (tb := X.2.2.2.2.2.1) (wr := r1.1) (is := rNum X.2.2.2.2.2.1 X.2.2.2.2.1 r1.2 63) (show r1.2 ≤ X.2.2.2.2.1 by omega))
    obtain ⟨r2, e_r2⟩ : ∃ r2, rb1 X.2.2.2.2.2.1 X.2.2.2.2.1 63 r1 = r2 := ⟨_, rfl⟩
    have hP : va_P D vwCl (wN ci am X kr (nI (stt X.2.2.2.2.2.1 X.2.2.2.2.1 r2.2)) (nI (nxt X.2.2.2.2.2.1 X.2.2.2.2.1 r2.2)) (nI (min (srt X.2.2.2.2.2.1 X.2.2.2.2.1 r2.2) 3)) (nI (vlu X.2.2.2.2.2.1 X.2.2.2.2.1 r2.2)) (nI (mm)) (nI (n5)) r2.1 kn y0 y1 y2 y3 y4 y5 y6) H := by rw [← e_r2]; exact hP
    have hD : va_D (aM am) (wN ci am X kr (nI (stt X.2.2.2.2.2.1 X.2.2.2.2.1 r2.2)) (nI (nxt X.2.2.2.2.2.1 X.2.2.2.2.1 r2.2)) (nI (min (srt X.2.2.2.2.2.1 X.2.2.2.2.1 r2.2) 3)) (nI (vlu X.2.2.2.2.2.1 X.2.2.2.2.1 r2.2)) (nI (mm)) (nI (n5)) r2.1 kn y0 y1 y2 y3 y4 y5 y6) := wN_D hI
    have f_r2 : r2.2 ≤ X.2.2.2.2.1 := by rw [← e_r2]; exact mP_le f_r1
    have f_r2t := tokf (tb := X.2.2.2.2.2.1) (tl := X.2.2.2.2.1) (p := r2.2) (by omega)
    refine lv_iconst (v := nI (0)) hx hb dX4_readItem_123 (by decide) ?_
    refine lv_iconst (v := nI (0)) hx hb dX4_readItem_124 (by decide) ?_
    refine mu_V (n := 5) (As := [.int (nI 10), .int (nI (vlu X.2.2.2.2.2.1 X.2.2.2.2.1 r0.2)), .int (nI (vlu X.2.2.2.2.2.1 X.2.2.2.2.1 r1.2)), .int (nI 0), .int (nI 0)]) (rest := []) ⟨hx, hb, hml, hown, hts⟩ (c_X4_item l D ci am X kr (nI (stt X.2.2.2.2.2.1 X.2.2.2.2.1 r2.2)) (nI (nxt X.2.2.2.2.2.1 X.2.2.2.2.1 r2.2)) (nI (min (srt X.2.2.2.2.2.1 X.2.2.2.2.1 r2.2) 3)) (nI (vlu X.2.2.2.2.2.1 X.2.2.2.2.1 r2.2)) (nI (mm)) (nI (n5)) r2.1 kn y0 y1 y2 y3 y4 y5 y6 hI G adK adV fx (mm) (nI (10)) (nI (vlu X.2.2.2.2.2.1 X.2.2.2.2.1 r0.2)) (nI (vlu X.2.2.2.2.2.1 X.2.2.2.2.1 r1.2)) (nI (0)) (nI (0)) hGA h_kn h_tl h_tb (by omega)) gX4_readItem_X4_item rfl ⟨rfl, rfl⟩ (by decide +kernel) rfl ⟨Nat.le_of_ble_eq_true rfl, Nat.le_of_ble_eq_true rfl⟩ hE (enW_S hGA hs0 hS) hK hP (ci := 4) (q0 := 0) rfl rfl hl.1 rfl (Nat.le_of_ble_eq_true rfl) dX4_readItem_125 ⟨Nat.zero_le _, Nat.zero_le _⟩ hS (fun _ h => h) (fun H1 locs hz hfr hB hS => ?_)
    have hP := hB
    have hP : va_P D vwCl (wN ci am X kr (nI (stt X.2.2.2.2.2.1 X.2.2.2.2.1 r2.2)) (nI (nxt X.2.2.2.2.2.1 X.2.2.2.2.1 r2.2)) (nI (min (srt X.2.2.2.2.2.1 X.2.2.2.2.1 r2.2) 3)) (nI (vlu X.2.2.2.2.2.1 X.2.2.2.2.1 r2.2)) (nI ((mm + 1))) (nI (n5)) r2.1 kn y0 y1 y2 y3 y4 (itU y5 (mm) (nI (10)) (nI (vlu X.2.2.2.2.2.1 X.2.2.2.2.1 r0.2)) (nI (vlu X.2.2.2.2.2.1 X.2.2.2.2.1 r1.2)) (nI (0)) (nI (0))) y6) H1 := hP
    generalize H1 = H at hP hS ⊢
    have hD : va_D (aM am) (wN ci am X kr (nI (stt X.2.2.2.2.2.1 X.2.2.2.2.1 r2.2)) (nI (nxt X.2.2.2.2.2.1 X.2.2.2.2.1 r2.2)) (nI (min (srt X.2.2.2.2.2.1 X.2.2.2.2.1 r2.2) 3)) (nI (vlu X.2.2.2.2.2.1 X.2.2.2.2.1 r2.2)) (nI ((mm + 1))) (nI (n5)) r2.1 kn y0 y1 y2 y3 y4 (itU y5 (mm) (nI (10)) (nI (vlu X.2.2.2.2.2.1 X.2.2.2.2.1 r0.2)) (nI (vlu X.2.2.2.2.2.1 X.2.2.2.2.1 r1.2)) (nI (0)) (nI (0))) y6) := wN_D hI
    have e_S : riS X.2.2.2.2.2.1 X.2.2.2.2.1 p n5 = r2 := by rw [riS_b (by omega), e_r0, e_r1, e_r2]
    have e_Y := riY_b (y := y5) (m := mm) (n5 := n5) (by omega) e_r0 e_r1
    have e_N : riN X.2.2.2.2.2.1 X.2.2.2.2.1 p n5 = n5 := if_neg (by omega)
    exact mu_vret hx hb hr hlocks hS ((by rw [e_S, e_Y, e_N]; exact hP)) dX4_readItem_128
  · obtain ⟨k1, e_k1⟩ : ∃ k1, kT X.2.2.2.2.2.1 X.2.2.2.2.1 p = k1 + 1 := ⟨kT X.2.2.2.2.2.1 X.2.2.2.2.1 p - 1, by omega⟩
    rw [show nI (kT X.2.2.2.2.2.1 X.2.2.2.2.1 p) - nI 1 = nI k1 by rw [e_k1]; exact nI_pred k1] at hl
    refine lv_aload_n hx hb dX4_readItem_9 rfl (lv_at hl 1 rfl) ?_
    refine lv_aload_n hx hb dX4_readItem_10 rfl (lv_at hl 1 rfl) ?_
    refine va_get (D := D) (ci := 4) (v := .int (nI n5)) (C := RX4) (T := TX4) (N := 24) hx hb hts hinX4 hown hK hP 0 rfl rfl 19 (by decide) (hts (.fieldLink RX4 296 "OneShortModel" "playerThen" "I") (List.mem_of_getElem? (i := 1) rfl)) (fun _ h9 => h9) rfl dX4_readItem_11 ?_
    refine lv_bipush (v := nI (8)) hx hb dX4_readItem_14 (by decide) ?_
    refine nv_icmp_ge (tgt := 23) hx hb (by omega) (by omega) dX4_readItem_16 (by decide) (fun c9 => ?_) (fun c9 => ?_)
    · refine lv_iconst (v := nI (0)) hx hb dX4_readItem_23 (by decide) ?_
      refine nv_cv (show nI (0) = bI (decide (n5 < 8)) from nv_f (decide_eq_false (by omega))) ?_
      refine mu_V (n := 1) (As := [.int (bI (decide (n5 < 8)))]) (rest := []) ⟨hx, hb, hml, hown, hts⟩ (c_X4_must l D ci am X kr (nI (stt X.2.2.2.2.2.1 X.2.2.2.2.1 p)) (nI (nxt X.2.2.2.2.2.1 X.2.2.2.2.1 p)) (nI (min (srt X.2.2.2.2.2.1 X.2.2.2.2.1 p) 3)) (nI (vlu X.2.2.2.2.2.1 X.2.2.2.2.1 p)) (nI (mm)) (nI (n5)) false kn y0 y1 y2 y3 y4 y5 y6 hI G adK adV fx (decide (n5 < 8)) (false) (p) hGA h_kn h_tl h_tb (by omega)) gX4_readItem_X4_must rfl ⟨rfl, rfl⟩ (by decide +kernel) rfl ⟨Nat.le_of_ble_eq_true rfl, Nat.le_of_ble_eq_true rfl⟩ hE (enW_S hGA hs0 hS) hK hP (ci := 4) (q0 := 0) rfl rfl hl.1 rfl (Nat.le_of_ble_eq_true rfl) dX4_readItem_24 ⟨Nat.zero_le _, Nat.zero_le _⟩ hS (fun _ h => h) (fun H1 locs hz hfr hB hS => ?_)
      have hP := hB
      have hP : va_P D vwCl (wN ci am X kr (nI (stt X.2.2.2.2.2.1 X.2.2.2.2.1 (mP X.2.2.2.2.2.1 X.2.2.2.2.1 false (decide (n5 < 8)) p))) (nI (nxt X.2.2.2.2.2.1 X.2.2.2.2.1 (mP X.2.2.2.2.2.1 X.2.2.2.2.1 false (decide (n5 < 8)) p))) (nI (min (srt X.2.2.2.2.2.1 X.2.2.2.2.1 (mP X.2.2.2.2.2.1 X.2.2.2.2.1 false (decide (n5 < 8)) p)) 3)) (nI (vlu X.2.2.2.2.2.1 X.2.2.2.2.1 (mP X.2.2.2.2.2.1 X.2.2.2.2.1 false (decide (n5 < 8)) p))) (nI (mm)) (nI (n5)) (mW false (decide (n5 < 8))) kn y0 y1 y2 y3 y4 y5 y6) H1 := hP
      generalize H1 = H at hP hS ⊢
      have hD : va_D (aM am) (wN ci am X kr (nI (stt X.2.2.2.2.2.1 X.2.2.2.2.1 (mP X.2.2.2.2.2.1 X.2.2.2.2.1 false (decide (n5 < 8)) p))) (nI (nxt X.2.2.2.2.2.1 X.2.2.2.2.1 (mP X.2.2.2.2.2.1 X.2.2.2.2.1 false (decide (n5 < 8)) p))) (nI (min (srt X.2.2.2.2.2.1 X.2.2.2.2.1 (mP X.2.2.2.2.2.1 X.2.2.2.2.1 false (decide (n5 < 8)) p)) 3)) (nI (vlu X.2.2.2.2.2.1 X.2.2.2.2.1 (mP X.2.2.2.2.2.1 X.2.2.2.2.1 false (decide (n5 < 8)) p))) (nI (mm)) (nI (n5)) (mW false (decide (n5 < 8))) kn y0 y1 y2 y3 y4 y5 y6) := wN_D hI
      have f10 := mP_le (tb := X.2.2.2.2.2.1) (wr := false) (is := decide (n5 < 8)) (show p ≤ X.2.2.2.2.1 by omega)
      have f11 := tokf (tb := X.2.2.2.2.2.1) (mP_le (tb := X.2.2.2.2.2.1) (wr := false) (is := decide (n5 < 8)) (show p ≤ X.2.2.2.2.1 by omega))
      obtain ⟨r0, e_r0⟩ : ∃ r0, rk0 X.2.2.2.2.2.1 X.2.2.2.2.1 n5 p = r0 := ⟨_, rfl⟩
      have hP : va_P D vwCl (wN ci am X kr (nI (stt X.2.2.2.2.2.1 X.2.2.2.2.1 r0.2)) (nI (nxt X.2.2.2.2.2.1 X.2.2.2.2.1 r0.2)) (nI (min (srt X.2.2.2.2.2.1 X.2.2.2.2.1 r0.2) 3)) (nI (vlu X.2.2.2.2.2.1 X.2.2.2.2.1 r0.2)) (nI (mm)) (nI (n5)) r0.1 kn y0 y1 y2 y3 y4 y5 y6) H := by rw [← e_r0]; exact hP
      have hD : va_D (aM am) (wN ci am X kr (nI (stt X.2.2.2.2.2.1 X.2.2.2.2.1 r0.2)) (nI (nxt X.2.2.2.2.2.1 X.2.2.2.2.1 r0.2)) (nI (min (srt X.2.2.2.2.2.1 X.2.2.2.2.1 r0.2) 3)) (nI (vlu X.2.2.2.2.2.1 X.2.2.2.2.1 r0.2)) (nI (mm)) (nI (n5)) r0.1 kn y0 y1 y2 y3 y4 y5 y6) := wN_D hI
      have f_r0 : r0.2 ≤ X.2.2.2.2.1 := by rw [← e_r0]; exact mP_le h_p
      have f_r0t := tokf (tb := X.2.2.2.2.2.1) (tl := X.2.2.2.2.1) (p := r0.2) (by omega)
      refine lv_aload_n hx hb dX4_readItem_27 rfl (lv_at hl 1 rfl) ?_
      refine lv_dup hx hb dX4_readItem_28 rfl ?_
      refine va_get (D := D) (ci := 4) (v := .int (nI n5)) (C := RX4) (T := TX4) (N := 24) hx hb hts hinX4 hown hK hP 0 rfl rfl 19 (by decide) (hts (.fieldLink RX4 296 "OneShortModel" "playerThen" "I") (List.mem_of_getElem? (i := 1) rfl)) (fun _ h9 => h9) rfl dX4_readItem_29 ?_
      refine lv_iconst (v := nI (1)) hx hb dX4_readItem_32 (by decide) ?_
      refine nv_iadd hx hb dX4_readItem_33 ?_
      refine va_put (D := D) (ci := 4) (v := .int (nI ((n5 + 1)))) (ty := .int) (C := RX4) (T := TX4) (N := 24) hx hb hts hinX4 tyX4 tyX4_ok nmX4 hown hK hP hD hS 0 rfl rfl 19 (by decide) (hts (.fieldLink RX4 296 "OneShortModel" "playerThen" "I") (List.mem_of_getElem? (i := 1) rfl)) (fun _ h9 => h9) rfl (by decide +kernel) rfl rfl (Nat.le_of_ble_eq_true rfl) dX4_readItem_34 (fun H locs hP hD hS => ?_)
      have hP : va_P D vwCl (wN ci am X kr (nI (stt X.2.2.2.2.2.1 X.2.2.2.2.1 r0.2)) (nI (nxt X.2.2.2.2.2.1 X.2.2.2.2.1 r0.2)) (nI (min (srt X.2.2.2.2.2.1 X.2.2.2.2.1 r0.2) 3)) (nI (vlu X.2.2.2.2.2.1 X.2.2.2.2.1 r0.2)) (nI (mm)) (nI ((n5 + 1))) r0.1 kn y0 y1 y2 y3 y4 y5 y6) H := va_P.re (wN_q5 ci am X kr (nI (stt X.2.2.2.2.2.1 X.2.2.2.2.1 r0.2)) (nI (nxt X.2.2.2.2.2.1 X.2.2.2.2.1 r0.2)) (nI (min (srt X.2.2.2.2.2.1 X.2.2.2.2.1 r0.2) 3)) (nI (vlu X.2.2.2.2.2.1 X.2.2.2.2.1 r0.2)) (nI (mm)) (nI (n5)) r0.1 kn y0 y1 y2 y3 y4 y5 y6 (nI ((n5 + 1)))) hP
      have hD : va_D (aM am) (wN ci am X kr (nI (stt X.2.2.2.2.2.1 X.2.2.2.2.1 r0.2)) (nI (nxt X.2.2.2.2.2.1 X.2.2.2.2.1 r0.2)) (nI (min (srt X.2.2.2.2.2.1 X.2.2.2.2.1 r0.2) 3)) (nI (vlu X.2.2.2.2.2.1 X.2.2.2.2.1 r0.2)) (nI (mm)) (nI ((n5 + 1))) r0.1 kn y0 y1 y2 y3 y4 y5 y6) := wN_D hI
      refine lv_aload_n hx hb dX4_readItem_37 rfl (lv_at hl 1 rfl) ?_
      refine nv_ldcwS (tx := "on") (q := adK 8) hx hb hown (hs0.2.2.2 ("OneShortModel", 299, "on", 8) (by decide)) dX4_readItem_38 ?_
      refine lv_iconst (v := nI (0)) hx hb dX4_readItem_41 (by decide) ?_
      refine lv_bipush (v := nI (15)) hx hb dX4_readItem_42 (by decide) ?_
      refine mu_V (n := 3) (As := [.ref (adK 8), .int (nI 0), .int (nI 15)]) (rest := []) ⟨hx, hb, hml, hown, hts⟩ (c_X4_afterWord l D ci am X kr (nI (stt X.2.2.2.2.2.1 X.2.2.2.2.1 r0.2)) (nI (nxt X.2.2.2.2.2.1 X.2.2.2.2.1 r0.2)) (nI (min (srt X.2.2.2.2.2.1 X.2.2.2.2.1 r0.2) 3)) (nI (vlu X.2.2.2.2.2.1 X.2.2.2.2.1 r0.2)) (nI (mm)) (nI ((n5 + 1))) r0.1 kn y0 y1 y2 y3 y4 y5 y6 hI G adK adV fx (r0.1) (r0.2) (8) (0) (15) hGA h_kn h_tl h_tb (by omega) (by omega) (by omega) (by omega)) gX4_readItem_X4_afterWord rfl ⟨rfl, rfl⟩ (by decide +kernel) rfl ⟨Nat.le_of_ble_eq_true rfl, Nat.le_of_ble_eq_true rfl⟩ hE (enW_S hGA hs0 hS) hK hP (ci := 4) (q0 := 0) rfl rfl hl.1 rfl (Nat.le_of_ble_eq_true rfl) dX4_readItem_44 ⟨Nat.zero_le _, Nat.zero_le _⟩ hS (fun _ h => h) (fun H1 locs hz hfr hB hS => ?_)
      have hP := hB
      have hP : va_P D vwCl (wN ci am X kr (nI (stt X.2.2.2.2.2.1 X.2.2.2.2.1 ((aS X.2.2.2.2.2.1 X.2.2.2.2.1 8 15 (r0.1, r0.2)).2))) (nI (nxt X.2.2.2.2.2.1 X.2.2.2.2.1 ((aS X.2.2.2.2.2.1 X.2.2.2.2.1 8 15 (r0.1, r0.2)).2))) (nI (min (srt X.2.2.2.2.2.1 X.2.2.2.2.1 ((aS X.2.2.2.2.2.1 X.2.2.2.2.1 8 15 (r0.1, r0.2)).2)) 3)) (nI (vlu X.2.2.2.2.2.1 X.2.2.2.2.1 ((aS X.2.2.2.2.2.1 X.2.2.2.2.1 8 15 (r0.1, r0.2)).2))) (nI (mm)) (nI ((n5 + 1))) ((aS X.2.2.2.2.2.1 X.2.2.2.2.1 8 15 (r0.1, r0.2)).1) kn y0 y1 y2 y3 y4 y5 y6) H1 := hP
      generalize H1 = H at hP hS ⊢
      have hD : va_D (aM am) (wN ci am X kr (nI (stt X.2.2.2.2.2.1 X.2.2.2.2.1 ((aS X.2.2.2.2.2.1 X.2.2.2.2.1 8 15 (r0.1, r0.2)).2))) (nI (nxt X.2.2.2.2.2.1 X.2.2.2.2.1 ((aS X.2.2.2.2.2.1 X.2.2.2.2.1 8 15 (r0.1, r0.2)).2))) (nI (min (srt X.2.2.2.2.2.1 X.2.2.2.2.1 ((aS X.2.2.2.2.2.1 X.2.2.2.2.1 8 15 (r0.1, r0.2)).2)) 3)) (nI (vlu X.2.2.2.2.2.1 X.2.2.2.2.1 ((aS X.2.2.2.2.2.1 X.2.2.2.2.1 8 15 (r0.1, r0.2)).2))) (nI (mm)) (nI ((n5 + 1))) ((aS X.2.2.2.2.2.1 X.2.2.2.2.1 8 15 (r0.1, r0.2)).1) kn y0 y1 y2 y3 y4 y5 y6) := wN_D hI
      have f12 := aS_le (tb := X.2.2.2.2.2.1) (i := 8) (hi := 15) (r := (r0.1, r0.2)) (show r0.2 ≤ X.2.2.2.2.1 by omega)
      obtain ⟨r1, e_r1⟩ : ∃ r1, aS X.2.2.2.2.2.1 X.2.2.2.2.1 8 15 r0 = r1 := ⟨_, rfl⟩
      have hP : va_P D vwCl (wN ci am X kr (nI (stt X.2.2.2.2.2.1 X.2.2.2.2.1 r1.2)) (nI (nxt X.2.2.2.2.2.1 X.2.2.2.2.1 r1.2)) (nI (min (srt X.2.2.2.2.2.1 X.2.2.2.2.1 r1.2) 3)) (nI (vlu X.2.2.2.2.2.1 X.2.2.2.2.1 r1.2)) (nI (mm)) (nI ((n5 + 1))) r1.1 kn y0 y1 y2 y3 y4 y5 y6) H := by rw [← e_r1]; exact hP
      have hD : va_D (aM am) (wN ci am X kr (nI (stt X.2.2.2.2.2.1 X.2.2.2.2.1 r1.2)) (nI (nxt X.2.2.2.2.2.1 X.2.2.2.2.1 r1.2)) (nI (min (srt X.2.2.2.2.2.1 X.2.2.2.2.1 r1.2) 3)) (nI (vlu X.2.2.2.2.2.1 X.2.2.2.2.1 r1.2)) (nI (mm)) (nI ((n5 + 1))) r1.1 kn y0 y1 y2 y3 y4 y5 y6) := wN_D hI
      have f_r1 : r1.2 ≤ X.2.2.2.2.1 := by rw [← e_r1]; exact aS_le f_r0
      have f_r1t := tokf (tb := X.2.2.2.2.2.1) (tl := X.2.2.2.2.1) (p := r1.2) (by omega)
      refine lv_istore_n (lv' := [(2, .int (nI (aV X.2.2.2.2.2.1 X.2.2.2.2.1 8 0 (r0.1, r0.2)))), (1, .int (nI k1)), (0, .ref (am 0))]) hx hb dX4_readItem_47 rfl hl (by decide) rfl (fun ls hl => ?_)
      refine lv_aload_n hx hb dX4_readItem_48 rfl (lv_at hl 2 rfl) ?_
      refine nv_ldcwS (tx := "part") (q := adK 9) hx hb hown (hs0.2.2.2 ("OneShortModel", 305, "part", 9) (by decide)) dX4_readItem_49 ?_
      refine lv_iconst (v := nI (0)) hx hb dX4_readItem_52 (by decide) ?_
      refine lv_iconst (v := nI (5)) hx hb dX4_readItem_53 (by decide) ?_
      refine mu_V (n := 3) (As := [.ref (adK 9), .int (nI 0), .int (nI 5)]) (rest := []) ⟨hx, hb, hml, hown, hts⟩ (c_X4_afterWord l D ci am X kr (nI (stt X.2.2.2.2.2.1 X.2.2.2.2.1 r1.2)) (nI (nxt X.2.2.2.2.2.1 X.2.2.2.2.1 r1.2)) (nI (min (srt X.2.2.2.2.2.1 X.2.2.2.2.1 r1.2) 3)) (nI (vlu X.2.2.2.2.2.1 X.2.2.2.2.1 r1.2)) (nI (mm)) (nI ((n5 + 1))) r1.1 kn y0 y1 y2 y3 y4 y5 y6 hI G adK adV fx (r1.1) (r1.2) (9) (0) (5) hGA h_kn h_tl h_tb (by omega) (by omega) (by omega) (by omega)) gX4_readItem_X4_afterWord rfl ⟨rfl, rfl⟩ (by decide +kernel) rfl ⟨Nat.le_of_ble_eq_true rfl, Nat.le_of_ble_eq_true rfl⟩ hE (enW_S hGA hs0 hS) hK hP (ci := 4) (q0 := 0) rfl rfl hl.1 rfl (Nat.le_of_ble_eq_true rfl) dX4_readItem_54 ⟨Nat.zero_le _, Nat.zero_le _⟩ hS (fun _ h => h) (fun H1 locs hz hfr hB hS => ?_)
      have hP := hB
      have hP : va_P D vwCl (wN ci am X kr (nI (stt X.2.2.2.2.2.1 X.2.2.2.2.1 ((aS X.2.2.2.2.2.1 X.2.2.2.2.1 9 5 (r1.1, r1.2)).2))) (nI (nxt X.2.2.2.2.2.1 X.2.2.2.2.1 ((aS X.2.2.2.2.2.1 X.2.2.2.2.1 9 5 (r1.1, r1.2)).2))) (nI (min (srt X.2.2.2.2.2.1 X.2.2.2.2.1 ((aS X.2.2.2.2.2.1 X.2.2.2.2.1 9 5 (r1.1, r1.2)).2)) 3)) (nI (vlu X.2.2.2.2.2.1 X.2.2.2.2.1 ((aS X.2.2.2.2.2.1 X.2.2.2.2.1 9 5 (r1.1, r1.2)).2))) (nI (mm)) (nI ((n5 + 1))) ((aS X.2.2.2.2.2.1 X.2.2.2.2.1 9 5 (r1.1, r1.2)).1) kn y0 y1 y2 y3 y4 y5 y6) H1 := hP
      generalize H1 = H at hP hS ⊢
      have hD : va_D (aM am) (wN ci am X kr (nI (stt X.2.2.2.2.2.1 X.2.2.2.2.1 ((aS X.2.2.2.2.2.1 X.2.2.2.2.1 9 5 (r1.1, r1.2)).2))) (nI (nxt X.2.2.2.2.2.1 X.2.2.2.2.1 ((aS X.2.2.2.2.2.1 X.2.2.2.2.1 9 5 (r1.1, r1.2)).2))) (nI (min (srt X.2.2.2.2.2.1 X.2.2.2.2.1 ((aS X.2.2.2.2.2.1 X.2.2.2.2.1 9 5 (r1.1, r1.2)).2)) 3)) (nI (vlu X.2.2.2.2.2.1 X.2.2.2.2.1 ((aS X.2.2.2.2.2.1 X.2.2.2.2.1 9 5 (r1.1, r1.2)).2))) (nI (mm)) (nI ((n5 + 1))) ((aS X.2.2.2.2.2.1 X.2.2.2.2.1 9 5 (r1.1, r1.2)).1) kn y0 y1 y2 y3 y4 y5 y6) := wN_D hI
      have f13 := aS_le (tb := X.2.2.2.2.2.1) (i := 9) (hi := 5) (r := (r1.1, r1.2)) (show r1.2 ≤ X.2.2.2.2.1 by omega)
      obtain ⟨r2, e_r2⟩ : ∃ r2, aS X.2.2.2.2.2.1 X.2.2.2.2.1 9 5 r1 = r2 := ⟨_, rfl⟩
      have hP : va_P D vwCl (wN ci am X kr (nI (stt X.2.2.2.2.2.1 X.2.2.2.2.1 r2.2)) (nI (nxt X.2.2.2.2.2.1 X.2.2.2.2.1 r2.2)) (nI (min (srt X.2.2.2.2.2.1 X.2.2.2.2.1 r2.2) 3)) (nI (vlu X.2.2.2.2.2.1 X.2.2.2.2.1 r2.2)) (nI (mm)) (nI ((n5 + 1))) r2.1 kn y0 y1 y2 y3 y4 y5 y6) H := by rw [← e_r2]; exact hP
      have hD : va_D (aM am) (wN ci am X kr (nI (stt X.2.2.2.2.2.1 X.2.2.2.2.1 r2.2)) (nI (nxt X.2.2.2.2.2.1 X.2.2.2.2.1 r2.2)) (nI (min (srt X.2.2.2.2.2.1 X.2.2.2.2.1 r2.2) 3)) (nI (vlu X.2.2.2.2.2.1 X.2.2.2.2.1 r2.2)) (nI (mm)) (nI ((n5 + 1))) r2.1 kn y0 y1 y2 y3 y4 y5 y6) := wN_D hI
      have f_r2 : r2.2 ≤ X.2.2.2.2.1 := by rw [← e_r2]; exact aS_le f_r1
      have f_r2t := tokf (tb := X.2.2.2.2.2.1) (tl := X.2.2.2.2.1) (p := r2.2) (by omega)
      refine lv_istore_n (lv' := [(3, .int (nI (aV X.2.2.2.2.2.1 X.2.2.2.2.1 9 0 (r1.1, r1.2)))), (2, .int (nI (aV X.2.2.2.2.2.1 X.2.2.2.2.1 8 0 (r0.1, r0.2)))), (1, .int (nI k1)), (0, .ref (am 0))]) hx hb dX4_readItem_57 rfl hl (by decide) rfl (fun ls hl => ?_)
      refine lv_aload_n hx hb dX4_readItem_58 rfl (lv_at hl 3 rfl) ?_
      refine nv_ldcwS (tx := "loud") (q := adK 10) hx hb hown (hs0.2.2.2 ("OneShortModel", 307, "loud", 10) (by decide)) dX4_readItem_59 ?_
      refine lv_iconst (v := nI (5)) hx hb dX4_readItem_62 (by decide) ?_
      refine lv_bipush (v := nI (9)) hx hb dX4_readItem_63 (by decide) ?_
      refine mu_V (n := 3) (As := [.ref (adK 10), .int (nI 5), .int (nI 9)]) (rest := []) ⟨hx, hb, hml, hown, hts⟩ (c_X4_afterWord l D ci am X kr (nI (stt X.2.2.2.2.2.1 X.2.2.2.2.1 r2.2)) (nI (nxt X.2.2.2.2.2.1 X.2.2.2.2.1 r2.2)) (nI (min (srt X.2.2.2.2.2.1 X.2.2.2.2.1 r2.2) 3)) (nI (vlu X.2.2.2.2.2.1 X.2.2.2.2.1 r2.2)) (nI (mm)) (nI ((n5 + 1))) r2.1 kn y0 y1 y2 y3 y4 y5 y6 hI G adK adV fx (r2.1) (r2.2) (10) (5) (9) hGA h_kn h_tl h_tb (by omega) (by omega) (by omega) (by omega)) gX4_readItem_X4_afterWord rfl ⟨rfl, rfl⟩ (by decide +kernel) rfl ⟨Nat.le_of_ble_eq_true rfl, Nat.le_of_ble_eq_true rfl⟩ hE (enW_S hGA hs0 hS) hK hP (ci := 4) (q0 := 0) rfl rfl hl.1 rfl (Nat.le_of_ble_eq_true rfl) dX4_readItem_65 ⟨Nat.zero_le _, Nat.zero_le _⟩ hS (fun _ h => h) (fun H1 locs hz hfr hB hS => ?_)
      have hP := hB
      have hP : va_P D vwCl (wN ci am X kr (nI (stt X.2.2.2.2.2.1 X.2.2.2.2.1 ((aS X.2.2.2.2.2.1 X.2.2.2.2.1 10 9 (r2.1, r2.2)).2))) (nI (nxt X.2.2.2.2.2.1 X.2.2.2.2.1 ((aS X.2.2.2.2.2.1 X.2.2.2.2.1 10 9 (r2.1, r2.2)).2))) (nI (min (srt X.2.2.2.2.2.1 X.2.2.2.2.1 ((aS X.2.2.2.2.2.1 X.2.2.2.2.1 10 9 (r2.1, r2.2)).2)) 3)) (nI (vlu X.2.2.2.2.2.1 X.2.2.2.2.1 ((aS X.2.2.2.2.2.1 X.2.2.2.2.1 10 9 (r2.1, r2.2)).2))) (nI (mm)) (nI ((n5 + 1))) ((aS X.2.2.2.2.2.1 X.2.2.2.2.1 10 9 (r2.1, r2.2)).1) kn y0 y1 y2 y3 y4 y5 y6) H1 := hP
      generalize H1 = H at hP hS ⊢
      have hD : va_D (aM am) (wN ci am X kr (nI (stt X.2.2.2.2.2.1 X.2.2.2.2.1 ((aS X.2.2.2.2.2.1 X.2.2.2.2.1 10 9 (r2.1, r2.2)).2))) (nI (nxt X.2.2.2.2.2.1 X.2.2.2.2.1 ((aS X.2.2.2.2.2.1 X.2.2.2.2.1 10 9 (r2.1, r2.2)).2))) (nI (min (srt X.2.2.2.2.2.1 X.2.2.2.2.1 ((aS X.2.2.2.2.2.1 X.2.2.2.2.1 10 9 (r2.1, r2.2)).2)) 3)) (nI (vlu X.2.2.2.2.2.1 X.2.2.2.2.1 ((aS X.2.2.2.2.2.1 X.2.2.2.2.1 10 9 (r2.1, r2.2)).2))) (nI (mm)) (nI ((n5 + 1))) ((aS X.2.2.2.2.2.1 X.2.2.2.2.1 10 9 (r2.1, r2.2)).1) kn y0 y1 y2 y3 y4 y5 y6) := wN_D hI
      have f14 := aS_le (tb := X.2.2.2.2.2.1) (i := 10) (hi := 9) (r := (r2.1, r2.2)) (show r2.2 ≤ X.2.2.2.2.1 by omega)
      obtain ⟨r3, e_r3⟩ : ∃ r3, aS X.2.2.2.2.2.1 X.2.2.2.2.1 10 9 r2 = r3 := ⟨_, rfl⟩
      have hP : va_P D vwCl (wN ci am X kr (nI (stt X.2.2.2.2.2.1 X.2.2.2.2.1 r3.2)) (nI (nxt X.2.2.2.2.2.1 X.2.2.2.2.1 r3.2)) (nI (min (srt X.2.2.2.2.2.1 X.2.2.2.2.1 r3.2) 3)) (nI (vlu X.2.2.2.2.2.1 X.2.2.2.2.1 r3.2)) (nI (mm)) (nI ((n5 + 1))) r3.1 kn y0 y1 y2 y3 y4 y5 y6) H := by rw [← e_r3]; exact hP
      have hD : va_D (aM am) (wN ci am X kr (nI (stt X.2.2.2.2.2.1 X.2.2.2.2.1 r3.2)) (nI (nxt X.2.2.2.2.2.1 X.2.2.2.2.1 r3.2)) (nI (min (srt X.2.2.2.2.2.1 X.2.2.2.2.1 r3.2) 3)) (nI (vlu X.2.2.2.2.2.1 X.2.2.2.2.1 r3.2)) (nI (mm)) (nI ((n5 + 1))) r3.1 kn y0 y1 y2 y3 y4 y5 y6) := wN_D hI
      have f_r3 : r3.2 ≤ X.2.2.2.2.1 := by rw [← e_r3]; exact aS_le f_r2
      have f_r3t := tokf (tb := X.2.2.2.2.2.1) (tl := X.2.2.2.2.1) (p := r3.2) (by omega)
      refine lv_istore (lv' := [(4, .int (nI (aV X.2.2.2.2.2.1 X.2.2.2.2.1 10 5 (r2.1, r2.2)))), (3, .int (nI (aV X.2.2.2.2.2.1 X.2.2.2.2.1 9 0 (r1.1, r1.2)))), (2, .int (nI (aV X.2.2.2.2.2.1 X.2.2.2.2.1 8 0 (r0.1, r0.2)))), (1, .int (nI k1)), (0, .ref (am 0))]) hx hb dX4_readItem_68 hl (by decide) rfl (fun ls hl => ?_)
      refine lv_aload_n hx hb dX4_readItem_70 rfl (lv_at hl 4 rfl) ?_
      refine lv_iload_n hx hb dX4_readItem_71 rfl (lv_at hl 3 rfl) ?_
      refine lv_iload_n hx hb dX4_readItem_72 rfl (lv_at hl 2 rfl) ?_
      refine lv_iload_n hx hb dX4_readItem_73 rfl (lv_at hl 1 rfl) ?_
      refine lv_iload hx hb dX4_readItem_74 (lv_at hl 0 rfl) ?_
      refine lv_aload_n hx hb dX4_readItem_76 rfl (lv_at hl 4 rfl) ?_
      refine nv_ldcwS (tx := "nerve") (q := adK 11) hx hb hown (hs0.2.2.2 ("OneShortModel", 309, "nerve", 11) (by decide)) dX4_readItem_77 ?_
      refine lv_bipush (v := nI (50)) hx hb dX4_readItem_80 (by decide) ?_
      refine lv_bipush (v := nI (99)) hx hb dX4_readItem_82 (by decide) ?_
      refine mu_V (n := 3) (As := [.ref (adK 11), .int (nI 50), .int (nI 99)]) (rest := [.int (nI (aV X.2.2.2.2.2.1 X.2.2.2.2.1 10 5 (r2.1, r2.2))), .int (nI (aV X.2.2.2.2.2.1 X.2.2.2.2.1 9 0 (r1.1, r1.2))), .int (nI (aV X.2.2.2.2.2.1 X.2.2.2.2.1 8 0 (r0.1, r0.2))), .int (nI k1), .ref (am 0)]) ⟨hx, hb, hml, hown, hts⟩ (c_X4_afterWord l D ci am X kr (nI (stt X.2.2.2.2.2.1 X.2.2.2.2.1 r3.2)) (nI (nxt X.2.2.2.2.2.1 X.2.2.2.2.1 r3.2)) (nI (min (srt X.2.2.2.2.2.1 X.2.2.2.2.1 r3.2) 3)) (nI (vlu X.2.2.2.2.2.1 X.2.2.2.2.1 r3.2)) (nI (mm)) (nI ((n5 + 1))) r3.1 kn y0 y1 y2 y3 y4 y5 y6 hI G adK adV fx (r3.1) (r3.2) (11) (50) (99) hGA h_kn h_tl h_tb (by omega) (by omega) (by omega) (by omega)) gX4_readItem_X4_afterWord rfl ⟨rfl, rfl⟩ (by decide +kernel) rfl ⟨Nat.le_of_ble_eq_true rfl, Nat.le_of_ble_eq_true rfl⟩ hE (enW_S hGA hs0 hS) hK hP (ci := 4) (q0 := 0) rfl rfl hl.1 rfl (Nat.le_of_ble_eq_true rfl) dX4_readItem_84 ⟨Nat.zero_le _, Nat.zero_le _⟩ hS (fun _ h => h) (fun H1 locs hz hfr hB hS => ?_)
      have hP := hB
      have hP : va_P D vwCl (wN ci am X kr (nI (stt X.2.2.2.2.2.1 X.2.2.2.2.1 ((aS X.2.2.2.2.2.1 X.2.2.2.2.1 11 99 (r3.1, r3.2)).2))) (nI (nxt X.2.2.2.2.2.1 X.2.2.2.2.1 ((aS X.2.2.2.2.2.1 X.2.2.2.2.1 11 99 (r3.1, r3.2)).2))) (nI (min (srt X.2.2.2.2.2.1 X.2.2.2.2.1 ((aS X.2.2.2.2.2.1 X.2.2.2.2.1 11 99 (r3.1, r3.2)).2)) 3)) (nI (vlu X.2.2.2.2.2.1 X.2.2.2.2.1 ((aS X.2.2.2.2.2.1 X.2.2.2.2.1 11 99 (r3.1, r3.2)).2))) (nI (mm)) (nI ((n5 + 1))) ((aS X.2.2.2.2.2.1 X.2.2.2.2.1 11 99 (r3.1, r3.2)).1) kn y0 y1 y2 y3 y4 y5 y6) H1 := hP
      generalize H1 = H at hP hS ⊢
      have hD : va_D (aM am) (wN ci am X kr (nI (stt X.2.2.2.2.2.1 X.2.2.2.2.1 ((aS X.2.2.2.2.2.1 X.2.2.2.2.1 11 99 (r3.1, r3.2)).2))) (nI (nxt X.2.2.2.2.2.1 X.2.2.2.2.1 ((aS X.2.2.2.2.2.1 X.2.2.2.2.1 11 99 (r3.1, r3.2)).2))) (nI (min (srt X.2.2.2.2.2.1 X.2.2.2.2.1 ((aS X.2.2.2.2.2.1 X.2.2.2.2.1 11 99 (r3.1, r3.2)).2)) 3)) (nI (vlu X.2.2.2.2.2.1 X.2.2.2.2.1 ((aS X.2.2.2.2.2.1 X.2.2.2.2.1 11 99 (r3.1, r3.2)).2))) (nI (mm)) (nI ((n5 + 1))) ((aS X.2.2.2.2.2.1 X.2.2.2.2.1 11 99 (r3.1, r3.2)).1) kn y0 y1 y2 y3 y4 y5 y6) := wN_D hI
      have f15 := aS_le (tb := X.2.2.2.2.2.1) (i := 11) (hi := 99) (r := (r3.1, r3.2)) (show r3.2 ≤ X.2.2.2.2.1 by omega)
      obtain ⟨r4, e_r4⟩ : ∃ r4, aS X.2.2.2.2.2.1 X.2.2.2.2.1 11 99 r3 = r4 := ⟨_, rfl⟩
      have hP : va_P D vwCl (wN ci am X kr (nI (stt X.2.2.2.2.2.1 X.2.2.2.2.1 r4.2)) (nI (nxt X.2.2.2.2.2.1 X.2.2.2.2.1 r4.2)) (nI (min (srt X.2.2.2.2.2.1 X.2.2.2.2.1 r4.2) 3)) (nI (vlu X.2.2.2.2.2.1 X.2.2.2.2.1 r4.2)) (nI (mm)) (nI ((n5 + 1))) r4.1 kn y0 y1 y2 y3 y4 y5 y6) H := by rw [← e_r4]; exact hP
      have hD : va_D (aM am) (wN ci am X kr (nI (stt X.2.2.2.2.2.1 X.2.2.2.2.1 r4.2)) (nI (nxt X.2.2.2.2.2.1 X.2.2.2.2.1 r4.2)) (nI (min (srt X.2.2.2.2.2.1 X.2.2.2.2.1 r4.2) 3)) (nI (vlu X.2.2.2.2.2.1 X.2.2.2.2.1 r4.2)) (nI (mm)) (nI ((n5 + 1))) r4.1 kn y0 y1 y2 y3 y4 y5 y6) := wN_D hI
      have f_r4 : r4.2 ≤ X.2.2.2.2.1 := by rw [← e_r4]; exact aS_le f_r3
      have f_r4t := tokf (tb := X.2.2.2.2.2.1) (tl := X.2.2.2.2.1) (p := r4.2) (by omega)
      refine mu_V (n := 5) (As := [.int (nI k1), .int (nI (aV X.2.2.2.2.2.1 X.2.2.2.2.1 8 0 (r0.1, r0.2))), .int (nI (aV X.2.2.2.2.2.1 X.2.2.2.2.1 9 0 (r1.1, r1.2))), .int (nI (aV X.2.2.2.2.2.1 X.2.2.2.2.1 10 5 (r2.1, r2.2))), .int (nI (aV X.2.2.2.2.2.1 X.2.2.2.2.1 11 50 (r3.1, r3.2)))]) (rest := []) ⟨hx, hb, hml, hown, hts⟩ (c_X4_item l D ci am X kr (nI (stt X.2.2.2.2.2.1 X.2.2.2.2.1 r4.2)) (nI (nxt X.2.2.2.2.2.1 X.2.2.2.2.1 r4.2)) (nI (min (srt X.2.2.2.2.2.1 X.2.2.2.2.1 r4.2) 3)) (nI (vlu X.2.2.2.2.2.1 X.2.2.2.2.1 r4.2)) (nI (mm)) (nI ((n5 + 1))) r4.1 kn y0 y1 y2 y3 y4 y5 y6 hI G adK adV fx (mm) (nI (k1)) (nI (aV X.2.2.2.2.2.1 X.2.2.2.2.1 8 0 (r0.1, r0.2))) (nI (aV X.2.2.2.2.2.1 X.2.2.2.2.1 9 0 (r1.1, r1.2))) (nI (aV X.2.2.2.2.2.1 X.2.2.2.2.1 10 5 (r2.1, r2.2))) (nI (aV X.2.2.2.2.2.1 X.2.2.2.2.1 11 50 (r3.1, r3.2))) hGA h_kn h_tl h_tb (by omega)) gX4_readItem_X4_item rfl ⟨rfl, rfl⟩ (by decide +kernel) rfl ⟨Nat.le_of_ble_eq_true rfl, Nat.le_of_ble_eq_true rfl⟩ hE (enW_S hGA hs0 hS) hK hP (ci := 4) (q0 := 0) rfl rfl hl.1 rfl (Nat.le_of_ble_eq_true rfl) dX4_readItem_87 ⟨Nat.zero_le _, Nat.zero_le _⟩ hS (fun _ h => h) (fun H1 locs hz hfr hB hS => ?_)
      have hP := hB
      have hP : va_P D vwCl (wN ci am X kr (nI (stt X.2.2.2.2.2.1 X.2.2.2.2.1 r4.2)) (nI (nxt X.2.2.2.2.2.1 X.2.2.2.2.1 r4.2)) (nI (min (srt X.2.2.2.2.2.1 X.2.2.2.2.1 r4.2) 3)) (nI (vlu X.2.2.2.2.2.1 X.2.2.2.2.1 r4.2)) (nI ((mm + 1))) (nI ((n5 + 1))) r4.1 kn y0 y1 y2 y3 y4 (itU y5 (mm) (nI (k1)) (nI (aV X.2.2.2.2.2.1 X.2.2.2.2.1 8 0 (r0.1, r0.2))) (nI (aV X.2.2.2.2.2.1 X.2.2.2.2.1 9 0 (r1.1, r1.2))) (nI (aV X.2.2.2.2.2.1 X.2.2.2.2.1 10 5 (r2.1, r2.2))) (nI (aV X.2.2.2.2.2.1 X.2.2.2.2.1 11 50 (r3.1, r3.2)))) y6) H1 := hP
      generalize H1 = H at hP hS ⊢
      have hD : va_D (aM am) (wN ci am X kr (nI (stt X.2.2.2.2.2.1 X.2.2.2.2.1 r4.2)) (nI (nxt X.2.2.2.2.2.1 X.2.2.2.2.1 r4.2)) (nI (min (srt X.2.2.2.2.2.1 X.2.2.2.2.1 r4.2) 3)) (nI (vlu X.2.2.2.2.2.1 X.2.2.2.2.1 r4.2)) (nI ((mm + 1))) (nI ((n5 + 1))) r4.1 kn y0 y1 y2 y3 y4 (itU y5 (mm) (nI (k1)) (nI (aV X.2.2.2.2.2.1 X.2.2.2.2.1 8 0 (r0.1, r0.2))) (nI (aV X.2.2.2.2.2.1 X.2.2.2.2.1 9 0 (r1.1, r1.2))) (nI (aV X.2.2.2.2.2.1 X.2.2.2.2.1 10 5 (r2.1, r2.2))) (nI (aV X.2.2.2.2.2.1 X.2.2.2.2.1 11 50 (r3.1, r3.2)))) y6) := wN_D hI
      refine lv_goto (tgt := 128) hx hb dX4_readItem_90 (by decide) ?_
      have e_S : riS X.2.2.2.2.2.1 X.2.2.2.2.1 p n5 = r4 := by rw [riS_k (by omega), e_r0, e_r1, e_r2, e_r3, e_r4]
      have e_Y := riY_k (y := y5) (m := mm) e_k1 e_r0 e_r1 e_r2 e_r3
      have e_N : riN X.2.2.2.2.2.1 X.2.2.2.2.1 p n5 = n5 + 1 := if_pos (by omega)
      exact mu_vret hx hb hr hlocks hS ((by rw [e_S, e_Y, e_N]; exact hP)) dX4_readItem_128
    · refine lv_iconst (v := nI (1)) hx hb dX4_readItem_19 (by decide) ?_
      refine lv_goto (tgt := 24) hx hb dX4_readItem_20 (by decide) ?_
      refine nv_cv (show nI (1) = bI (decide (n5 < 8)) from nv_t (decide_eq_true (by omega))) ?_
      refine mu_V (n := 1) (As := [.int (bI (decide (n5 < 8)))]) (rest := []) ⟨hx, hb, hml, hown, hts⟩ (c_X4_must l D ci am X kr (nI (stt X.2.2.2.2.2.1 X.2.2.2.2.1 p)) (nI (nxt X.2.2.2.2.2.1 X.2.2.2.2.1 p)) (nI (min (srt X.2.2.2.2.2.1 X.2.2.2.2.1 p) 3)) (nI (vlu X.2.2.2.2.2.1 X.2.2.2.2.1 p)) (nI (mm)) (nI (n5)) false kn y0 y1 y2 y3 y4 y5 y6 hI G adK adV fx (decide (n5 < 8)) (false) (p) hGA h_kn h_tl h_tb (by omega)) gX4_readItem_X4_must rfl ⟨rfl, rfl⟩ (by decide +kernel) rfl ⟨Nat.le_of_ble_eq_true rfl, Nat.le_of_ble_eq_true rfl⟩ hE (enW_S hGA hs0 hS) hK hP (ci := 4) (q0 := 0) rfl rfl hl.1 rfl (Nat.le_of_ble_eq_true rfl) dX4_readItem_24 ⟨Nat.zero_le _, Nat.zero_le _⟩ hS (fun _ h => h) (fun H1 locs hz hfr hB hS => ?_)
      have hP := hB
      have hP : va_P D vwCl (wN ci am X kr (nI (stt X.2.2.2.2.2.1 X.2.2.2.2.1 (mP X.2.2.2.2.2.1 X.2.2.2.2.1 false (decide (n5 < 8)) p))) (nI (nxt X.2.2.2.2.2.1 X.2.2.2.2.1 (mP X.2.2.2.2.2.1 X.2.2.2.2.1 false (decide (n5 < 8)) p))) (nI (min (srt X.2.2.2.2.2.1 X.2.2.2.2.1 (mP X.2.2.2.2.2.1 X.2.2.2.2.1 false (decide (n5 < 8)) p)) 3)) (nI (vlu X.2.2.2.2.2.1 X.2.2.2.2.1 (mP X.2.2.2.2.2.1 X.2.2.2.2.1 false (decide (n5 < 8)) p))) (nI (mm)) (nI (n5)) (mW false (decide (n5 < 8))) kn y0 y1 y2 y3 y4 y5 y6) H1 := hP
      generalize H1 = H at hP hS ⊢
      have hD : va_D (aM am) (wN ci am X kr (nI (stt X.2.2.2.2.2.1 X.2.2.2.2.1 (mP X.2.2.2.2.2.1 X.2.2.2.2.1 false (decide (n5 < 8)) p))) (nI (nxt X.2.2.2.2.2.1 X.2.2.2.2.1 (mP X.2.2.2.2.2.1 X.2.2.2.2.1 false (decide (n5 < 8)) p))) (nI (min (srt X.2.2.2.2.2.1 X.2.2.2.2.1 (mP X.2.2.2.2.2.1 X.2.2.2.2.1 false (decide (n5 < 8)) p)) 3)) (nI (vlu X.2.2.2.2.2.1 X.2.2.2.2.1 (mP X.2.2.2.2.2.1 X.2.2.2.2.1 false (decide (n5 < 8)) p))) (nI (mm)) (nI (n5)) (mW false (decide (n5 < 8))) kn y0 y1 y2 y3 y4 y5 y6) := wN_D hI
      have f16 := mP_le (tb := X.2.2.2.2.2.1) (wr := false) (is := decide (n5 < 8)) (show p ≤ X.2.2.2.2.1 by omega)
      have f17 := tokf (tb := X.2.2.2.2.2.1) (mP_le (tb := X.2.2.2.2.2.1) (wr := false) (is := decide (n5 < 8)) (show p ≤ X.2.2.2.2.1 by omega))
      obtain ⟨r0, e_r0⟩ : ∃ r0, rk0 X.2.2.2.2.2.1 X.2.2.2.2.1 n5 p = r0 := ⟨_, rfl⟩
      have hP : va_P D vwCl (wN ci am X kr (nI (stt X.2.2.2.2.2.1 X.2.2.2.2.1 r0.2)) (nI (nxt X.2.2.2.2.2.1 X.2.2.2.2.1 r0.2)) (nI (min (srt X.2.2.2.2.2.1 X.2.2.2.2.1 r0.2) 3)) (nI (vlu X.2.2.2.2.2.1 X.2.2.2.2.1 r0.2)) (nI (mm)) (nI (n5)) r0.1 kn y0 y1 y2 y3 y4 y5 y6) H := by rw [← e_r0]; exact hP
      have hD : va_D (aM am) (wN ci am X kr (nI (stt X.2.2.2.2.2.1 X.2.2.2.2.1 r0.2)) (nI (nxt X.2.2.2.2.2.1 X.2.2.2.2.1 r0.2)) (nI (min (srt X.2.2.2.2.2.1 X.2.2.2.2.1 r0.2) 3)) (nI (vlu X.2.2.2.2.2.1 X.2.2.2.2.1 r0.2)) (nI (mm)) (nI (n5)) r0.1 kn y0 y1 y2 y3 y4 y5 y6) := wN_D hI
      have f_r0 : r0.2 ≤ X.2.2.2.2.1 := by rw [← e_r0]; exact mP_le h_p
      have f_r0t := tokf (tb := X.2.2.2.2.2.1) (tl := X.2.2.2.2.1) (p := r0.2) (by omega)
      refine lv_aload_n hx hb dX4_readItem_27 rfl (lv_at hl 1 rfl) ?_
      refine lv_dup hx hb dX4_readItem_28 rfl ?_
      refine va_get (D := D) (ci := 4) (v := .int (nI n5)) (C := RX4) (T := TX4) (N := 24) hx hb hts hinX4 hown hK hP 0 rfl rfl 19 (by decide) (hts (.fieldLink RX4 296 "OneShortModel" "playerThen" "I") (List.mem_of_getElem? (i := 1) rfl)) (fun _ h9 => h9) rfl dX4_readItem_29 ?_
      refine lv_iconst (v := nI (1)) hx hb dX4_readItem_32 (by decide) ?_
      refine nv_iadd hx hb dX4_readItem_33 ?_
      refine va_put (D := D) (ci := 4) (v := .int (nI ((n5 + 1)))) (ty := .int) (C := RX4) (T := TX4) (N := 24) hx hb hts hinX4 tyX4 tyX4_ok nmX4 hown hK hP hD hS 0 rfl rfl 19 (by decide) (hts (.fieldLink RX4 296 "OneShortModel" "playerThen" "I") (List.mem_of_getElem? (i := 1) rfl)) (fun _ h9 => h9) rfl (by decide +kernel) rfl rfl (Nat.le_of_ble_eq_true rfl) dX4_readItem_34 (fun H locs hP hD hS => ?_)
      have hP : va_P D vwCl (wN ci am X kr (nI (stt X.2.2.2.2.2.1 X.2.2.2.2.1 r0.2)) (nI (nxt X.2.2.2.2.2.1 X.2.2.2.2.1 r0.2)) (nI (min (srt X.2.2.2.2.2.1 X.2.2.2.2.1 r0.2) 3)) (nI (vlu X.2.2.2.2.2.1 X.2.2.2.2.1 r0.2)) (nI (mm)) (nI ((n5 + 1))) r0.1 kn y0 y1 y2 y3 y4 y5 y6) H := va_P.re (wN_q5 ci am X kr (nI (stt X.2.2.2.2.2.1 X.2.2.2.2.1 r0.2)) (nI (nxt X.2.2.2.2.2.1 X.2.2.2.2.1 r0.2)) (nI (min (srt X.2.2.2.2.2.1 X.2.2.2.2.1 r0.2) 3)) (nI (vlu X.2.2.2.2.2.1 X.2.2.2.2.1 r0.2)) (nI (mm)) (nI (n5)) r0.1 kn y0 y1 y2 y3 y4 y5 y6 (nI ((n5 + 1)))) hP
      have hD : va_D (aM am) (wN ci am X kr (nI (stt X.2.2.2.2.2.1 X.2.2.2.2.1 r0.2)) (nI (nxt X.2.2.2.2.2.1 X.2.2.2.2.1 r0.2)) (nI (min (srt X.2.2.2.2.2.1 X.2.2.2.2.1 r0.2) 3)) (nI (vlu X.2.2.2.2.2.1 X.2.2.2.2.1 r0.2)) (nI (mm)) (nI ((n5 + 1))) r0.1 kn y0 y1 y2 y3 y4 y5 y6) := wN_D hI
      refine lv_aload_n hx hb dX4_readItem_37 rfl (lv_at hl 1 rfl) ?_
      refine nv_ldcwS (tx := "on") (q := adK 8) hx hb hown (hs0.2.2.2 ("OneShortModel", 299, "on", 8) (by decide)) dX4_readItem_38 ?_
      refine lv_iconst (v := nI (0)) hx hb dX4_readItem_41 (by decide) ?_
      refine lv_bipush (v := nI (15)) hx hb dX4_readItem_42 (by decide) ?_
      refine mu_V (n := 3) (As := [.ref (adK 8), .int (nI 0), .int (nI 15)]) (rest := []) ⟨hx, hb, hml, hown, hts⟩ (c_X4_afterWord l D ci am X kr (nI (stt X.2.2.2.2.2.1 X.2.2.2.2.1 r0.2)) (nI (nxt X.2.2.2.2.2.1 X.2.2.2.2.1 r0.2)) (nI (min (srt X.2.2.2.2.2.1 X.2.2.2.2.1 r0.2) 3)) (nI (vlu X.2.2.2.2.2.1 X.2.2.2.2.1 r0.2)) (nI (mm)) (nI ((n5 + 1))) r0.1 kn y0 y1 y2 y3 y4 y5 y6 hI G adK adV fx (r0.1) (r0.2) (8) (0) (15) hGA h_kn h_tl h_tb (by omega) (by omega) (by omega) (by omega)) gX4_readItem_X4_afterWord rfl ⟨rfl, rfl⟩ (by decide +kernel) rfl ⟨Nat.le_of_ble_eq_true rfl, Nat.le_of_ble_eq_true rfl⟩ hE (enW_S hGA hs0 hS) hK hP (ci := 4) (q0 := 0) rfl rfl hl.1 rfl (Nat.le_of_ble_eq_true rfl) dX4_readItem_44 ⟨Nat.zero_le _, Nat.zero_le _⟩ hS (fun _ h => h) (fun H1 locs hz hfr hB hS => ?_)
      have hP := hB
      have hP : va_P D vwCl (wN ci am X kr (nI (stt X.2.2.2.2.2.1 X.2.2.2.2.1 ((aS X.2.2.2.2.2.1 X.2.2.2.2.1 8 15 (r0.1, r0.2)).2))) (nI (nxt X.2.2.2.2.2.1 X.2.2.2.2.1 ((aS X.2.2.2.2.2.1 X.2.2.2.2.1 8 15 (r0.1, r0.2)).2))) (nI (min (srt X.2.2.2.2.2.1 X.2.2.2.2.1 ((aS X.2.2.2.2.2.1 X.2.2.2.2.1 8 15 (r0.1, r0.2)).2)) 3)) (nI (vlu X.2.2.2.2.2.1 X.2.2.2.2.1 ((aS X.2.2.2.2.2.1 X.2.2.2.2.1 8 15 (r0.1, r0.2)).2))) (nI (mm)) (nI ((n5 + 1))) ((aS X.2.2.2.2.2.1 X.2.2.2.2.1 8 15 (r0.1, r0.2)).1) kn y0 y1 y2 y3 y4 y5 y6) H1 := hP
      generalize H1 = H at hP hS ⊢
      have hD : va_D (aM am) (wN ci am X kr (nI (stt X.2.2.2.2.2.1 X.2.2.2.2.1 ((aS X.2.2.2.2.2.1 X.2.2.2.2.1 8 15 (r0.1, r0.2)).2))) (nI (nxt X.2.2.2.2.2.1 X.2.2.2.2.1 ((aS X.2.2.2.2.2.1 X.2.2.2.2.1 8 15 (r0.1, r0.2)).2))) (nI (min (srt X.2.2.2.2.2.1 X.2.2.2.2.1 ((aS X.2.2.2.2.2.1 X.2.2.2.2.1 8 15 (r0.1, r0.2)).2)) 3)) (nI (vlu X.2.2.2.2.2.1 X.2.2.2.2.1 ((aS X.2.2.2.2.2.1 X.2.2.2.2.1 8 15 (r0.1, r0.2)).2))) (nI (mm)) (nI ((n5 + 1))) ((aS X.2.2.2.2.2.1 X.2.2.2.2.1 8 15 (r0.1, r0.2)).1) kn y0 y1 y2 y3 y4 y5 y6) := wN_D hI
      have f18 := aS_le (tb := X.2.2.2.2.2.1) (i := 8) (hi := 15) (r := (r0.1, r0.2)) (show r0.2 ≤ X.2.2.2.2.1 by omega)
      obtain ⟨r1, e_r1⟩ : ∃ r1, aS X.2.2.2.2.2.1 X.2.2.2.2.1 8 15 r0 = r1 := ⟨_, rfl⟩
      have hP : va_P D vwCl (wN ci am X kr (nI (stt X.2.2.2.2.2.1 X.2.2.2.2.1 r1.2)) (nI (nxt X.2.2.2.2.2.1 X.2.2.2.2.1 r1.2)) (nI (min (srt X.2.2.2.2.2.1 X.2.2.2.2.1 r1.2) 3)) (nI (vlu X.2.2.2.2.2.1 X.2.2.2.2.1 r1.2)) (nI (mm)) (nI ((n5 + 1))) r1.1 kn y0 y1 y2 y3 y4 y5 y6) H := by rw [← e_r1]; exact hP
      have hD : va_D (aM am) (wN ci am X kr (nI (stt X.2.2.2.2.2.1 X.2.2.2.2.1 r1.2)) (nI (nxt X.2.2.2.2.2.1 X.2.2.2.2.1 r1.2)) (nI (min (srt X.2.2.2.2.2.1 X.2.2.2.2.1 r1.2) 3)) (nI (vlu X.2.2.2.2.2.1 X.2.2.2.2.1 r1.2)) (nI (mm)) (nI ((n5 + 1))) r1.1 kn y0 y1 y2 y3 y4 y5 y6) := wN_D hI
      have f_r1 : r1.2 ≤ X.2.2.2.2.1 := by rw [← e_r1]; exact aS_le f_r0
      have f_r1t := tokf (tb := X.2.2.2.2.2.1) (tl := X.2.2.2.2.1) (p := r1.2) (by omega)
      refine lv_istore_n (lv' := [(2, .int (nI (aV X.2.2.2.2.2.1 X.2.2.2.2.1 8 0 (r0.1, r0.2)))), (1, .int (nI k1)), (0, .ref (am 0))]) hx hb dX4_readItem_47 rfl hl (by decide) rfl (fun ls hl => ?_)
      refine lv_aload_n hx hb dX4_readItem_48 rfl (lv_at hl 2 rfl) ?_
      refine nv_ldcwS (tx := "part") (q := adK 9) hx hb hown (hs0.2.2.2 ("OneShortModel", 305, "part", 9) (by decide)) dX4_readItem_49 ?_
      refine lv_iconst (v := nI (0)) hx hb dX4_readItem_52 (by decide) ?_
      refine lv_iconst (v := nI (5)) hx hb dX4_readItem_53 (by decide) ?_
      refine mu_V (n := 3) (As := [.ref (adK 9), .int (nI 0), .int (nI 5)]) (rest := []) ⟨hx, hb, hml, hown, hts⟩ (c_X4_afterWord l D ci am X kr (nI (stt X.2.2.2.2.2.1 X.2.2.2.2.1 r1.2)) (nI (nxt X.2.2.2.2.2.1 X.2.2.2.2.1 r1.2)) (nI (min (srt X.2.2.2.2.2.1 X.2.2.2.2.1 r1.2) 3)) (nI (vlu X.2.2.2.2.2.1 X.2.2.2.2.1 r1.2)) (nI (mm)) (nI ((n5 + 1))) r1.1 kn y0 y1 y2 y3 y4 y5 y6 hI G adK adV fx (r1.1) (r1.2) (9) (0) (5) hGA h_kn h_tl h_tb (by omega) (by omega) (by omega) (by omega)) gX4_readItem_X4_afterWord rfl ⟨rfl, rfl⟩ (by decide +kernel) rfl ⟨Nat.le_of_ble_eq_true rfl, Nat.le_of_ble_eq_true rfl⟩ hE (enW_S hGA hs0 hS) hK hP (ci := 4) (q0 := 0) rfl rfl hl.1 rfl (Nat.le_of_ble_eq_true rfl) dX4_readItem_54 ⟨Nat.zero_le _, Nat.zero_le _⟩ hS (fun _ h => h) (fun H1 locs hz hfr hB hS => ?_)
      have hP := hB
      have hP : va_P D vwCl (wN ci am X kr (nI (stt X.2.2.2.2.2.1 X.2.2.2.2.1 ((aS X.2.2.2.2.2.1 X.2.2.2.2.1 9 5 (r1.1, r1.2)).2))) (nI (nxt X.2.2.2.2.2.1 X.2.2.2.2.1 ((aS X.2.2.2.2.2.1 X.2.2.2.2.1 9 5 (r1.1, r1.2)).2))) (nI (min (srt X.2.2.2.2.2.1 X.2.2.2.2.1 ((aS X.2.2.2.2.2.1 X.2.2.2.2.1 9 5 (r1.1, r1.2)).2)) 3)) (nI (vlu X.2.2.2.2.2.1 X.2.2.2.2.1 ((aS X.2.2.2.2.2.1 X.2.2.2.2.1 9 5 (r1.1, r1.2)).2))) (nI (mm)) (nI ((n5 + 1))) ((aS X.2.2.2.2.2.1 X.2.2.2.2.1 9 5 (r1.1, r1.2)).1) kn y0 y1 y2 y3 y4 y5 y6) H1 := hP
      generalize H1 = H at hP hS ⊢
      have hD : va_D (aM am) (wN ci am X kr (nI (stt X.2.2.2.2.2.1 X.2.2.2.2.1 ((aS X.2.2.2.2.2.1 X.2.2.2.2.1 9 5 (r1.1, r1.2)).2))) (nI (nxt X.2.2.2.2.2.1 X.2.2.2.2.1 ((aS X.2.2.2.2.2.1 X.2.2.2.2.1 9 5 (r1.1, r1.2)).2))) (nI (min (srt X.2.2.2.2.2.1 X.2.2.2.2.1 ((aS X.2.2.2.2.2.1 X.2.2.2.2.1 9 5 (r1.1, r1.2)).2)) 3)) (nI (vlu X.2.2.2.2.2.1 X.2.2.2.2.1 ((aS X.2.2.2.2.2.1 X.2.2.2.2.1 9 5 (r1.1, r1.2)).2))) (nI (mm)) (nI ((n5 + 1))) ((aS X.2.2.2.2.2.1 X.2.2.2.2.1 9 5 (r1.1, r1.2)).1) kn y0 y1 y2 y3 y4 y5 y6) := wN_D hI
      have f19 := aS_le (tb := X.2.2.2.2.2.1) (i := 9) (hi := 5) (r := (r1.1, r1.2)) (show r1.2 ≤ X.2.2.2.2.1 by omega)
      obtain ⟨r2, e_r2⟩ : ∃ r2, aS X.2.2.2.2.2.1 X.2.2.2.2.1 9 5 r1 = r2 := ⟨_, rfl⟩
      have hP : va_P D vwCl (wN ci am X kr (nI (stt X.2.2.2.2.2.1 X.2.2.2.2.1 r2.2)) (nI (nxt X.2.2.2.2.2.1 X.2.2.2.2.1 r2.2)) (nI (min (srt X.2.2.2.2.2.1 X.2.2.2.2.1 r2.2) 3)) (nI (vlu X.2.2.2.2.2.1 X.2.2.2.2.1 r2.2)) (nI (mm)) (nI ((n5 + 1))) r2.1 kn y0 y1 y2 y3 y4 y5 y6) H := by rw [← e_r2]; exact hP
      have hD : va_D (aM am) (wN ci am X kr (nI (stt X.2.2.2.2.2.1 X.2.2.2.2.1 r2.2)) (nI (nxt X.2.2.2.2.2.1 X.2.2.2.2.1 r2.2)) (nI (min (srt X.2.2.2.2.2.1 X.2.2.2.2.1 r2.2) 3)) (nI (vlu X.2.2.2.2.2.1 X.2.2.2.2.1 r2.2)) (nI (mm)) (nI ((n5 + 1))) r2.1 kn y0 y1 y2 y3 y4 y5 y6) := wN_D hI
      have f_r2 : r2.2 ≤ X.2.2.2.2.1 := by rw [← e_r2]; exact aS_le f_r1
      have f_r2t := tokf (tb := X.2.2.2.2.2.1) (tl := X.2.2.2.2.1) (p := r2.2) (by omega)
      refine lv_istore_n (lv' := [(3, .int (nI (aV X.2.2.2.2.2.1 X.2.2.2.2.1 9 0 (r1.1, r1.2)))), (2, .int (nI (aV X.2.2.2.2.2.1 X.2.2.2.2.1 8 0 (r0.1, r0.2)))), (1, .int (nI k1)), (0, .ref (am 0))]) hx hb dX4_readItem_57 rfl hl (by decide) rfl (fun ls hl => ?_)
      refine lv_aload_n hx hb dX4_readItem_58 rfl (lv_at hl 3 rfl) ?_
      refine nv_ldcwS (tx := "loud") (q := adK 10) hx hb hown (hs0.2.2.2 ("OneShortModel", 307, "loud", 10) (by decide)) dX4_readItem_59 ?_
      refine lv_iconst (v := nI (5)) hx hb dX4_readItem_62 (by decide) ?_
      refine lv_bipush (v := nI (9)) hx hb dX4_readItem_63 (by decide) ?_
      refine mu_V (n := 3) (As := [.ref (adK 10), .int (nI 5), .int (nI 9)]) (rest := []) ⟨hx, hb, hml, hown, hts⟩ (c_X4_afterWord l D ci am X kr (nI (stt X.2.2.2.2.2.1 X.2.2.2.2.1 r2.2)) (nI (nxt X.2.2.2.2.2.1 X.2.2.2.2.1 r2.2)) (nI (min (srt X.2.2.2.2.2.1 X.2.2.2.2.1 r2.2) 3)) (nI (vlu X.2.2.2.2.2.1 X.2.2.2.2.1 r2.2)) (nI (mm)) (nI ((n5 + 1))) r2.1 kn y0 y1 y2 y3 y4 y5 y6 hI G adK adV fx (r2.1) (r2.2) (10) (5) (9) hGA h_kn h_tl h_tb (by omega) (by omega) (by omega) (by omega)) gX4_readItem_X4_afterWord rfl ⟨rfl, rfl⟩ (by decide +kernel) rfl ⟨Nat.le_of_ble_eq_true rfl, Nat.le_of_ble_eq_true rfl⟩ hE (enW_S hGA hs0 hS) hK hP (ci := 4) (q0 := 0) rfl rfl hl.1 rfl (Nat.le_of_ble_eq_true rfl) dX4_readItem_65 ⟨Nat.zero_le _, Nat.zero_le _⟩ hS (fun _ h => h) (fun H1 locs hz hfr hB hS => ?_)
      have hP := hB
      have hP : va_P D vwCl (wN ci am X kr (nI (stt X.2.2.2.2.2.1 X.2.2.2.2.1 ((aS X.2.2.2.2.2.1 X.2.2.2.2.1 10 9 (r2.1, r2.2)).2))) (nI (nxt X.2.2.2.2.2.1 X.2.2.2.2.1 ((aS X.2.2.2.2.2.1 X.2.2.2.2.1 10 9 (r2.1, r2.2)).2))) (nI (min (srt X.2.2.2.2.2.1 X.2.2.2.2.1 ((aS X.2.2.2.2.2.1 X.2.2.2.2.1 10 9 (r2.1, r2.2)).2)) 3)) (nI (vlu X.2.2.2.2.2.1 X.2.2.2.2.1 ((aS X.2.2.2.2.2.1 X.2.2.2.2.1 10 9 (r2.1, r2.2)).2))) (nI (mm)) (nI ((n5 + 1))) ((aS X.2.2.2.2.2.1 X.2.2.2.2.1 10 9 (r2.1, r2.2)).1) kn y0 y1 y2 y3 y4 y5 y6) H1 := hP
      generalize H1 = H at hP hS ⊢
      have hD : va_D (aM am) (wN ci am X kr (nI (stt X.2.2.2.2.2.1 X.2.2.2.2.1 ((aS X.2.2.2.2.2.1 X.2.2.2.2.1 10 9 (r2.1, r2.2)).2))) (nI (nxt X.2.2.2.2.2.1 X.2.2.2.2.1 ((aS X.2.2.2.2.2.1 X.2.2.2.2.1 10 9 (r2.1, r2.2)).2))) (nI (min (srt X.2.2.2.2.2.1 X.2.2.2.2.1 ((aS X.2.2.2.2.2.1 X.2.2.2.2.1 10 9 (r2.1, r2.2)).2)) 3)) (nI (vlu X.2.2.2.2.2.1 X.2.2.2.2.1 ((aS X.2.2.2.2.2.1 X.2.2.2.2.1 10 9 (r2.1, r2.2)).2))) (nI (mm)) (nI ((n5 + 1))) ((aS X.2.2.2.2.2.1 X.2.2.2.2.1 10 9 (r2.1, r2.2)).1) kn y0 y1 y2 y3 y4 y5 y6) := wN_D hI
      have f20 := aS_le (tb := X.2.2.2.2.2.1) (i := 10) (hi := 9) (r := (r2.1, r2.2)) (show r2.2 ≤ X.2.2.2.2.1 by omega)
      obtain ⟨r3, e_r3⟩ : ∃ r3, aS X.2.2.2.2.2.1 X.2.2.2.2.1 10 9 r2 = r3 := ⟨_, rfl⟩
      have hP : va_P D vwCl (wN ci am X kr (nI (stt X.2.2.2.2.2.1 X.2.2.2.2.1 r3.2)) (nI (nxt X.2.2.2.2.2.1 X.2.2.2.2.1 r3.2)) (nI (min (srt X.2.2.2.2.2.1 X.2.2.2.2.1 r3.2) 3)) (nI (vlu X.2.2.2.2.2.1 X.2.2.2.2.1 r3.2)) (nI (mm)) (nI ((n5 + 1))) r3.1 kn y0 y1 y2 y3 y4 y5 y6) H := by rw [← e_r3]; exact hP
      have hD : va_D (aM am) (wN ci am X kr (nI (stt X.2.2.2.2.2.1 X.2.2.2.2.1 r3.2)) (nI (nxt X.2.2.2.2.2.1 X.2.2.2.2.1 r3.2)) (nI (min (srt X.2.2.2.2.2.1 X.2.2.2.2.1 r3.2) 3)) (nI (vlu X.2.2.2.2.2.1 X.2.2.2.2.1 r3.2)) (nI (mm)) (nI ((n5 + 1))) r3.1 kn y0 y1 y2 y3 y4 y5 y6) := wN_D hI
      have f_r3 : r3.2 ≤ X.2.2.2.2.1 := by rw [← e_r3]; exact aS_le f_r2
      have f_r3t := tokf (tb := X.2.2.2.2.2.1) (tl := X.2.2.2.2.1) (p := r3.2) (by omega)
      refine lv_istore (lv' := [(4, .int (nI (aV X.2.2.2.2.2.1 X.2.2.2.2.1 10 5 (r2.1, r2.2)))), (3, .int (nI (aV X.2.2.2.2.2.1 X.2.2.2.2.1 9 0 (r1.1, r1.2)))), (2, .int (nI (aV X.2.2.2.2.2.1 X.2.2.2.2.1 8 0 (r0.1, r0.2)))), (1, .int (nI k1)), (0, .ref (am 0))]) hx hb dX4_readItem_68 hl (by decide) rfl (fun ls hl => ?_)
      refine lv_aload_n hx hb dX4_readItem_70 rfl (lv_at hl 4 rfl) ?_
      refine lv_iload_n hx hb dX4_readItem_71 rfl (lv_at hl 3 rfl) ?_
      refine lv_iload_n hx hb dX4_readItem_72 rfl (lv_at hl 2 rfl) ?_
      refine lv_iload_n hx hb dX4_readItem_73 rfl (lv_at hl 1 rfl) ?_
      refine lv_iload hx hb dX4_readItem_74 (lv_at hl 0 rfl) ?_
      refine lv_aload_n hx hb dX4_readItem_76 rfl (lv_at hl 4 rfl) ?_
      refine nv_ldcwS (tx := "nerve") (q := adK 11) hx hb hown (hs0.2.2.2 ("OneShortModel", 309, "nerve", 11) (by decide)) dX4_readItem_77 ?_
      refine lv_bipush (v := nI (50)) hx hb dX4_readItem_80 (by decide) ?_
      refine lv_bipush (v := nI (99)) hx hb dX4_readItem_82 (by decide) ?_
      refine mu_V (n := 3) (As := [.ref (adK 11), .int (nI 50), .int (nI 99)]) (rest := [.int (nI (aV X.2.2.2.2.2.1 X.2.2.2.2.1 10 5 (r2.1, r2.2))), .int (nI (aV X.2.2.2.2.2.1 X.2.2.2.2.1 9 0 (r1.1, r1.2))), .int (nI (aV X.2.2.2.2.2.1 X.2.2.2.2.1 8 0 (r0.1, r0.2))), .int (nI k1), .ref (am 0)]) ⟨hx, hb, hml, hown, hts⟩ (c_X4_afterWord l D ci am X kr (nI (stt X.2.2.2.2.2.1 X.2.2.2.2.1 r3.2)) (nI (nxt X.2.2.2.2.2.1 X.2.2.2.2.1 r3.2)) (nI (min (srt X.2.2.2.2.2.1 X.2.2.2.2.1 r3.2) 3)) (nI (vlu X.2.2.2.2.2.1 X.2.2.2.2.1 r3.2)) (nI (mm)) (nI ((n5 + 1))) r3.1 kn y0 y1 y2 y3 y4 y5 y6 hI G adK adV fx (r3.1) (r3.2) (11) (50) (99) hGA h_kn h_tl h_tb (by omega) (by omega) (by omega) (by omega)) gX4_readItem_X4_afterWord rfl ⟨rfl, rfl⟩ (by decide +kernel) rfl ⟨Nat.le_of_ble_eq_true rfl, Nat.le_of_ble_eq_true rfl⟩ hE (enW_S hGA hs0 hS) hK hP (ci := 4) (q0 := 0) rfl rfl hl.1 rfl (Nat.le_of_ble_eq_true rfl) dX4_readItem_84 ⟨Nat.zero_le _, Nat.zero_le _⟩ hS (fun _ h => h) (fun H1 locs hz hfr hB hS => ?_)
      have hP := hB
      have hP : va_P D vwCl (wN ci am X kr (nI (stt X.2.2.2.2.2.1 X.2.2.2.2.1 ((aS X.2.2.2.2.2.1 X.2.2.2.2.1 11 99 (r3.1, r3.2)).2))) (nI (nxt X.2.2.2.2.2.1 X.2.2.2.2.1 ((aS X.2.2.2.2.2.1 X.2.2.2.2.1 11 99 (r3.1, r3.2)).2))) (nI (min (srt X.2.2.2.2.2.1 X.2.2.2.2.1 ((aS X.2.2.2.2.2.1 X.2.2.2.2.1 11 99 (r3.1, r3.2)).2)) 3)) (nI (vlu X.2.2.2.2.2.1 X.2.2.2.2.1 ((aS X.2.2.2.2.2.1 X.2.2.2.2.1 11 99 (r3.1, r3.2)).2))) (nI (mm)) (nI ((n5 + 1))) ((aS X.2.2.2.2.2.1 X.2.2.2.2.1 11 99 (r3.1, r3.2)).1) kn y0 y1 y2 y3 y4 y5 y6) H1 := hP
      generalize H1 = H at hP hS ⊢
      have hD : va_D (aM am) (wN ci am X kr (nI (stt X.2.2.2.2.2.1 X.2.2.2.2.1 ((aS X.2.2.2.2.2.1 X.2.2.2.2.1 11 99 (r3.1, r3.2)).2))) (nI (nxt X.2.2.2.2.2.1 X.2.2.2.2.1 ((aS X.2.2.2.2.2.1 X.2.2.2.2.1 11 99 (r3.1, r3.2)).2))) (nI (min (srt X.2.2.2.2.2.1 X.2.2.2.2.1 ((aS X.2.2.2.2.2.1 X.2.2.2.2.1 11 99 (r3.1, r3.2)).2)) 3)) (nI (vlu X.2.2.2.2.2.1 X.2.2.2.2.1 ((aS X.2.2.2.2.2.1 X.2.2.2.2.1 11 99 (r3.1, r3.2)).2))) (nI (mm)) (nI ((n5 + 1))) ((aS X.2.2.2.2.2.1 X.2.2.2.2.1 11 99 (r3.1, r3.2)).1) kn y0 y1 y2 y3 y4 y5 y6) := wN_D hI
      have f21 := aS_le (tb := X.2.2.2.2.2.1) (i := 11) (hi := 99) (r := (r3.1, r3.2)) (show r3.2 ≤ X.2.2.2.2.1 by omega)
      obtain ⟨r4, e_r4⟩ : ∃ r4, aS X.2.2.2.2.2.1 X.2.2.2.2.1 11 99 r3 = r4 := ⟨_, rfl⟩
      have hP : va_P D vwCl (wN ci am X kr (nI (stt X.2.2.2.2.2.1 X.2.2.2.2.1 r4.2)) (nI (nxt X.2.2.2.2.2.1 X.2.2.2.2.1 r4.2)) (nI (min (srt X.2.2.2.2.2.1 X.2.2.2.2.1 r4.2) 3)) (nI (vlu X.2.2.2.2.2.1 X.2.2.2.2.1 r4.2)) (nI (mm)) (nI ((n5 + 1))) r4.1 kn y0 y1 y2 y3 y4 y5 y6) H := by rw [← e_r4]; exact hP
      have hD : va_D (aM am) (wN ci am X kr (nI (stt X.2.2.2.2.2.1 X.2.2.2.2.1 r4.2)) (nI (nxt X.2.2.2.2.2.1 X.2.2.2.2.1 r4.2)) (nI (min (srt X.2.2.2.2.2.1 X.2.2.2.2.1 r4.2) 3)) (nI (vlu X.2.2.2.2.2.1 X.2.2.2.2.1 r4.2)) (nI (mm)) (nI ((n5 + 1))) r4.1 kn y0 y1 y2 y3 y4 y5 y6) := wN_D hI
      have f_r4 : r4.2 ≤ X.2.2.2.2.1 := by rw [← e_r4]; exact aS_le f_r3
      have f_r4t := tokf (tb := X.2.2.2.2.2.1) (tl := X.2.2.2.2.1) (p := r4.2) (by omega)
      refine mu_V (n := 5) (As := [.int (nI k1), .int (nI (aV X.2.2.2.2.2.1 X.2.2.2.2.1 8 0 (r0.1, r0.2))), .int (nI (aV X.2.2.2.2.2.1 X.2.2.2.2.1 9 0 (r1.1, r1.2))), .int (nI (aV X.2.2.2.2.2.1 X.2.2.2.2.1 10 5 (r2.1, r2.2))), .int (nI (aV X.2.2.2.2.2.1 X.2.2.2.2.1 11 50 (r3.1, r3.2)))]) (rest := []) ⟨hx, hb, hml, hown, hts⟩ (c_X4_item l D ci am X kr (nI (stt X.2.2.2.2.2.1 X.2.2.2.2.1 r4.2)) (nI (nxt X.2.2.2.2.2.1 X.2.2.2.2.1 r4.2)) (nI (min (srt X.2.2.2.2.2.1 X.2.2.2.2.1 r4.2) 3)) (nI (vlu X.2.2.2.2.2.1 X.2.2.2.2.1 r4.2)) (nI (mm)) (nI ((n5 + 1))) r4.1 kn y0 y1 y2 y3 y4 y5 y6 hI G adK adV fx (mm) (nI (k1)) (nI (aV X.2.2.2.2.2.1 X.2.2.2.2.1 8 0 (r0.1, r0.2))) (nI (aV X.2.2.2.2.2.1 X.2.2.2.2.1 9 0 (r1.1, r1.2))) (nI (aV X.2.2.2.2.2.1 X.2.2.2.2.1 10 5 (r2.1, r2.2))) (nI (aV X.2.2.2.2.2.1 X.2.2.2.2.1 11 50 (r3.1, r3.2))) hGA h_kn h_tl h_tb (by omega)) gX4_readItem_X4_item rfl ⟨rfl, rfl⟩ (by decide +kernel) rfl ⟨Nat.le_of_ble_eq_true rfl, Nat.le_of_ble_eq_true rfl⟩ hE (enW_S hGA hs0 hS) hK hP (ci := 4) (q0 := 0) rfl rfl hl.1 rfl (Nat.le_of_ble_eq_true rfl) dX4_readItem_87 ⟨Nat.zero_le _, Nat.zero_le _⟩ hS (fun _ h => h) (fun H1 locs hz hfr hB hS => ?_)
      have hP := hB
      have hP : va_P D vwCl (wN ci am X kr (nI (stt X.2.2.2.2.2.1 X.2.2.2.2.1 r4.2)) (nI (nxt X.2.2.2.2.2.1 X.2.2.2.2.1 r4.2)) (nI (min (srt X.2.2.2.2.2.1 X.2.2.2.2.1 r4.2) 3)) (nI (vlu X.2.2.2.2.2.1 X.2.2.2.2.1 r4.2)) (nI ((mm + 1))) (nI ((n5 + 1))) r4.1 kn y0 y1 y2 y3 y4 (itU y5 (mm) (nI (k1)) (nI (aV X.2.2.2.2.2.1 X.2.2.2.2.1 8 0 (r0.1, r0.2))) (nI (aV X.2.2.2.2.2.1 X.2.2.2.2.1 9 0 (r1.1, r1.2))) (nI (aV X.2.2.2.2.2.1 X.2.2.2.2.1 10 5 (r2.1, r2.2))) (nI (aV X.2.2.2.2.2.1 X.2.2.2.2.1 11 50 (r3.1, r3.2)))) y6) H1 := hP
      generalize H1 = H at hP hS ⊢
      have hD : va_D (aM am) (wN ci am X kr (nI (stt X.2.2.2.2.2.1 X.2.2.2.2.1 r4.2)) (nI (nxt X.2.2.2.2.2.1 X.2.2.2.2.1 r4.2)) (nI (min (srt X.2.2.2.2.2.1 X.2.2.2.2.1 r4.2) 3)) (nI (vlu X.2.2.2.2.2.1 X.2.2.2.2.1 r4.2)) (nI ((mm + 1))) (nI ((n5 + 1))) r4.1 kn y0 y1 y2 y3 y4 (itU y5 (mm) (nI (k1)) (nI (aV X.2.2.2.2.2.1 X.2.2.2.2.1 8 0 (r0.1, r0.2))) (nI (aV X.2.2.2.2.2.1 X.2.2.2.2.1 9 0 (r1.1, r1.2))) (nI (aV X.2.2.2.2.2.1 X.2.2.2.2.1 10 5 (r2.1, r2.2))) (nI (aV X.2.2.2.2.2.1 X.2.2.2.2.1 11 50 (r3.1, r3.2)))) y6) := wN_D hI
      refine lv_goto (tgt := 128) hx hb dX4_readItem_90 (by decide) ?_
      have e_S : riS X.2.2.2.2.2.1 X.2.2.2.2.1 p n5 = r4 := by rw [riS_k (by omega), e_r0, e_r1, e_r2, e_r3, e_r4]
      have e_Y := riY_k (y := y5) (m := mm) e_k1 e_r0 e_r1 e_r2 e_r3
      have e_N : riN X.2.2.2.2.2.1 X.2.2.2.2.1 p n5 = n5 + 1 := if_pos (by omega)
      exact mu_vret hx hb hr hlocks hS ((by rw [e_S, e_Y, e_N]; exact hP)) dX4_readItem_128
