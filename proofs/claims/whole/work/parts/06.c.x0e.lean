/-! walks laid by program -/
set_option maxHeartbeats 4000000 in
set_option maxRecDepth 100000 in
/-- X0_become -/
theorem c_X0_become (l : Launch) (D : va_G) (ci : Nat → ClassId) (G : Nat → Prop) (ka : Nat) (a : Nat → Nat) (S : OS) (w r nb : Nat → Int32) (a2 : Nat → Nat) (S2 : OS) (w2 r2 nb2 : Nat → Int32) (hDD : va_D (aO2 a a2) (wO (ci 0) a S w r nb ++ wO (ci 0) a2 S2 w2 r2 nb2)) (hG : ∀ q, aO2 a a2 q → G q)   : Met l yX0_become wsX0_become ({ frames := 1, cells := 0, slots := 0, locals := 60 } : Room) (va_Pc [.ref (a 0), .ref (a2 0)] (ro_B D (tyL ci) ((wO (ci 0) a S w r nb) ++ (wO (ci 0) a2 S2 w2 r2 nb2)) (en D (ci 0) G ka))) (mu_Q (aO2 a a2) (none) (fun H => va_P D vwCl (wO (ci 0) a S2 w r nb ++ wO (ci 0) a2 S2 w2 r2 nb2) H)) 0 0 (aO2 a a2) := by
  refine mu_Met (cc := cX0_become) (maxL := 2) (ret := none) [(0, .ref (a 0)), (1, .ref (a2 0))] (hDD) (by decide) rfl (Nat.le_of_ble_eq_true rfl) rfl ?_
  intro p e s m below meth c H locs hx hb hml hr hlocks hts hown hP hK hs0 hD hS ls hl
  have hown : s.vm.findClass RX0 = some m.cls := hown
  have hinX0 : ∀ w ∈ wsX00, w ∈ wsX0_become := by decide +kernel
  refine lv_aload_n hx hb dX0_become_0 rfl (lv_at hl 1 rfl) ?_
  refine va_get (D := D) (ci := 0) (v := .ref (a2 1)) (C := RX0) (T := TX0) (N := 13) hx hb hts hinX0 hown hK hP 11 rfl rfl 0 (by decide) (hts (.fieldLink RX0 9 "OneShort$Orchestra" "bars" "[I") (List.mem_of_getElem? (i := 1) rfl)) (fun _ h9 => h9) rfl dX0_become_1 ?_
  refine lv_iconst (v := nI (0)) hx hb dX0_become_4 (by decide) ?_
  refine lv_aload_n hx hb dX0_become_5 rfl (lv_at hl 0 rfl) ?_
  refine va_get (D := D) (ci := 0) (v := .ref (a 1)) (C := RX0) (T := TX0) (N := 13) hx hb hts hinX0 hown hK hP 0 rfl rfl 0 (by decide) (hts (.fieldLink RX0 9 "OneShort$Orchestra" "bars" "[I") (List.mem_of_getElem? (i := 1) rfl)) (fun _ h9 => h9) rfl dX0_become_6 ?_
  refine lv_iconst (v := nI (0)) hx hb dX0_become_9 (by decide) ?_
  refine lv_bipush (v := nI (12)) hx hb dX0_become_10 (by decide) ?_
  refine nv_copyF hx hb (hml.trans hl.1.symm) hown (hts (.methodLink RX0 52 arraycopyName) (List.mem_of_getElem? (i := 2) rfl)) (hts (.native arraycopyName) (List.mem_of_getElem? (i := 3) rfl)) (hts (.static arraycopyName) (List.mem_of_getElem? (i := 4) rfl)) (hts (.initialized "java/lang/System") (List.mem_of_getElem? (i := 5) rfl)) hK hP hD hS 12 1 0 rfl rfl rfl (by decide) (Nat.le_of_ble_eq_true rfl) (Nat.le_of_ble_eq_true rfl) dX0_become_12 (fun H locs hP hD hS => ?_)
  have hP := va_P.re (show _ = ((wO (ci 0) a (cpR S S2 0) w r nb) ++ (wO (ci 0) a2 S2 w2 r2 nb2)) from rfl) hP
  have hD := va_D.re (show _ = ((wO (ci 0) a (cpR S S2 0) w r nb) ++ (wO (ci 0) a2 S2 w2 r2 nb2)) from rfl) hD
  refine lv_aload_n hx hb dX0_become_15 rfl (lv_at hl 1 rfl) ?_
  refine va_get (D := D) (ci := 0) (v := .ref (a2 2)) (C := RX0) (T := TX0) (N := 13) hx hb hts hinX0 hown hK hP 11 rfl rfl 1 (by decide) (hts (.fieldLink RX0 15 "OneShort$Orchestra" "kind" "[I") (List.mem_of_getElem? (i := 6) rfl)) (fun _ h9 => h9) rfl dX0_become_16 ?_
  refine lv_iconst (v := nI (0)) hx hb dX0_become_19 (by decide) ?_
  refine lv_aload_n hx hb dX0_become_20 rfl (lv_at hl 0 rfl) ?_
  refine va_get (D := D) (ci := 0) (v := .ref (a 2)) (C := RX0) (T := TX0) (N := 13) hx hb hts hinX0 hown hK hP 0 rfl rfl 1 (by decide) (hts (.fieldLink RX0 15 "OneShort$Orchestra" "kind" "[I") (List.mem_of_getElem? (i := 6) rfl)) (fun _ h9 => h9) rfl dX0_become_21 ?_
  refine lv_iconst (v := nI (0)) hx hb dX0_become_24 (by decide) ?_
  refine lv_bipush (v := nI (8)) hx hb dX0_become_25 (by decide) ?_
  refine nv_copyF hx hb (hml.trans hl.1.symm) hown (hts (.methodLink RX0 52 arraycopyName) (List.mem_of_getElem? (i := 2) rfl)) (hts (.native arraycopyName) (List.mem_of_getElem? (i := 3) rfl)) (hts (.static arraycopyName) (List.mem_of_getElem? (i := 4) rfl)) (hts (.initialized "java/lang/System") (List.mem_of_getElem? (i := 5) rfl)) hK hP hD hS 13 2 0 rfl rfl rfl (by decide) (Nat.le_of_ble_eq_true rfl) (Nat.le_of_ble_eq_true rfl) dX0_become_27 (fun H locs hP hD hS => ?_)
  have hP := va_P.re (show _ = ((wO (ci 0) a (cpR (cpR S S2 0) S2 1) w r nb) ++ (wO (ci 0) a2 S2 w2 r2 nb2)) from rfl) hP
  have hD := va_D.re (show _ = ((wO (ci 0) a (cpR (cpR S S2 0) S2 1) w r nb) ++ (wO (ci 0) a2 S2 w2 r2 nb2)) from rfl) hD
  refine lv_aload_n hx hb dX0_become_30 rfl (lv_at hl 1 rfl) ?_
  refine va_get (D := D) (ci := 0) (v := .ref (a2 3)) (C := RX0) (T := TX0) (N := 13) hx hb hts hinX0 hown hK hP 11 rfl rfl 2 (by decide) (hts (.fieldLink RX0 18 "OneShort$Orchestra" "seat" "[I") (List.mem_of_getElem? (i := 7) rfl)) (fun _ h9 => h9) rfl dX0_become_31 ?_
  refine lv_iconst (v := nI (0)) hx hb dX0_become_34 (by decide) ?_
  refine lv_aload_n hx hb dX0_become_35 rfl (lv_at hl 0 rfl) ?_
  refine va_get (D := D) (ci := 0) (v := .ref (a 3)) (C := RX0) (T := TX0) (N := 13) hx hb hts hinX0 hown hK hP 0 rfl rfl 2 (by decide) (hts (.fieldLink RX0 18 "OneShort$Orchestra" "seat" "[I") (List.mem_of_getElem? (i := 7) rfl)) (fun _ h9 => h9) rfl dX0_become_36 ?_
  refine lv_iconst (v := nI (0)) hx hb dX0_become_39 (by decide) ?_
  refine lv_bipush (v := nI (8)) hx hb dX0_become_40 (by decide) ?_
  refine nv_copyF hx hb (hml.trans hl.1.symm) hown (hts (.methodLink RX0 52 arraycopyName) (List.mem_of_getElem? (i := 2) rfl)) (hts (.native arraycopyName) (List.mem_of_getElem? (i := 3) rfl)) (hts (.static arraycopyName) (List.mem_of_getElem? (i := 4) rfl)) (hts (.initialized "java/lang/System") (List.mem_of_getElem? (i := 5) rfl)) hK hP hD hS 14 3 0 rfl rfl rfl (by decide) (Nat.le_of_ble_eq_true rfl) (Nat.le_of_ble_eq_true rfl) dX0_become_42 (fun H locs hP hD hS => ?_)
  have hP := va_P.re (show _ = ((wO (ci 0) a (cpR (cpR (cpR S S2 0) S2 1) S2 2) w r nb) ++ (wO (ci 0) a2 S2 w2 r2 nb2)) from rfl) hP
  have hD := va_D.re (show _ = ((wO (ci 0) a (cpR (cpR (cpR S S2 0) S2 1) S2 2) w r nb) ++ (wO (ci 0) a2 S2 w2 r2 nb2)) from rfl) hD
  refine lv_aload_n hx hb dX0_become_45 rfl (lv_at hl 1 rfl) ?_
  refine va_get (D := D) (ci := 0) (v := .ref (a2 4)) (C := RX0) (T := TX0) (N := 13) hx hb hts hinX0 hown hK hP 11 rfl rfl 3 (by decide) (hts (.fieldLink RX0 21 "OneShort$Orchestra" "part" "[I") (List.mem_of_getElem? (i := 8) rfl)) (fun _ h9 => h9) rfl dX0_become_46 ?_
  refine lv_iconst (v := nI (0)) hx hb dX0_become_49 (by decide) ?_
  refine lv_aload_n hx hb dX0_become_50 rfl (lv_at hl 0 rfl) ?_
  refine va_get (D := D) (ci := 0) (v := .ref (a 4)) (C := RX0) (T := TX0) (N := 13) hx hb hts hinX0 hown hK hP 0 rfl rfl 3 (by decide) (hts (.fieldLink RX0 21 "OneShort$Orchestra" "part" "[I") (List.mem_of_getElem? (i := 8) rfl)) (fun _ h9 => h9) rfl dX0_become_51 ?_
  refine lv_iconst (v := nI (0)) hx hb dX0_become_54 (by decide) ?_
  refine lv_bipush (v := nI (8)) hx hb dX0_become_55 (by decide) ?_
  refine nv_copyF hx hb (hml.trans hl.1.symm) hown (hts (.methodLink RX0 52 arraycopyName) (List.mem_of_getElem? (i := 2) rfl)) (hts (.native arraycopyName) (List.mem_of_getElem? (i := 3) rfl)) (hts (.static arraycopyName) (List.mem_of_getElem? (i := 4) rfl)) (hts (.initialized "java/lang/System") (List.mem_of_getElem? (i := 5) rfl)) hK hP hD hS 15 4 0 rfl rfl rfl (by decide) (Nat.le_of_ble_eq_true rfl) (Nat.le_of_ble_eq_true rfl) dX0_become_57 (fun H locs hP hD hS => ?_)
  have hP := va_P.re (show _ = ((wO (ci 0) a (cpR (cpR (cpR (cpR S S2 0) S2 1) S2 2) S2 3) w r nb) ++ (wO (ci 0) a2 S2 w2 r2 nb2)) from rfl) hP
  have hD := va_D.re (show _ = ((wO (ci 0) a (cpR (cpR (cpR (cpR S S2 0) S2 1) S2 2) S2 3) w r nb) ++ (wO (ci 0) a2 S2 w2 r2 nb2)) from rfl) hD
  refine lv_aload_n hx hb dX0_become_60 rfl (lv_at hl 1 rfl) ?_
  refine va_get (D := D) (ci := 0) (v := .ref (a2 5)) (C := RX0) (T := TX0) (N := 13) hx hb hts hinX0 hown hK hP 11 rfl rfl 4 (by decide) (hts (.fieldLink RX0 24 "OneShort$Orchestra" "loud" "[I") (List.mem_of_getElem? (i := 9) rfl)) (fun _ h9 => h9) rfl dX0_become_61 ?_
  refine lv_iconst (v := nI (0)) hx hb dX0_become_64 (by decide) ?_
  refine lv_aload_n hx hb dX0_become_65 rfl (lv_at hl 0 rfl) ?_
  refine va_get (D := D) (ci := 0) (v := .ref (a 5)) (C := RX0) (T := TX0) (N := 13) hx hb hts hinX0 hown hK hP 0 rfl rfl 4 (by decide) (hts (.fieldLink RX0 24 "OneShort$Orchestra" "loud" "[I") (List.mem_of_getElem? (i := 9) rfl)) (fun _ h9 => h9) rfl dX0_become_66 ?_
  refine lv_iconst (v := nI (0)) hx hb dX0_become_69 (by decide) ?_
  refine lv_bipush (v := nI (8)) hx hb dX0_become_70 (by decide) ?_
  refine nv_copyF hx hb (hml.trans hl.1.symm) hown (hts (.methodLink RX0 52 arraycopyName) (List.mem_of_getElem? (i := 2) rfl)) (hts (.native arraycopyName) (List.mem_of_getElem? (i := 3) rfl)) (hts (.static arraycopyName) (List.mem_of_getElem? (i := 4) rfl)) (hts (.initialized "java/lang/System") (List.mem_of_getElem? (i := 5) rfl)) hK hP hD hS 16 5 0 rfl rfl rfl (by decide) (Nat.le_of_ble_eq_true rfl) (Nat.le_of_ble_eq_true rfl) dX0_become_72 (fun H locs hP hD hS => ?_)
  have hP := va_P.re (show _ = ((wO (ci 0) a (cpR (cpR (cpR (cpR (cpR S S2 0) S2 1) S2 2) S2 3) S2 4) w r nb) ++ (wO (ci 0) a2 S2 w2 r2 nb2)) from rfl) hP
  have hD := va_D.re (show _ = ((wO (ci 0) a (cpR (cpR (cpR (cpR (cpR S S2 0) S2 1) S2 2) S2 3) S2 4) w r nb) ++ (wO (ci 0) a2 S2 w2 r2 nb2)) from rfl) hD
  refine lv_aload_n hx hb dX0_become_75 rfl (lv_at hl 1 rfl) ?_
  refine va_get (D := D) (ci := 0) (v := .ref (a2 6)) (C := RX0) (T := TX0) (N := 13) hx hb hts hinX0 hown hK hP 11 rfl rfl 5 (by decide) (hts (.fieldLink RX0 27 "OneShort$Orchestra" "nerve" "[I") (List.mem_of_getElem? (i := 10) rfl)) (fun _ h9 => h9) rfl dX0_become_76 ?_
  refine lv_iconst (v := nI (0)) hx hb dX0_become_79 (by decide) ?_
  refine lv_aload_n hx hb dX0_become_80 rfl (lv_at hl 0 rfl) ?_
  refine va_get (D := D) (ci := 0) (v := .ref (a 6)) (C := RX0) (T := TX0) (N := 13) hx hb hts hinX0 hown hK hP 0 rfl rfl 5 (by decide) (hts (.fieldLink RX0 27 "OneShort$Orchestra" "nerve" "[I") (List.mem_of_getElem? (i := 10) rfl)) (fun _ h9 => h9) rfl dX0_become_81 ?_
  refine lv_iconst (v := nI (0)) hx hb dX0_become_84 (by decide) ?_
  refine lv_bipush (v := nI (8)) hx hb dX0_become_85 (by decide) ?_
  refine nv_copyF hx hb (hml.trans hl.1.symm) hown (hts (.methodLink RX0 52 arraycopyName) (List.mem_of_getElem? (i := 2) rfl)) (hts (.native arraycopyName) (List.mem_of_getElem? (i := 3) rfl)) (hts (.static arraycopyName) (List.mem_of_getElem? (i := 4) rfl)) (hts (.initialized "java/lang/System") (List.mem_of_getElem? (i := 5) rfl)) hK hP hD hS 17 6 0 rfl rfl rfl (by decide) (Nat.le_of_ble_eq_true rfl) (Nat.le_of_ble_eq_true rfl) dX0_become_87 (fun H locs hP hD hS => ?_)
  have hP := va_P.re (show _ = ((wO (ci 0) a (cpR (cpR (cpR (cpR (cpR (cpR S S2 0) S2 1) S2 2) S2 3) S2 4) S2 5) w r nb) ++ (wO (ci 0) a2 S2 w2 r2 nb2)) from rfl) hP
  have hD := va_D.re (show _ = ((wO (ci 0) a (cpR (cpR (cpR (cpR (cpR (cpR S S2 0) S2 1) S2 2) S2 3) S2 4) S2 5) w r nb) ++ (wO (ci 0) a2 S2 w2 r2 nb2)) from rfl) hD
  refine lv_aload_n hx hb dX0_become_90 rfl (lv_at hl 1 rfl) ?_
  refine va_get (D := D) (ci := 0) (v := .ref (a2 7)) (C := RX0) (T := TX0) (N := 13) hx hb hts hinX0 hown hK hP 11 rfl rfl 6 (by decide) (hts (.fieldLink RX0 30 "OneShort$Orchestra" "spots" "[I") (List.mem_of_getElem? (i := 11) rfl)) (fun _ h9 => h9) rfl dX0_become_91 ?_
  refine lv_iconst (v := nI (0)) hx hb dX0_become_94 (by decide) ?_
  refine lv_aload_n hx hb dX0_become_95 rfl (lv_at hl 0 rfl) ?_
  refine va_get (D := D) (ci := 0) (v := .ref (a 7)) (C := RX0) (T := TX0) (N := 13) hx hb hts hinX0 hown hK hP 0 rfl rfl 6 (by decide) (hts (.fieldLink RX0 30 "OneShort$Orchestra" "spots" "[I") (List.mem_of_getElem? (i := 11) rfl)) (fun _ h9 => h9) rfl dX0_become_96 ?_
  refine lv_iconst (v := nI (0)) hx hb dX0_become_99 (by decide) ?_
  refine lv_bipush (v := nI (10)) hx hb dX0_become_100 (by decide) ?_
  refine nv_copyF hx hb (hml.trans hl.1.symm) hown (hts (.methodLink RX0 52 arraycopyName) (List.mem_of_getElem? (i := 2) rfl)) (hts (.native arraycopyName) (List.mem_of_getElem? (i := 3) rfl)) (hts (.static arraycopyName) (List.mem_of_getElem? (i := 4) rfl)) (hts (.initialized "java/lang/System") (List.mem_of_getElem? (i := 5) rfl)) hK hP hD hS 18 7 0 rfl rfl rfl (by decide) (Nat.le_of_ble_eq_true rfl) (Nat.le_of_ble_eq_true rfl) dX0_become_102 (fun H locs hP hD hS => ?_)
  have hP := va_P.re (show _ = ((wO (ci 0) a (cpR (cpR (cpR (cpR (cpR (cpR (cpR S S2 0) S2 1) S2 2) S2 3) S2 4) S2 5) S2 6) w r nb) ++ (wO (ci 0) a2 S2 w2 r2 nb2)) from rfl) hP
  have hD := va_D.re (show _ = ((wO (ci 0) a (cpR (cpR (cpR (cpR (cpR (cpR (cpR S S2 0) S2 1) S2 2) S2 3) S2 4) S2 5) S2 6) w r nb) ++ (wO (ci 0) a2 S2 w2 r2 nb2)) from rfl) hD
  refine lv_aload_n hx hb dX0_become_105 rfl (lv_at hl 0 rfl) ?_
  refine lv_aload_n hx hb dX0_become_106 rfl (lv_at hl 1 rfl) ?_
  refine va_get (D := D) (ci := 0) (v := .int (nI (S2 7 0))) (C := RX0) (T := TX0) (N := 13) hx hb hts hinX0 hown hK hP 11 rfl rfl 7 (by decide) (hts (.fieldLink RX0 33 "OneShort$Orchestra" "size" "I") (List.mem_of_getElem? (i := 12) rfl)) (fun _ h9 => h9) rfl dX0_become_107 ?_
  refine va_put (D := D) (ci := 0) (v := .int (nI (S2 7 0))) (ty := .int) (C := RX0) (T := TX0) (N := 13) hx hb hts hinX0 tyX0 tyX0_ok nmX0 hown hK hP hD hS 0 rfl rfl 7 (by decide) (hts (.fieldLink RX0 33 "OneShort$Orchestra" "size" "I") (List.mem_of_getElem? (i := 12) rfl)) (fun _ h9 => h9) rfl (by decide +kernel) rfl rfl (Nat.le_of_ble_eq_true rfl) dX0_become_110 (fun H locs hP hD hS => ?_)
  have hP := va_P.re (show _ = ((wO (ci 0) a (st (cpR (cpR (cpR (cpR (cpR (cpR (cpR S S2 0) S2 1) S2 2) S2 3) S2 4) S2 5) S2 6) 7 0 (S2 7 0)) w r nb) ++ (wO (ci 0) a2 S2 w2 r2 nb2)) from rfl) hP
  have hD := va_D.re (show _ = ((wO (ci 0) a (st (cpR (cpR (cpR (cpR (cpR (cpR (cpR S S2 0) S2 1) S2 2) S2 3) S2 4) S2 5) S2 6) 7 0 (S2 7 0)) w r nb) ++ (wO (ci 0) a2 S2 w2 r2 nb2)) from rfl) hD
  refine lv_aload_n hx hb dX0_become_113 rfl (lv_at hl 0 rfl) ?_
  refine lv_aload_n hx hb dX0_become_114 rfl (lv_at hl 1 rfl) ?_
  refine va_get (D := D) (ci := 0) (v := .int (nI (S2 8 0))) (C := RX0) (T := TX0) (N := 13) hx hb hts hinX0 hown hK hP 11 rfl rfl 8 (by decide) (hts (.fieldLink RX0 37 "OneShort$Orchestra" "evening" "I") (List.mem_of_getElem? (i := 13) rfl)) (fun _ h9 => h9) rfl dX0_become_115 ?_
  refine va_put (D := D) (ci := 0) (v := .int (nI (S2 8 0))) (ty := .int) (C := RX0) (T := TX0) (N := 13) hx hb hts hinX0 tyX0 tyX0_ok nmX0 hown hK hP hD hS 0 rfl rfl 8 (by decide) (hts (.fieldLink RX0 37 "OneShort$Orchestra" "evening" "I") (List.mem_of_getElem? (i := 13) rfl)) (fun _ h9 => h9) rfl (by decide +kernel) rfl rfl (Nat.le_of_ble_eq_true rfl) dX0_become_118 (fun H locs hP hD hS => ?_)
  have hP := va_P.re (show _ = ((wO (ci 0) a (st (st (cpR (cpR (cpR (cpR (cpR (cpR (cpR S S2 0) S2 1) S2 2) S2 3) S2 4) S2 5) S2 6) 7 0 (S2 7 0)) 8 0 (S2 8 0)) w r nb) ++ (wO (ci 0) a2 S2 w2 r2 nb2)) from rfl) hP
  have hD := va_D.re (show _ = ((wO (ci 0) a (st (st (cpR (cpR (cpR (cpR (cpR (cpR (cpR S S2 0) S2 1) S2 2) S2 3) S2 4) S2 5) S2 6) 7 0 (S2 7 0)) 8 0 (S2 8 0)) w r nb) ++ (wO (ci 0) a2 S2 w2 r2 nb2)) from rfl) hD
  refine lv_aload_n hx hb dX0_become_121 rfl (lv_at hl 0 rfl) ?_
  refine lv_aload_n hx hb dX0_become_122 rfl (lv_at hl 1 rfl) ?_
  refine va_get (D := D) (ci := 0) (v := .int (nI (S2 9 0))) (C := RX0) (T := TX0) (N := 13) hx hb hts hinX0 hown hK hP 11 rfl rfl 9 (by decide) (hts (.fieldLink RX0 40 "OneShort$Orchestra" "z" "I") (List.mem_of_getElem? (i := 14) rfl)) (fun _ h9 => h9) rfl dX0_become_123 ?_
  refine va_put (D := D) (ci := 0) (v := .int (nI (S2 9 0))) (ty := .int) (C := RX0) (T := TX0) (N := 13) hx hb hts hinX0 tyX0 tyX0_ok nmX0 hown hK hP hD hS 0 rfl rfl 9 (by decide) (hts (.fieldLink RX0 40 "OneShort$Orchestra" "z" "I") (List.mem_of_getElem? (i := 14) rfl)) (fun _ h9 => h9) rfl (by decide +kernel) rfl rfl (Nat.le_of_ble_eq_true rfl) dX0_become_126 (fun H locs hP hD hS => ?_)
  have hP := va_P.re (show _ = ((wO (ci 0) a (st (st (st (cpR (cpR (cpR (cpR (cpR (cpR (cpR S S2 0) S2 1) S2 2) S2 3) S2 4) S2 5) S2 6) 7 0 (S2 7 0)) 8 0 (S2 8 0)) 9 0 (S2 9 0)) w r nb) ++ (wO (ci 0) a2 S2 w2 r2 nb2)) from rfl) hP
  have hD := va_D.re (show _ = ((wO (ci 0) a (st (st (st (cpR (cpR (cpR (cpR (cpR (cpR (cpR S S2 0) S2 1) S2 2) S2 3) S2 4) S2 5) S2 6) 7 0 (S2 7 0)) 8 0 (S2 8 0)) 9 0 (S2 9 0)) w r nb) ++ (wO (ci 0) a2 S2 w2 r2 nb2)) from rfl) hD
  exact mu_vret hx hb hr hlocks hS ((va_P.re (by rfl) hP)) dX0_become_129
