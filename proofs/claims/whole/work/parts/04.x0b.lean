/-! walks laid by program -/
set_option maxHeartbeats 4000000 in
set_option maxRecDepth 100000 in
/-- X0_barsWritten -/
theorem c_X0_barsWritten (l : Launch) (D : va_G) (ci : Nat → ClassId) (G : Nat → Prop) (ka : Nat) (a : Nat → Nat) (S : OS) (w r nb : Nat → Int32) (q : Nat) (hWF : WF S) (h_q : q < 8) : Met l yX0_barsWritten wsX0_barsWritten ({ frames := 1, cells := 0, slots := 0, locals := 24 } : Room) (va_Pc [.ref (a 0), .int (nI q)] (ro_B D (tyL ci) (wO (ci 0) a S w r nb) (en D (ci 0) G ka))) (ro_Q (some (.int (nI (bWrit S q))))) 0 0 (fun _ => False) := by
  refine ro_Met (cc := cX0_barsWritten) (maxL := 3) (ret := (some .int)) [(0, .ref (a 0)), (1, .int (nI q))] (by decide) rfl (Nat.le_of_ble_eq_true rfl) rfl ?_
  intro p e s m below meth c hx hb hml hr hlocks hts hown hP hK hs ls hl
  have hown : s.vm.findClass RX0 = some m.cls := hown
  have hinX0 : ∀ w ∈ wsX00, w ∈ wsX0_barsWritten := by decide +kernel
  have hE := hE_en D (ci 0) G ka
  have f_n := hWF.n
  refine lv_aload_n hx hb dX0_barsWritten_0 rfl (lv_at hl 0 rfl) ?_
  refine lv_iload_n hx hb dX0_barsWritten_1 rfl (lv_at hl 1 rfl) ?_
  refine lv_iconst (v := nI (3)) hx hb dX0_barsWritten_2 (by decide) ?_
  refine ro_V (n := 2) (As := [.int (nI q), .int (nI 3)]) (rest := []) ⟨hx, hb, hml, hown, hts⟩ (c_X0_isOne l D ci G ka a S w r nb (q) (3) hWF (by omega) (by omega)) gX0_barsWritten_X0_isOne rfl ⟨rfl, rfl⟩ (by decide +kernel) rfl ⟨Nat.le_of_ble_eq_true rfl, Nat.le_of_ble_eq_true rfl⟩ hE hs hK hP (ci := 0) (q0 := 0) rfl rfl hl.1 rfl (Nat.le_of_ble_eq_true rfl) dX0_barsWritten_3 ⟨Nat.zero_le _, Nat.zero_le _⟩ ?_
  refine nv_ifeq_b (tgt := 19) hx hb dX0_barsWritten_6 (by decide) (fun c1 => ?_) (fun c1 => ?_)
  · refine lv_aload_n hx hb dX0_barsWritten_19 rfl (lv_at hl 0 rfl) ?_
    refine lv_aload_n hx hb dX0_barsWritten_20 rfl (lv_at hl 0 rfl) ?_
    refine va_get (D := D) (ci := 0) (v := .ref (a 4)) (C := RX0) (T := TX0) (N := 13) hx hb hts hinX0 hown hK hP 0 rfl rfl 3 (by decide) (hts (.fieldLink RX0 21 "OneShort$Orchestra" "part" "[I") (List.mem_of_getElem? (i := 1) rfl)) (fun _ h9 => h9) rfl dX0_barsWritten_21 ?_
    refine lv_iload_n hx hb dX0_barsWritten_24 rfl (lv_at hl 1 rfl) ?_
    have f2 := hWF.f3 (q)
    refine nv_iald (v := nI (S 3 (q))) hx hb hK hP 4 0 rfl rfl (by omega) (by decide) rfl dX0_barsWritten_25 ?_
    refine ro_V (n := 1) (As := [.int (nI (S 3 (q)))]) (rest := []) ⟨hx, hb, hml, hown, hts⟩ (c_X0_barsWith l D ci G ka a S w r nb (S 3 (q)) hWF (by omega)) gX0_barsWritten_X0_barsWith rfl ⟨rfl, rfl⟩ (by decide +kernel) rfl ⟨Nat.le_of_ble_eq_true rfl, Nat.le_of_ble_eq_true rfl⟩ hE hs hK hP (ci := 0) (q0 := 0) rfl rfl hl.1 rfl (Nat.le_of_ble_eq_true rfl) dX0_barsWritten_26 ⟨Nat.zero_le _, Nat.zero_le _⟩ ?_
    refine lv_istore_n (lv' := [(2, .int (nI (barsWith S (S 3 (q))))), (0, .ref (a 0)), (1, .int (nI q))]) hx hb dX0_barsWritten_29 rfl hl (by decide) rfl (fun ls hl => ?_)
    refine lv_aload_n hx hb dX0_barsWritten_30 rfl (lv_at hl 1 rfl) ?_
    refine lv_iload_n hx hb dX0_barsWritten_31 rfl (lv_at hl 2 rfl) ?_
    refine lv_iconst (v := nI (2)) hx hb dX0_barsWritten_32 (by decide) ?_
    refine ro_V (n := 2) (As := [.int (nI q), .int (nI 2)]) (rest := []) ⟨hx, hb, hml, hown, hts⟩ (c_X0_isOne l D ci G ka a S w r nb (q) (2) hWF (by omega) (by omega)) gX0_barsWritten_X0_isOne rfl ⟨rfl, rfl⟩ (by decide +kernel) rfl ⟨Nat.le_of_ble_eq_true rfl, Nat.le_of_ble_eq_true rfl⟩ hE hs hK hP (ci := 0) (q0 := 0) rfl rfl hl.1 rfl (Nat.le_of_ble_eq_true rfl) dX0_barsWritten_33 ⟨Nat.zero_le _, Nat.zero_le _⟩ ?_
    refine nv_ifeq_b (tgt := 57) hx hb dX0_barsWritten_36 (by decide) (fun c3 => ?_) (fun c3 => ?_)
    · refine lv_aload_n hx hb dX0_barsWritten_57 rfl (lv_at hl 1 rfl) ?_
      refine lv_iload_n hx hb dX0_barsWritten_58 rfl (lv_at hl 2 rfl) ?_
      refine lv_iconst (v := nI (1)) hx hb dX0_barsWritten_59 (by decide) ?_
      refine ro_V (n := 2) (As := [.int (nI q), .int (nI 1)]) (rest := []) ⟨hx, hb, hml, hown, hts⟩ (c_X0_isOne l D ci G ka a S w r nb (q) (1) hWF (by omega) (by omega)) gX0_barsWritten_X0_isOne rfl ⟨rfl, rfl⟩ (by decide +kernel) rfl ⟨Nat.le_of_ble_eq_true rfl, Nat.le_of_ble_eq_true rfl⟩ hE hs hK hP (ci := 0) (q0 := 0) rfl rfl hl.1 rfl (Nat.le_of_ble_eq_true rfl) dX0_barsWritten_60 ⟨Nat.zero_le _, Nat.zero_le _⟩ ?_
      refine nv_ifeq_b (tgt := 72) hx hb dX0_barsWritten_63 (by decide) (fun c4 => ?_) (fun c4 => ?_)
      · refine lv_aload_n hx hb dX0_barsWritten_72 rfl (lv_at hl 1 rfl) ?_
        refine lv_iload_n hx hb dX0_barsWritten_73 rfl (lv_at hl 2 rfl) ?_
        refine lv_bipush (v := nI (6)) hx hb dX0_barsWritten_74 (by decide) ?_
        refine ro_V (n := 2) (As := [.int (nI q), .int (nI 6)]) (rest := []) ⟨hx, hb, hml, hown, hts⟩ (c_X0_isOne l D ci G ka a S w r nb (q) (6) hWF (by omega) (by omega)) gX0_barsWritten_X0_isOne rfl ⟨rfl, rfl⟩ (by decide +kernel) rfl ⟨Nat.le_of_ble_eq_true rfl, Nat.le_of_ble_eq_true rfl⟩ hE hs hK hP (ci := 0) (q0 := 0) rfl rfl hl.1 rfl (Nat.le_of_ble_eq_true rfl) dX0_barsWritten_76 ⟨Nat.zero_le _, Nat.zero_le _⟩ ?_
        refine nv_ifeq_b (tgt := 88) hx hb dX0_barsWritten_79 (by decide) (fun c5 => ?_) (fun c5 => ?_)
        · refine lv_iload_n hx hb dX0_barsWritten_88 rfl (lv_at hl 0 rfl) ?_
          refine nv_cv (show nI (barsWith S (S 3 (q))) = nI (bWrit S q) from nv_e (by first | (simp [bWrit, c1, c3, c4, c5]; done) | (simp [bWrit, c1, c3, c4, c5] <;> omega) | omega)) ?_
          exact ro_iret hx hb hr hlocks dX0_barsWritten_89
        · refine lv_iload_n hx hb dX0_barsWritten_82 rfl (lv_at hl 0 rfl) ?_
          refine lv_sipush (v := nI (2730)) hx hb dX0_barsWritten_83 (by decide) ?_
          refine nv_iand hx hb dX0_barsWritten_86 ?_
          have f6 : (barsWith S (S 3 (q)) &&& 2730) ≤ 2730 := Nat.and_le_right
          have f7 : (barsWith S (S 3 (q)) &&& 2730) ≤ barsWith S (S 3 (q)) := Nat.and_le_left
          refine lv_istore_n (lv' := [(2, .int (nI ((barsWith S (S 3 (q)) &&& 2730)))), (0, .ref (a 0)), (1, .int (nI q))]) hx hb dX0_barsWritten_87 rfl hl (by decide) rfl (fun ls hl => ?_)
          refine lv_iload_n hx hb dX0_barsWritten_88 rfl (lv_at hl 0 rfl) ?_
          refine nv_cv (show nI ((barsWith S (S 3 (q)) &&& 2730)) = nI (bWrit S q) from nv_e (by first | (simp [bWrit, c1, c3, c4, c5]; done) | (simp [bWrit, c1, c3, c4, c5] <;> omega) | omega)) ?_
          exact ro_iret hx hb hr hlocks dX0_barsWritten_89
      · refine lv_iload_n hx hb dX0_barsWritten_66 rfl (lv_at hl 0 rfl) ?_
        refine lv_sipush (v := nI (4088)) hx hb dX0_barsWritten_67 (by decide) ?_
        refine nv_iand hx hb dX0_barsWritten_70 ?_
        have f8 : (barsWith S (S 3 (q)) &&& 4088) ≤ 4088 := Nat.and_le_right
        have f9 : (barsWith S (S 3 (q)) &&& 4088) ≤ barsWith S (S 3 (q)) := Nat.and_le_left
        refine lv_istore_n (lv' := [(2, .int (nI ((barsWith S (S 3 (q)) &&& 4088)))), (0, .ref (a 0)), (1, .int (nI q))]) hx hb dX0_barsWritten_71 rfl hl (by decide) rfl (fun ls hl => ?_)
        refine lv_aload_n hx hb dX0_barsWritten_72 rfl (lv_at hl 1 rfl) ?_
        refine lv_iload_n hx hb dX0_barsWritten_73 rfl (lv_at hl 2 rfl) ?_
        refine lv_bipush (v := nI (6)) hx hb dX0_barsWritten_74 (by decide) ?_
        refine ro_V (n := 2) (As := [.int (nI q), .int (nI 6)]) (rest := []) ⟨hx, hb, hml, hown, hts⟩ (c_X0_isOne l D ci G ka a S w r nb (q) (6) hWF (by omega) (by omega)) gX0_barsWritten_X0_isOne rfl ⟨rfl, rfl⟩ (by decide +kernel) rfl ⟨Nat.le_of_ble_eq_true rfl, Nat.le_of_ble_eq_true rfl⟩ hE hs hK hP (ci := 0) (q0 := 0) rfl rfl hl.1 rfl (Nat.le_of_ble_eq_true rfl) dX0_barsWritten_76 ⟨Nat.zero_le _, Nat.zero_le _⟩ ?_
        refine nv_ifeq_b (tgt := 88) hx hb dX0_barsWritten_79 (by decide) (fun c10 => ?_) (fun c10 => ?_)
        · refine lv_iload_n hx hb dX0_barsWritten_88 rfl (lv_at hl 0 rfl) ?_
          refine nv_cv (show nI ((barsWith S (S 3 (q)) &&& 4088)) = nI (bWrit S q) from nv_e (by first | (simp [bWrit, c1, c3, c4, c10]; done) | (simp [bWrit, c1, c3, c4, c10] <;> omega) | omega)) ?_
          exact ro_iret hx hb hr hlocks dX0_barsWritten_89
        · refine lv_iload_n hx hb dX0_barsWritten_82 rfl (lv_at hl 0 rfl) ?_
          refine lv_sipush (v := nI (2730)) hx hb dX0_barsWritten_83 (by decide) ?_
          refine nv_iand hx hb dX0_barsWritten_86 ?_
          have f11 : ((barsWith S (S 3 (q)) &&& 4088) &&& 2730) ≤ 2730 := Nat.and_le_right
          have f12 : ((barsWith S (S 3 (q)) &&& 4088) &&& 2730) ≤ (barsWith S (S 3 (q)) &&& 4088) := Nat.and_le_left
          refine lv_istore_n (lv' := [(2, .int (nI (((barsWith S (S 3 (q)) &&& 4088) &&& 2730)))), (0, .ref (a 0)), (1, .int (nI q))]) hx hb dX0_barsWritten_87 rfl hl (by decide) rfl (fun ls hl => ?_)
          refine lv_iload_n hx hb dX0_barsWritten_88 rfl (lv_at hl 0 rfl) ?_
          refine nv_cv (show nI (((barsWith S (S 3 (q)) &&& 4088) &&& 2730)) = nI (bWrit S q) from nv_e (by first | (simp [bWrit, c1, c3, c4, c10]; done) | (simp [bWrit, c1, c3, c4, c10] <;> omega) | omega)) ?_
          exact ro_iret hx hb hr hlocks dX0_barsWritten_89
    · refine lv_iload_n hx hb dX0_barsWritten_39 rfl (lv_at hl 0 rfl) ?_
      refine lv_aload_n hx hb dX0_barsWritten_40 rfl (lv_at hl 1 rfl) ?_
      refine lv_aload_n hx hb dX0_barsWritten_41 rfl (lv_at hl 1 rfl) ?_
      refine va_get (D := D) (ci := 0) (v := .ref (a 4)) (C := RX0) (T := TX0) (N := 13) hx hb hts hinX0 hown hK hP 0 rfl rfl 3 (by decide) (hts (.fieldLink RX0 21 "OneShort$Orchestra" "part" "[I") (List.mem_of_getElem? (i := 1) rfl)) (fun _ h9 => h9) rfl dX0_barsWritten_42 ?_
      refine lv_iload_n hx hb dX0_barsWritten_45 rfl (lv_at hl 2 rfl) ?_
      have f13 := hWF.f3 (q)
      refine nv_iald (v := nI (S 3 (q))) hx hb hK hP 4 0 rfl rfl (by omega) (by decide) rfl dX0_barsWritten_46 ?_
      refine lv_iconst (v := nI (1)) hx hb dX0_barsWritten_47 (by decide) ?_
      refine nv_iadd hx hb dX0_barsWritten_48 ?_
      refine lv_bipush (v := nI (6)) hx hb dX0_barsWritten_49 (by decide) ?_
      refine nv_irem hx hb (by omega) (by omega) (by omega) dX0_barsWritten_51 ?_
      refine ro_V (n := 1) (As := [.int (nI (((S 3 (q) + 1) % 6)))]) (rest := [.int (nI (barsWith S (S 3 (q))))]) ⟨hx, hb, hml, hown, hts⟩ (c_X0_barsWith l D ci G ka a S w r nb (((S 3 (q) + 1) % 6)) hWF (by omega)) gX0_barsWritten_X0_barsWith rfl ⟨rfl, rfl⟩ (by decide +kernel) rfl ⟨Nat.le_of_ble_eq_true rfl, Nat.le_of_ble_eq_true rfl⟩ hE hs hK hP (ci := 0) (q0 := 0) rfl rfl hl.1 rfl (Nat.le_of_ble_eq_true rfl) dX0_barsWritten_52 ⟨Nat.zero_le _, Nat.zero_le _⟩ ?_
      refine nv_ior hx hb dX0_barsWritten_55 ?_
      refine lv_istore_n (lv' := [(2, .int (nI ((barsWith S (S 3 (q)) ||| barsWith S (((S 3 (q) + 1) % 6)))))), (0, .ref (a 0)), (1, .int (nI q))]) hx hb dX0_barsWritten_56 rfl hl (by decide) rfl (fun ls hl => ?_)
      refine lv_aload_n hx hb dX0_barsWritten_57 rfl (lv_at hl 1 rfl) ?_
      refine lv_iload_n hx hb dX0_barsWritten_58 rfl (lv_at hl 2 rfl) ?_
      refine lv_iconst (v := nI (1)) hx hb dX0_barsWritten_59 (by decide) ?_
      refine ro_V (n := 2) (As := [.int (nI q), .int (nI 1)]) (rest := []) ⟨hx, hb, hml, hown, hts⟩ (c_X0_isOne l D ci G ka a S w r nb (q) (1) hWF (by omega) (by omega)) gX0_barsWritten_X0_isOne rfl ⟨rfl, rfl⟩ (by decide +kernel) rfl ⟨Nat.le_of_ble_eq_true rfl, Nat.le_of_ble_eq_true rfl⟩ hE hs hK hP (ci := 0) (q0 := 0) rfl rfl hl.1 rfl (Nat.le_of_ble_eq_true rfl) dX0_barsWritten_60 ⟨Nat.zero_le _, Nat.zero_le _⟩ ?_
      refine nv_ifeq_b (tgt := 72) hx hb dX0_barsWritten_63 (by decide) (fun c14 => ?_) (fun c14 => ?_)
      · refine lv_aload_n hx hb dX0_barsWritten_72 rfl (lv_at hl 1 rfl) ?_
        refine lv_iload_n hx hb dX0_barsWritten_73 rfl (lv_at hl 2 rfl) ?_
        refine lv_bipush (v := nI (6)) hx hb dX0_barsWritten_74 (by decide) ?_
        refine ro_V (n := 2) (As := [.int (nI q), .int (nI 6)]) (rest := []) ⟨hx, hb, hml, hown, hts⟩ (c_X0_isOne l D ci G ka a S w r nb (q) (6) hWF (by omega) (by omega)) gX0_barsWritten_X0_isOne rfl ⟨rfl, rfl⟩ (by decide +kernel) rfl ⟨Nat.le_of_ble_eq_true rfl, Nat.le_of_ble_eq_true rfl⟩ hE hs hK hP (ci := 0) (q0 := 0) rfl rfl hl.1 rfl (Nat.le_of_ble_eq_true rfl) dX0_barsWritten_76 ⟨Nat.zero_le _, Nat.zero_le _⟩ ?_
        refine nv_ifeq_b (tgt := 88) hx hb dX0_barsWritten_79 (by decide) (fun c15 => ?_) (fun c15 => ?_)
        · refine lv_iload_n hx hb dX0_barsWritten_88 rfl (lv_at hl 0 rfl) ?_
          refine nv_cv (show nI ((barsWith S (S 3 (q)) ||| barsWith S (((S 3 (q) + 1) % 6)))) = nI (bWrit S q) from nv_e (by first | (simp [bWrit, c1, c3, c14, c15]; done) | (simp [bWrit, c1, c3, c14, c15] <;> omega) | omega)) ?_
          exact ro_iret hx hb hr hlocks dX0_barsWritten_89
        · refine lv_iload_n hx hb dX0_barsWritten_82 rfl (lv_at hl 0 rfl) ?_
          refine lv_sipush (v := nI (2730)) hx hb dX0_barsWritten_83 (by decide) ?_
          refine nv_iand hx hb dX0_barsWritten_86 ?_
          have f16 : ((barsWith S (S 3 (q)) ||| barsWith S (((S 3 (q) + 1) % 6))) &&& 2730) ≤ 2730 := Nat.and_le_right
          have f17 : ((barsWith S (S 3 (q)) ||| barsWith S (((S 3 (q) + 1) % 6))) &&& 2730) ≤ (barsWith S (S 3 (q)) ||| barsWith S (((S 3 (q) + 1) % 6))) := Nat.and_le_left
          refine lv_istore_n (lv' := [(2, .int (nI (((barsWith S (S 3 (q)) ||| barsWith S (((S 3 (q) + 1) % 6))) &&& 2730)))), (0, .ref (a 0)), (1, .int (nI q))]) hx hb dX0_barsWritten_87 rfl hl (by decide) rfl (fun ls hl => ?_)
          refine lv_iload_n hx hb dX0_barsWritten_88 rfl (lv_at hl 0 rfl) ?_
          refine nv_cv (show nI (((barsWith S (S 3 (q)) ||| barsWith S (((S 3 (q) + 1) % 6))) &&& 2730)) = nI (bWrit S q) from nv_e (by first | (simp [bWrit, c1, c3, c14, c15]; done) | (simp [bWrit, c1, c3, c14, c15] <;> omega) | omega)) ?_
          exact ro_iret hx hb hr hlocks dX0_barsWritten_89
      · refine lv_iload_n hx hb dX0_barsWritten_66 rfl (lv_at hl 0 rfl) ?_
        refine lv_sipush (v := nI (4088)) hx hb dX0_barsWritten_67 (by decide) ?_
        refine nv_iand hx hb dX0_barsWritten_70 ?_
        have f18 : ((barsWith S (S 3 (q)) ||| barsWith S (((S 3 (q) + 1) % 6))) &&& 4088) ≤ 4088 := Nat.and_le_right
        have f19 : ((barsWith S (S 3 (q)) ||| barsWith S (((S 3 (q) + 1) % 6))) &&& 4088) ≤ (barsWith S (S 3 (q)) ||| barsWith S (((S 3 (q) + 1) % 6))) := Nat.and_le_left
        refine lv_istore_n (lv' := [(2, .int (nI (((barsWith S (S 3 (q)) ||| barsWith S (((S 3 (q) + 1) % 6))) &&& 4088)))), (0, .ref (a 0)), (1, .int (nI q))]) hx hb dX0_barsWritten_71 rfl hl (by decide) rfl (fun ls hl => ?_)
        refine lv_aload_n hx hb dX0_barsWritten_72 rfl (lv_at hl 1 rfl) ?_
        refine lv_iload_n hx hb dX0_barsWritten_73 rfl (lv_at hl 2 rfl) ?_
        refine lv_bipush (v := nI (6)) hx hb dX0_barsWritten_74 (by decide) ?_
        refine ro_V (n := 2) (As := [.int (nI q), .int (nI 6)]) (rest := []) ⟨hx, hb, hml, hown, hts⟩ (c_X0_isOne l D ci G ka a S w r nb (q) (6) hWF (by omega) (by omega)) gX0_barsWritten_X0_isOne rfl ⟨rfl, rfl⟩ (by decide +kernel) rfl ⟨Nat.le_of_ble_eq_true rfl, Nat.le_of_ble_eq_true rfl⟩ hE hs hK hP (ci := 0) (q0 := 0) rfl rfl hl.1 rfl (Nat.le_of_ble_eq_true rfl) dX0_barsWritten_76 ⟨Nat.zero_le _, Nat.zero_le _⟩ ?_
        refine nv_ifeq_b (tgt := 88) hx hb dX0_barsWritten_79 (by decide) (fun c20 => ?_) (fun c20 => ?_)
        · refine lv_iload_n hx hb dX0_barsWritten_88 rfl (lv_at hl 0 rfl) ?_
          refine nv_cv (show nI (((barsWith S (S 3 (q)) ||| barsWith S (((S 3 (q) + 1) % 6))) &&& 4088)) = nI (bWrit S q) from nv_e (by first | (simp [bWrit, c1, c3, c14, c20]; done) | (simp [bWrit, c1, c3, c14, c20] <;> omega) | omega)) ?_
          exact ro_iret hx hb hr hlocks dX0_barsWritten_89
        · refine lv_iload_n hx hb dX0_barsWritten_82 rfl (lv_at hl 0 rfl) ?_
          refine lv_sipush (v := nI (2730)) hx hb dX0_barsWritten_83 (by decide) ?_
          refine nv_iand hx hb dX0_barsWritten_86 ?_
          have f21 : (((barsWith S (S 3 (q)) ||| barsWith S (((S 3 (q) + 1) % 6))) &&& 4088) &&& 2730) ≤ 2730 := Nat.and_le_right
          have f22 : (((barsWith S (S 3 (q)) ||| barsWith S (((S 3 (q) + 1) % 6))) &&& 4088) &&& 2730) ≤ ((barsWith S (S 3 (q)) ||| barsWith S (((S 3 (q) + 1) % 6))) &&& 4088) := Nat.and_le_left
          refine lv_istore_n (lv' := [(2, .int (nI ((((barsWith S (S 3 (q)) ||| barsWith S (((S 3 (q) + 1) % 6))) &&& 4088) &&& 2730)))), (0, .ref (a 0)), (1, .int (nI q))]) hx hb dX0_barsWritten_87 rfl hl (by decide) rfl (fun ls hl => ?_)
          refine lv_iload_n hx hb dX0_barsWritten_88 rfl (lv_at hl 0 rfl) ?_
          refine nv_cv (show nI ((((barsWith S (S 3 (q)) ||| barsWith S (((S 3 (q) + 1) % 6))) &&& 4088) &&& 2730)) = nI (bWrit S q) from nv_e (by first | (simp [bWrit, c1, c3, c14, c20]; done) | (simp [bWrit, c1, c3, c14, c20] <;> omega) | omega)) ?_
          exact ro_iret hx hb hr hlocks dX0_barsWritten_89
  · refine lv_aload_n hx hb dX0_barsWritten_9 rfl (lv_at hl 0 rfl) ?_
    refine lv_iload_n hx hb dX0_barsWritten_10 rfl (lv_at hl 1 rfl) ?_
    refine ro_V (n := 1) (As := [.int (nI q)]) (rest := []) ⟨hx, hb, hml, hown, hts⟩ (c_X0_hasOtherOfFirstPart l D ci G ka a S w r nb (q) hWF (by omega)) gX0_barsWritten_X0_hasOtherOfFirstPart rfl ⟨rfl, rfl⟩ (by decide +kernel) rfl ⟨Nat.le_of_ble_eq_true rfl, Nat.le_of_ble_eq_true rfl⟩ hE hs hK hP (ci := 0) (q0 := 0) rfl rfl hl.1 rfl (Nat.le_of_ble_eq_true rfl) dX0_barsWritten_11 ⟨Nat.zero_le _, Nat.zero_le _⟩ ?_
    refine nv_ifne_b (tgt := 19) hx hb dX0_barsWritten_14 (by decide) (fun c23 => ?_) (fun c23 => ?_)
    · refine lv_aload_n hx hb dX0_barsWritten_19 rfl (lv_at hl 0 rfl) ?_
      refine lv_aload_n hx hb dX0_barsWritten_20 rfl (lv_at hl 0 rfl) ?_
      refine va_get (D := D) (ci := 0) (v := .ref (a 4)) (C := RX0) (T := TX0) (N := 13) hx hb hts hinX0 hown hK hP 0 rfl rfl 3 (by decide) (hts (.fieldLink RX0 21 "OneShort$Orchestra" "part" "[I") (List.mem_of_getElem? (i := 1) rfl)) (fun _ h9 => h9) rfl dX0_barsWritten_21 ?_
      refine lv_iload_n hx hb dX0_barsWritten_24 rfl (lv_at hl 1 rfl) ?_
      have f24 := hWF.f3 (q)
      refine nv_iald (v := nI (S 3 (q))) hx hb hK hP 4 0 rfl rfl (by omega) (by decide) rfl dX0_barsWritten_25 ?_
      refine ro_V (n := 1) (As := [.int (nI (S 3 (q)))]) (rest := []) ⟨hx, hb, hml, hown, hts⟩ (c_X0_barsWith l D ci G ka a S w r nb (S 3 (q)) hWF (by omega)) gX0_barsWritten_X0_barsWith rfl ⟨rfl, rfl⟩ (by decide +kernel) rfl ⟨Nat.le_of_ble_eq_true rfl, Nat.le_of_ble_eq_true rfl⟩ hE hs hK hP (ci := 0) (q0 := 0) rfl rfl hl.1 rfl (Nat.le_of_ble_eq_true rfl) dX0_barsWritten_26 ⟨Nat.zero_le _, Nat.zero_le _⟩ ?_
      refine lv_istore_n (lv' := [(2, .int (nI (barsWith S (S 3 (q))))), (0, .ref (a 0)), (1, .int (nI q))]) hx hb dX0_barsWritten_29 rfl hl (by decide) rfl (fun ls hl => ?_)
      refine lv_aload_n hx hb dX0_barsWritten_30 rfl (lv_at hl 1 rfl) ?_
      refine lv_iload_n hx hb dX0_barsWritten_31 rfl (lv_at hl 2 rfl) ?_
      refine lv_iconst (v := nI (2)) hx hb dX0_barsWritten_32 (by decide) ?_
      refine ro_V (n := 2) (As := [.int (nI q), .int (nI 2)]) (rest := []) ⟨hx, hb, hml, hown, hts⟩ (c_X0_isOne l D ci G ka a S w r nb (q) (2) hWF (by omega) (by omega)) gX0_barsWritten_X0_isOne rfl ⟨rfl, rfl⟩ (by decide +kernel) rfl ⟨Nat.le_of_ble_eq_true rfl, Nat.le_of_ble_eq_true rfl⟩ hE hs hK hP (ci := 0) (q0 := 0) rfl rfl hl.1 rfl (Nat.le_of_ble_eq_true rfl) dX0_barsWritten_33 ⟨Nat.zero_le _, Nat.zero_le _⟩ ?_
      refine nv_ifeq_b (tgt := 57) hx hb dX0_barsWritten_36 (by decide) (fun c25 => ?_) (fun c25 => ?_)
      · refine lv_aload_n hx hb dX0_barsWritten_57 rfl (lv_at hl 1 rfl) ?_
        refine lv_iload_n hx hb dX0_barsWritten_58 rfl (lv_at hl 2 rfl) ?_
        refine lv_iconst (v := nI (1)) hx hb dX0_barsWritten_59 (by decide) ?_
        refine ro_V (n := 2) (As := [.int (nI q), .int (nI 1)]) (rest := []) ⟨hx, hb, hml, hown, hts⟩ (c_X0_isOne l D ci G ka a S w r nb (q) (1) hWF (by omega) (by omega)) gX0_barsWritten_X0_isOne rfl ⟨rfl, rfl⟩ (by decide +kernel) rfl ⟨Nat.le_of_ble_eq_true rfl, Nat.le_of_ble_eq_true rfl⟩ hE hs hK hP (ci := 0) (q0 := 0) rfl rfl hl.1 rfl (Nat.le_of_ble_eq_true rfl) dX0_barsWritten_60 ⟨Nat.zero_le _, Nat.zero_le _⟩ ?_
        refine nv_ifeq_b (tgt := 72) hx hb dX0_barsWritten_63 (by decide) (fun c26 => ?_) (fun c26 => ?_)
        · refine lv_aload_n hx hb dX0_barsWritten_72 rfl (lv_at hl 1 rfl) ?_
          refine lv_iload_n hx hb dX0_barsWritten_73 rfl (lv_at hl 2 rfl) ?_
          refine lv_bipush (v := nI (6)) hx hb dX0_barsWritten_74 (by decide) ?_
          refine ro_V (n := 2) (As := [.int (nI q), .int (nI 6)]) (rest := []) ⟨hx, hb, hml, hown, hts⟩ (c_X0_isOne l D ci G ka a S w r nb (q) (6) hWF (by omega) (by omega)) gX0_barsWritten_X0_isOne rfl ⟨rfl, rfl⟩ (by decide +kernel) rfl ⟨Nat.le_of_ble_eq_true rfl, Nat.le_of_ble_eq_true rfl⟩ hE hs hK hP (ci := 0) (q0 := 0) rfl rfl hl.1 rfl (Nat.le_of_ble_eq_true rfl) dX0_barsWritten_76 ⟨Nat.zero_le _, Nat.zero_le _⟩ ?_
          refine nv_ifeq_b (tgt := 88) hx hb dX0_barsWritten_79 (by decide) (fun c27 => ?_) (fun c27 => ?_)
          · refine lv_iload_n hx hb dX0_barsWritten_88 rfl (lv_at hl 0 rfl) ?_
            refine nv_cv (show nI (barsWith S (S 3 (q))) = nI (bWrit S q) from nv_e (by first | (simp [bWrit, c1, c23, c25, c26, c27]; done) | (simp [bWrit, c1, c23, c25, c26, c27] <;> omega) | omega)) ?_
            exact ro_iret hx hb hr hlocks dX0_barsWritten_89
          · refine lv_iload_n hx hb dX0_barsWritten_82 rfl (lv_at hl 0 rfl) ?_
            refine lv_sipush (v := nI (2730)) hx hb dX0_barsWritten_83 (by decide) ?_
            refine nv_iand hx hb dX0_barsWritten_86 ?_
            have f28 : (barsWith S (S 3 (q)) &&& 2730) ≤ 2730 := Nat.and_le_right
            have f29 : (barsWith S (S 3 (q)) &&& 2730) ≤ barsWith S (S 3 (q)) := Nat.and_le_left
            refine lv_istore_n (lv' := [(2, .int (nI ((barsWith S (S 3 (q)) &&& 2730)))), (0, .ref (a 0)), (1, .int (nI q))]) hx hb dX0_barsWritten_87 rfl hl (by decide) rfl (fun ls hl => ?_)
            refine lv_iload_n hx hb dX0_barsWritten_88 rfl (lv_at hl 0 rfl) ?_
            refine nv_cv (show nI ((barsWith S (S 3 (q)) &&& 2730)) = nI (bWrit S q) from nv_e (by first | (simp [bWrit, c1, c23, c25, c26, c27]; done) | (simp [bWrit, c1, c23, c25, c26, c27] <;> omega) | omega)) ?_
            exact ro_iret hx hb hr hlocks dX0_barsWritten_89
        · refine lv_iload_n hx hb dX0_barsWritten_66 rfl (lv_at hl 0 rfl) ?_
          refine lv_sipush (v := nI (4088)) hx hb dX0_barsWritten_67 (by decide) ?_
          refine nv_iand hx hb dX0_barsWritten_70 ?_
          have f30 : (barsWith S (S 3 (q)) &&& 4088) ≤ 4088 := Nat.and_le_right
          have f31 : (barsWith S (S 3 (q)) &&& 4088) ≤ barsWith S (S 3 (q)) := Nat.and_le_left
          refine lv_istore_n (lv' := [(2, .int (nI ((barsWith S (S 3 (q)) &&& 4088)))), (0, .ref (a 0)), (1, .int (nI q))]) hx hb dX0_barsWritten_71 rfl hl (by decide) rfl (fun ls hl => ?_)
          refine lv_aload_n hx hb dX0_barsWritten_72 rfl (lv_at hl 1 rfl) ?_
          refine lv_iload_n hx hb dX0_barsWritten_73 rfl (lv_at hl 2 rfl) ?_
          refine lv_bipush (v := nI (6)) hx hb dX0_barsWritten_74 (by decide) ?_
          refine ro_V (n := 2) (As := [.int (nI q), .int (nI 6)]) (rest := []) ⟨hx, hb, hml, hown, hts⟩ (c_X0_isOne l D ci G ka a S w r nb (q) (6) hWF (by omega) (by omega)) gX0_barsWritten_X0_isOne rfl ⟨rfl, rfl⟩ (by decide +kernel) rfl ⟨Nat.le_of_ble_eq_true rfl, Nat.le_of_ble_eq_true rfl⟩ hE hs hK hP (ci := 0) (q0 := 0) rfl rfl hl.1 rfl (Nat.le_of_ble_eq_true rfl) dX0_barsWritten_76 ⟨Nat.zero_le _, Nat.zero_le _⟩ ?_
          refine nv_ifeq_b (tgt := 88) hx hb dX0_barsWritten_79 (by decide) (fun c32 => ?_) (fun c32 => ?_)
          · refine lv_iload_n hx hb dX0_barsWritten_88 rfl (lv_at hl 0 rfl) ?_
            refine nv_cv (show nI ((barsWith S (S 3 (q)) &&& 4088)) = nI (bWrit S q) from nv_e (by first | (simp [bWrit, c1, c23, c25, c26, c32]; done) | (simp [bWrit, c1, c23, c25, c26, c32] <;> omega) | omega)) ?_
            exact ro_iret hx hb hr hlocks dX0_barsWritten_89
          · refine lv_iload_n hx hb dX0_barsWritten_82 rfl (lv_at hl 0 rfl) ?_
            refine lv_sipush (v := nI (2730)) hx hb dX0_barsWritten_83 (by decide) ?_
            refine nv_iand hx hb dX0_barsWritten_86 ?_
            have f33 : ((barsWith S (S 3 (q)) &&& 4088) &&& 2730) ≤ 2730 := Nat.and_le_right
            have f34 : ((barsWith S (S 3 (q)) &&& 4088) &&& 2730) ≤ (barsWith S (S 3 (q)) &&& 4088) := Nat.and_le_left
            refine lv_istore_n (lv' := [(2, .int (nI (((barsWith S (S 3 (q)) &&& 4088) &&& 2730)))), (0, .ref (a 0)), (1, .int (nI q))]) hx hb dX0_barsWritten_87 rfl hl (by decide) rfl (fun ls hl => ?_)
            refine lv_iload_n hx hb dX0_barsWritten_88 rfl (lv_at hl 0 rfl) ?_
            refine nv_cv (show nI (((barsWith S (S 3 (q)) &&& 4088) &&& 2730)) = nI (bWrit S q) from nv_e (by first | (simp [bWrit, c1, c23, c25, c26, c32]; done) | (simp [bWrit, c1, c23, c25, c26, c32] <;> omega) | omega)) ?_
            exact ro_iret hx hb hr hlocks dX0_barsWritten_89
      · refine lv_iload_n hx hb dX0_barsWritten_39 rfl (lv_at hl 0 rfl) ?_
        refine lv_aload_n hx hb dX0_barsWritten_40 rfl (lv_at hl 1 rfl) ?_
        refine lv_aload_n hx hb dX0_barsWritten_41 rfl (lv_at hl 1 rfl) ?_
        refine va_get (D := D) (ci := 0) (v := .ref (a 4)) (C := RX0) (T := TX0) (N := 13) hx hb hts hinX0 hown hK hP 0 rfl rfl 3 (by decide) (hts (.fieldLink RX0 21 "OneShort$Orchestra" "part" "[I") (List.mem_of_getElem? (i := 1) rfl)) (fun _ h9 => h9) rfl dX0_barsWritten_42 ?_
        refine lv_iload_n hx hb dX0_barsWritten_45 rfl (lv_at hl 2 rfl) ?_
        have f35 := hWF.f3 (q)
        refine nv_iald (v := nI (S 3 (q))) hx hb hK hP 4 0 rfl rfl (by omega) (by decide) rfl dX0_barsWritten_46 ?_
        refine lv_iconst (v := nI (1)) hx hb dX0_barsWritten_47 (by decide) ?_
        refine nv_iadd hx hb dX0_barsWritten_48 ?_
        refine lv_bipush (v := nI (6)) hx hb dX0_barsWritten_49 (by decide) ?_
        refine nv_irem hx hb (by omega) (by omega) (by omega) dX0_barsWritten_51 ?_
        refine ro_V (n := 1) (As := [.int (nI (((S 3 (q) + 1) % 6)))]) (rest := [.int (nI (barsWith S (S 3 (q))))]) ⟨hx, hb, hml, hown, hts⟩ (c_X0_barsWith l D ci G ka a S w r nb (((S 3 (q) + 1) % 6)) hWF (by omega)) gX0_barsWritten_X0_barsWith rfl ⟨rfl, rfl⟩ (by decide +kernel) rfl ⟨Nat.le_of_ble_eq_true rfl, Nat.le_of_ble_eq_true rfl⟩ hE hs hK hP (ci := 0) (q0 := 0) rfl rfl hl.1 rfl (Nat.le_of_ble_eq_true rfl) dX0_barsWritten_52 ⟨Nat.zero_le _, Nat.zero_le _⟩ ?_
        refine nv_ior hx hb dX0_barsWritten_55 ?_
        refine lv_istore_n (lv' := [(2, .int (nI ((barsWith S (S 3 (q)) ||| barsWith S (((S 3 (q) + 1) % 6)))))), (0, .ref (a 0)), (1, .int (nI q))]) hx hb dX0_barsWritten_56 rfl hl (by decide) rfl (fun ls hl => ?_)
        refine lv_aload_n hx hb dX0_barsWritten_57 rfl (lv_at hl 1 rfl) ?_
        refine lv_iload_n hx hb dX0_barsWritten_58 rfl (lv_at hl 2 rfl) ?_
        refine lv_iconst (v := nI (1)) hx hb dX0_barsWritten_59 (by decide) ?_
        refine ro_V (n := 2) (As := [.int (nI q), .int (nI 1)]) (rest := []) ⟨hx, hb, hml, hown, hts⟩ (c_X0_isOne l D ci G ka a S w r nb (q) (1) hWF (by omega) (by omega)) gX0_barsWritten_X0_isOne rfl ⟨rfl, rfl⟩ (by decide +kernel) rfl ⟨Nat.le_of_ble_eq_true rfl, Nat.le_of_ble_eq_true rfl⟩ hE hs hK hP (ci := 0) (q0 := 0) rfl rfl hl.1 rfl (Nat.le_of_ble_eq_true rfl) dX0_barsWritten_60 ⟨Nat.zero_le _, Nat.zero_le _⟩ ?_
        refine nv_ifeq_b (tgt := 72) hx hb dX0_barsWritten_63 (by decide) (fun c36 => ?_) (fun c36 => ?_)
        · refine lv_aload_n hx hb dX0_barsWritten_72 rfl (lv_at hl 1 rfl) ?_
          refine lv_iload_n hx hb dX0_barsWritten_73 rfl (lv_at hl 2 rfl) ?_
          refine lv_bipush (v := nI (6)) hx hb dX0_barsWritten_74 (by decide) ?_
          refine ro_V (n := 2) (As := [.int (nI q), .int (nI 6)]) (rest := []) ⟨hx, hb, hml, hown, hts⟩ (c_X0_isOne l D ci G ka a S w r nb (q) (6) hWF (by omega) (by omega)) gX0_barsWritten_X0_isOne rfl ⟨rfl, rfl⟩ (by decide +kernel) rfl ⟨Nat.le_of_ble_eq_true rfl, Nat.le_of_ble_eq_true rfl⟩ hE hs hK hP (ci := 0) (q0 := 0) rfl rfl hl.1 rfl (Nat.le_of_ble_eq_true rfl) dX0_barsWritten_76 ⟨Nat.zero_le _, Nat.zero_le _⟩ ?_
          refine nv_ifeq_b (tgt := 88) hx hb dX0_barsWritten_79 (by decide) (fun c37 => ?_) (fun c37 => ?_)
          · refine lv_iload_n hx hb dX0_barsWritten_88 rfl (lv_at hl 0 rfl) ?_
            refine nv_cv (show nI ((barsWith S (S 3 (q)) ||| barsWith S (((S 3 (q) + 1) % 6)))) = nI (bWrit S q) from nv_e (by first | (simp [bWrit, c1, c23, c25, c36, c37]; done) | (simp [bWrit, c1, c23, c25, c36, c37] <;> omega) | omega)) ?_
            exact ro_iret hx hb hr hlocks dX0_barsWritten_89
          · refine lv_iload_n hx hb dX0_barsWritten_82 rfl (lv_at hl 0 rfl) ?_
            refine lv_sipush (v := nI (2730)) hx hb dX0_barsWritten_83 (by decide) ?_
            refine nv_iand hx hb dX0_barsWritten_86 ?_
            have f38 : ((barsWith S (S 3 (q)) ||| barsWith S (((S 3 (q) + 1) % 6))) &&& 2730) ≤ 2730 := Nat.and_le_right
            have f39 : ((barsWith S (S 3 (q)) ||| barsWith S (((S 3 (q) + 1) % 6))) &&& 2730) ≤ (barsWith S (S 3 (q)) ||| barsWith S (((S 3 (q) + 1) % 6))) := Nat.and_le_left
            refine lv_istore_n (lv' := [(2, .int (nI (((barsWith S (S 3 (q)) ||| barsWith S (((S 3 (q) + 1) % 6))) &&& 2730)))), (0, .ref (a 0)), (1, .int (nI q))]) hx hb dX0_barsWritten_87 rfl hl (by decide) rfl (fun ls hl => ?_)
            refine lv_iload_n hx hb dX0_barsWritten_88 rfl (lv_at hl 0 rfl) ?_
            refine nv_cv (show nI (((barsWith S (S 3 (q)) ||| barsWith S (((S 3 (q) + 1) % 6))) &&& 2730)) = nI (bWrit S q) from nv_e (by first | (simp [bWrit, c1, c23, c25, c36, c37]; done) | (simp [bWrit, c1, c23, c25, c36, c37] <;> omega) | omega)) ?_
            exact ro_iret hx hb hr hlocks dX0_barsWritten_89
        · refine lv_iload_n hx hb dX0_barsWritten_66 rfl (lv_at hl 0 rfl) ?_
          refine lv_sipush (v := nI (4088)) hx hb dX0_barsWritten_67 (by decide) ?_
          refine nv_iand hx hb dX0_barsWritten_70 ?_
          have f40 : ((barsWith S (S 3 (q)) ||| barsWith S (((S 3 (q) + 1) % 6))) &&& 4088) ≤ 4088 := Nat.and_le_right
          have f41 : ((barsWith S (S 3 (q)) ||| barsWith S (((S 3 (q) + 1) % 6))) &&& 4088) ≤ (barsWith S (S 3 (q)) ||| barsWith S (((S 3 (q) + 1) % 6))) := Nat.and_le_left
          refine lv_istore_n (lv' := [(2, .int (nI (((barsWith S (S 3 (q)) ||| barsWith S (((S 3 (q) + 1) % 6))) &&& 4088)))), (0, .ref (a 0)), (1, .int (nI q))]) hx hb dX0_barsWritten_71 rfl hl (by decide) rfl (fun ls hl => ?_)
          refine lv_aload_n hx hb dX0_barsWritten_72 rfl (lv_at hl 1 rfl) ?_
          refine lv_iload_n hx hb dX0_barsWritten_73 rfl (lv_at hl 2 rfl) ?_
          refine lv_bipush (v := nI (6)) hx hb dX0_barsWritten_74 (by decide) ?_
          refine ro_V (n := 2) (As := [.int (nI q), .int (nI 6)]) (rest := []) ⟨hx, hb, hml, hown, hts⟩ (c_X0_isOne l D ci G ka a S w r nb (q) (6) hWF (by omega) (by omega)) gX0_barsWritten_X0_isOne rfl ⟨rfl, rfl⟩ (by decide +kernel) rfl ⟨Nat.le_of_ble_eq_true rfl, Nat.le_of_ble_eq_true rfl⟩ hE hs hK hP (ci := 0) (q0 := 0) rfl rfl hl.1 rfl (Nat.le_of_ble_eq_true rfl) dX0_barsWritten_76 ⟨Nat.zero_le _, Nat.zero_le _⟩ ?_
          refine nv_ifeq_b (tgt := 88) hx hb dX0_barsWritten_79 (by decide) (fun c42 => ?_) (fun c42 => ?_)
          · refine lv_iload_n hx hb dX0_barsWritten_88 rfl (lv_at hl 0 rfl) ?_
            refine nv_cv (show nI (((barsWith S (S 3 (q)) ||| barsWith S (((S 3 (q) + 1) % 6))) &&& 4088)) = nI (bWrit S q) from nv_e (by first | (simp [bWrit, c1, c23, c25, c36, c42]; done) | (simp [bWrit, c1, c23, c25, c36, c42] <;> omega) | omega)) ?_
            exact ro_iret hx hb hr hlocks dX0_barsWritten_89
          · refine lv_iload_n hx hb dX0_barsWritten_82 rfl (lv_at hl 0 rfl) ?_
            refine lv_sipush (v := nI (2730)) hx hb dX0_barsWritten_83 (by decide) ?_
            refine nv_iand hx hb dX0_barsWritten_86 ?_
            have f43 : (((barsWith S (S 3 (q)) ||| barsWith S (((S 3 (q) + 1) % 6))) &&& 4088) &&& 2730) ≤ 2730 := Nat.and_le_right
            have f44 : (((barsWith S (S 3 (q)) ||| barsWith S (((S 3 (q) + 1) % 6))) &&& 4088) &&& 2730) ≤ ((barsWith S (S 3 (q)) ||| barsWith S (((S 3 (q) + 1) % 6))) &&& 4088) := Nat.and_le_left
            refine lv_istore_n (lv' := [(2, .int (nI ((((barsWith S (S 3 (q)) ||| barsWith S (((S 3 (q) + 1) % 6))) &&& 4088) &&& 2730)))), (0, .ref (a 0)), (1, .int (nI q))]) hx hb dX0_barsWritten_87 rfl hl (by decide) rfl (fun ls hl => ?_)
            refine lv_iload_n hx hb dX0_barsWritten_88 rfl (lv_at hl 0 rfl) ?_
            refine nv_cv (show nI ((((barsWith S (S 3 (q)) ||| barsWith S (((S 3 (q) + 1) % 6))) &&& 4088) &&& 2730)) = nI (bWrit S q) from nv_e (by first | (simp [bWrit, c1, c23, c25, c36, c42]; done) | (simp [bWrit, c1, c23, c25, c36, c42] <;> omega) | omega)) ?_
            exact ro_iret hx hb hr hlocks dX0_barsWritten_89
    · refine lv_iconst (v := nI (0)) hx hb dX0_barsWritten_17 (by decide) ?_
      refine nv_cv (show nI (0) = nI (bWrit S q) from nv_e (by first | (simp [bWrit, c1, c23]; done) | (simp [bWrit, c1, c23] <;> omega) | omega)) ?_
      exact ro_iret hx hb hr hlocks dX0_barsWritten_18
