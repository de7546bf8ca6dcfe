/-! walks laid by program -/
set_option maxHeartbeats 4000000 in
set_option maxRecDepth 100000 in
/-- X0_barsPlayed -/
theorem c_X0_barsPlayed (l : Launch) (D : va_G) (ci : Nat → ClassId) (G : Nat → Prop) (ka : Nat) (a : Nat → Nat) (S : OS) (w r nb : Nat → Int32) (q : Nat) (hWF : WF S) (h_q : q < 8) : Met l yX0_barsPlayed wsX0_barsPlayed ({ frames := 2, cells := 0, slots := 0, locals := 46 } : Room) (va_Pc [.ref (a 0), .int (nI q)] (ro_B D (tyL ci) (wO (ci 0) a S w r nb) (en D (ci 0) G ka))) (ro_Q (some (.int (nI (bPlay S q))))) 0 0 (fun _ => False) := by
  refine ro_Met (cc := cX0_barsPlayed) (maxL := 2) (ret := (some .int)) [(0, .ref (a 0)), (1, .int (nI q))] (by decide) rfl (Nat.le_of_ble_eq_true rfl) rfl ?_
  intro p e s m below meth c hx hb hml hr hlocks hts hown hP hK hs ls hl
  have hown : s.vm.findClass RX0 = some m.cls := hown
  have hE := hE_en D (ci 0) G ka
  have f_n := hWF.n
  refine lv_aload_n hx hb dX0_barsPlayed_0 rfl (lv_at hl 0 rfl) ?_
  refine lv_iload_n hx hb dX0_barsPlayed_1 rfl (lv_at hl 1 rfl) ?_
  refine ro_V (n := 1) (As := [.int (nI q)]) (rest := []) ⟨hx, hb, hml, hown, hts⟩ (c_X0_isBold l D ci G ka a S w r nb (q) hWF (by omega)) gX0_barsPlayed_X0_isBold rfl ⟨rfl, rfl⟩ (by decide +kernel) rfl ⟨Nat.le_of_ble_eq_true rfl, Nat.le_of_ble_eq_true rfl⟩ hE hs hK hP (ci := 0) (q0 := 0) rfl rfl hl.1 rfl (Nat.le_of_ble_eq_true rfl) dX0_barsPlayed_2 ⟨Nat.zero_le _, Nat.zero_le _⟩ ?_
  refine nv_ifeq_b (tgt := 14) hx hb dX0_barsPlayed_5 (by decide) (fun c1 => ?_) (fun c1 => ?_)
  · refine lv_aload_n hx hb dX0_barsPlayed_14 rfl (lv_at hl 0 rfl) ?_
    refine lv_iload_n hx hb dX0_barsPlayed_15 rfl (lv_at hl 1 rfl) ?_
    refine ro_V (n := 1) (As := [.int (nI q)]) (rest := []) ⟨hx, hb, hml, hown, hts⟩ (c_X0_barsWritten l D ci G ka a S w r nb (q) hWF (by omega)) gX0_barsPlayed_X0_barsWritten rfl ⟨rfl, rfl⟩ (by decide +kernel) rfl ⟨Nat.le_of_ble_eq_true rfl, Nat.le_of_ble_eq_true rfl⟩ hE hs hK hP (ci := 0) (q0 := 0) rfl rfl hl.1 rfl (Nat.le_of_ble_eq_true rfl) dX0_barsPlayed_16 ⟨Nat.zero_le _, Nat.zero_le _⟩ ?_
    refine nv_cv (show nI (bWrit S (q)) = nI (bPlay S q) from nv_e (by first | (simp [bPlay, c1]; done) | (simp [bPlay, c1] <;> omega) | omega)) ?_
    exact ro_iret hx hb hr hlocks dX0_barsPlayed_19
  · refine lv_sipush (v := nI (4095)) hx hb dX0_barsPlayed_8 (by decide) ?_
    refine lv_goto (tgt := 19) hx hb dX0_barsPlayed_11 (by decide) ?_
    refine nv_cv (show nI (4095) = nI (bPlay S q) from nv_e (by first | (simp [bPlay, c1]; done) | (simp [bPlay, c1] <;> omega) | omega)) ?_
    exact ro_iret hx hb hr hlocks dX0_barsPlayed_19

set_option maxHeartbeats 4000000 in
set_option maxRecDepth 100000 in
/-- X0_isPlaying -/
theorem c_X0_isPlaying (l : Launch) (D : va_G) (ci : Nat → ClassId) (G : Nat → Prop) (ka : Nat) (a : Nat → Nat) (S : OS) (w r nb : Nat → Int32) (q bb : Nat) (hWF : WF S) (h_q : q < 8) (h_bb : bb < 12) : Met l yX0_isPlaying wsX0_isPlaying ({ frames := 3, cells := 0, slots := 0, locals := 67 } : Room) (va_Pc [.ref (a 0), .int (nI q), .int (nI bb)] (ro_B D (tyL ci) (wO (ci 0) a S w r nb) (en D (ci 0) G ka))) (ro_Q (some (.int (bI (plays S q bb))))) 0 0 (fun _ => False) := by
  refine ro_Met (cc := cX0_isPlaying) (maxL := 3) (ret := (some .boolean)) [(0, .ref (a 0)), (1, .int (nI q)), (2, .int (nI bb))] (by decide) rfl (Nat.le_of_ble_eq_true rfl) rfl ?_
  intro p e s m below meth c hx hb hml hr hlocks hts hown hP hK hs ls hl
  have hown : s.vm.findClass RX0 = some m.cls := hown
  have hE := hE_en D (ci 0) G ka
  have f_n := hWF.n
  refine lv_aload_n hx hb dX0_isPlaying_0 rfl (lv_at hl 0 rfl) ?_
  refine lv_iload_n hx hb dX0_isPlaying_1 rfl (lv_at hl 1 rfl) ?_
  refine ro_V (n := 1) (As := [.int (nI q)]) (rest := []) ⟨hx, hb, hml, hown, hts⟩ (c_X0_barsPlayed l D ci G ka a S w r nb (q) hWF (by omega)) gX0_isPlaying_X0_barsPlayed rfl ⟨rfl, rfl⟩ (by decide +kernel) rfl ⟨Nat.le_of_ble_eq_true rfl, Nat.le_of_ble_eq_true rfl⟩ hE hs hK hP (ci := 0) (q0 := 0) rfl rfl hl.1 rfl (Nat.le_of_ble_eq_true rfl) dX0_isPlaying_2 ⟨Nat.zero_le _, Nat.zero_le _⟩ ?_
  have f1 := bPlay_lt S ((q))
  refine lv_iload_n hx hb dX0_isPlaying_5 rfl (lv_at hl 2 rfl) ?_
  refine nv_ishr hx hb (by omega) (by omega) dX0_isPlaying_6 ?_
  refine lv_iconst (v := nI (1)) hx hb dX0_isPlaying_7 (by decide) ?_
  refine nv_iand hx hb dX0_isPlaying_8 ?_
  have f2 : ((bPlay S (q) / 2 ^ (bb)) &&& 1) ≤ 1 := Nat.and_le_right
  have f3 : ((bPlay S (q) / 2 ^ (bb)) &&& 1) ≤ (bPlay S (q) / 2 ^ (bb)) := Nat.and_le_left
  refine nv_ifeq (tgt := 16) hx hb (by omega) dX0_isPlaying_9 (by decide) (fun c4 => ?_) (fun c4 => ?_)
  · refine lv_iconst (v := nI (0)) hx hb dX0_isPlaying_16 (by decide) ?_
    refine nv_cv (show nI (0) = bI (plays S q bb) from nv_f (by first | exact bit_t c4 | exact bit_f c4)) ?_
    exact ro_zret hx hb hr hlocks dX0_isPlaying_17
  · refine lv_iconst (v := nI (1)) hx hb dX0_isPlaying_12 (by decide) ?_
    refine lv_goto (tgt := 17) hx hb dX0_isPlaying_13 (by decide) ?_
    refine nv_cv (show nI (1) = bI (plays S q bb) from nv_t (by first | exact bit_t c4 | exact bit_f c4)) ?_
    exact ro_zret hx hb hr hlocks dX0_isPlaying_17

set_option maxHeartbeats 4000000 in
set_option maxRecDepth 100000 in
/-- X0_playersIn -/
theorem c_X0_playersIn (l : Launch) (D : va_G) (ci : Nat → ClassId) (G : Nat → Prop) (ka : Nat) (a : Nat → Nat) (S : OS) (w r nb : Nat → Int32) (bb : Nat) (hWF : WF S) (h_bb : bb < 12) : Met l yX0_playersIn wsX0_playersIn ({ frames := 4, cells := 0, slots := 0, locals := 89 } : Room) (va_Pc [.ref (a 0), .int (nI bb)] (ro_B D (tyL ci) (wO (ci 0) a S w r nb) (en D (ci 0) G ka))) (ro_Q (some (.int (nI (playIn S bb))))) 0 0 (fun _ => False) := by
  refine ro_Met (cc := cX0_playersIn) (maxL := 4) (ret := (some .int)) [(0, .ref (a 0)), (1, .int (nI bb))] (by decide) rfl (Nat.le_of_ble_eq_true rfl) rfl ?_
  intro p e s m below meth c hx hb hml hr hlocks hts hown hP hK hs ls hl
  have hown : s.vm.findClass RX0 = some m.cls := hown
  have hinX0 : ∀ w ∈ wsX00, w ∈ wsX0_playersIn := by decide +kernel
  have hE := hE_en D (ci 0) G ka
  have f_n := hWF.n
  refine lv_iconst (v := nI (0)) hx hb dX0_playersIn_0 (by decide) ?_
  refine lv_istore_n (lv' := [(2, .int (nI 0)), (0, .ref (a 0)), (1, .int (nI bb))]) hx hb dX0_playersIn_1 rfl hl (by decide) rfl (fun ls hl => ?_)
  refine lv_iconst (v := nI (0)) hx hb dX0_playersIn_2 (by decide) ?_
  refine lv_istore_n (lv' := [(3, .int (nI 0)), (2, .int (nI 0)), (0, .ref (a 0)), (1, .int (nI bb))]) hx hb dX0_playersIn_3 rfl hl (by decide) rfl (fun ls hl => ?_)
  have L4 : ∀ (k4 : Nat) (i : Nat), S 7 0 - i < k4 → (i ≤ S 7 0) → ∀ (x2 x3 : Int32), x2 = nI (setTo (fun q => plays S q bb) (i)) → x3 = nI (i) → ∀ ls : Array Slot, lv_has ls 4 [(2, .int (x2)), (3, .int (x3)), (0, .ref (a 0)), (1, .int (nI bb))] → W p l e (headSpec wsX0_playersIn ({ frames := 4, cells := 0, slots := 0, locals := 89 } : Room)).room s m ([.ref (a 0), .int (nI bb)] : List Value).toArray below meth c s.heap [] 0 0 (MQ below (ro_Q (some (.int (nI (playIn S bb))))) ([.ref (a 0), .int (nI bb)] : List Value).toArray s 0 0 (fun _ => False)) (F0 m 4 ls []) := by
    intro k4
    induction k4 with
    | zero => intro i h0; exact absurd h0 (Nat.not_lt_zero _)
    | succ k4 ih4 =>
      intro i hk4 h_i x2 x3 e2 e3 ls hl
      subst e2
      subst e3
      refine lv_iload_n hx hb dX0_playersIn_4 rfl (lv_at hl 1 rfl) ?_
      refine lv_aload_n hx hb dX0_playersIn_5 rfl (lv_at hl 2 rfl) ?_
      refine va_get (D := D) (ci := 0) (v := .int (nI (S 7 0))) (C := RX0) (T := TX0) (N := 13) hx hb hts hinX0 hown hK hP 0 rfl rfl 7 (by decide) (hts (.fieldLink RX0 33 "OneShort$Orchestra" "size" "I") (List.mem_of_getElem? (i := 1) rfl)) (fun _ h9 => h9) rfl dX0_playersIn_6 ?_
      refine nv_icmp_ge (tgt := 33) hx hb (by omega) (by omega) dX0_playersIn_9 (by decide) (fun c1 => ?_) (fun c1 => ?_)
      · refine lv_iload_n hx hb dX0_playersIn_33 rfl (lv_at hl 0 rfl) ?_
        refine nv_cv (show nI (setTo (fun q => plays S q bb) (i)) = nI (playIn S bb) from nv_e (by rw [playIn, show S 7 0 = i by omega])) ?_
        exact ro_iret hx hb hr hlocks dX0_playersIn_34
      · refine lv_aload_n hx hb dX0_playersIn_12 rfl (lv_at hl 2 rfl) ?_
        refine lv_iload_n hx hb dX0_playersIn_13 rfl (lv_at hl 1 rfl) ?_
        refine lv_iload_n hx hb dX0_playersIn_14 rfl (lv_at hl 3 rfl) ?_
        refine ro_V (n := 2) (As := [.int (nI i), .int (nI bb)]) (rest := []) ⟨hx, hb, hml, hown, hts⟩ (c_X0_isPlaying l D ci G ka a S w r nb (i) (bb) hWF (by omega) (by omega)) gX0_playersIn_X0_isPlaying rfl ⟨rfl, rfl⟩ (by decide +kernel) rfl ⟨Nat.le_of_ble_eq_true rfl, Nat.le_of_ble_eq_true rfl⟩ hE hs hK hP (ci := 0) (q0 := 0) rfl rfl hl.1 rfl (Nat.le_of_ble_eq_true rfl) dX0_playersIn_15 ⟨Nat.zero_le _, Nat.zero_le _⟩ ?_
        refine nv_ifeq_b (tgt := 27) hx hb dX0_playersIn_18 (by decide) (fun c2 => ?_) (fun c2 => ?_)
        · refine nv_iinc1 (lv' := [(3, .int (nI (i + 1))), (2, .int (nI (setTo (fun q => plays S q bb) (i)))), (0, .ref (a 0)), (1, .int (nI bb))]) hx hb dX0_playersIn_27 hl (k := 1) rfl (by decide) rfl (fun ls hl => ?_)
          refine lv_goto (tgt := 4) hx hb dX0_playersIn_30 (by decide) ?_
          exact ih4 (i + 1) (by omega) (by omega) (nI (setTo (fun q => plays S q bb) (i))) (nI (i + 1)) (nv_e (by first | exact setTo_t c2 | exact setTo_f c2)) rfl ls (lv_sub hl [1, 0, 2, 3] rfl)
        · refine lv_iload_n hx hb dX0_playersIn_21 rfl (lv_at hl 0 rfl) ?_
          refine lv_iconst (v := nI (1)) hx hb dX0_playersIn_22 (by decide) ?_
          refine lv_iload_n hx hb dX0_playersIn_23 rfl (lv_at hl 1 rfl) ?_
          refine nv_ishl hx hb (by omega) dX0_playersIn_24 ?_
          refine nv_ior hx hb dX0_playersIn_25 ?_
          refine lv_istore_n (lv' := [(2, .int (nI ((setTo (fun q => plays S q bb) (i) ||| (1 * 2 ^ (i)))))), (3, .int (nI i)), (0, .ref (a 0)), (1, .int (nI bb))]) hx hb dX0_playersIn_26 rfl hl (by decide) rfl (fun ls hl => ?_)
          refine nv_iinc1 (lv' := [(3, .int (nI (i + 1))), (2, .int (nI ((setTo (fun q => plays S q bb) (i) ||| (1 * 2 ^ (i)))))), (0, .ref (a 0)), (1, .int (nI bb))]) hx hb dX0_playersIn_27 hl (k := 1) rfl (by decide) rfl (fun ls hl => ?_)
          refine lv_goto (tgt := 4) hx hb dX0_playersIn_30 (by decide) ?_
          exact ih4 (i + 1) (by omega) (by omega) (nI ((setTo (fun q => plays S q bb) (i) ||| (1 * 2 ^ (i))))) (nI (i + 1)) (nv_e (by first | exact setTo_t c2 | exact setTo_f c2)) rfl ls (lv_sub hl [1, 0, 2, 3] rfl)
  exact L4 _ (0) (Nat.lt_succ_self _) (by omega) (nI (0)) (nI (0)) rfl rfl ls (lv_sub hl [1, 0, 2, 3] rfl)

set_option maxHeartbeats 4000000 in
set_option maxRecDepth 100000 in
/-- X0_loudness -/
theorem c_X0_loudness (l : Launch) (D : va_G) (ci : Nat → ClassId) (G : Nat → Prop) (ka : Nat) (a : Nat → Nat) (S : OS) (w r nb : Nat → Int32) (q se : Nat) (hWF : WF S) (h_q : q < 8) (h_se : se < 16) : Met l yX0_loudness wsX0_loudness ({ frames := 1, cells := 0, slots := 0, locals := 40 } : Room) (va_Pc [.ref (a 0), .int (nI q), .int (nI se)] (ro_B D (tyL ci) (wO (ci 0) a S w r nb) (en D (ci 0) G ka))) (ro_Q (some (.int (nI (loudn S q se))))) 0 0 (fun _ => False) := by
  refine ro_Met (cc := cX0_loudness) (maxL := 3) (ret := (some .int)) [(0, .ref (a 0)), (1, .int (nI q)), (2, .int (nI se))] (by decide) rfl (Nat.le_of_ble_eq_true rfl) rfl ?_
  intro p e s m below meth c hx hb hml hr hlocks hts hown hP hK hs ls hl
  have hown : s.vm.findClass RX0 = some m.cls := hown
  have hinX0 : ∀ w ∈ wsX00, w ∈ wsX0_loudness := by decide +kernel
  have hE := hE_en D (ci 0) G ka
  have f_n := hWF.n
  refine lv_iconst (v := nI (0)) hx hb dX0_loudness_0 (by decide) ?_
  refine lv_aload_n hx hb dX0_loudness_1 rfl (lv_at hl 0 rfl) ?_
  refine va_get (D := D) (ci := 0) (v := .ref (a 5)) (C := RX0) (T := TX0) (N := 13) hx hb hts hinX0 hown hK hP 0 rfl rfl 4 (by decide) (hts (.fieldLink RX0 24 "OneShort$Orchestra" "loud" "[I") (List.mem_of_getElem? (i := 1) rfl)) (fun _ h9 => h9) rfl dX0_loudness_2 ?_
  refine lv_iload_n hx hb dX0_loudness_5 rfl (lv_at hl 1 rfl) ?_
  have f1 := hWF.f4 (q)
  refine nv_iald (v := nI (S 4 (q))) hx hb hK hP 5 0 rfl rfl (by omega) (by decide) rfl dX0_loudness_6 ?_
  refine lv_aload_n hx hb dX0_loudness_7 rfl (lv_at hl 0 rfl) ?_
  refine va_get (D := D) (ci := 0) (v := .ref (a 3)) (C := RX0) (T := TX0) (N := 13) hx hb hts hinX0 hown hK hP 0 rfl rfl 2 (by decide) (hts (.fieldLink RX0 18 "OneShort$Orchestra" "seat" "[I") (List.mem_of_getElem? (i := 2) rfl)) (fun _ h9 => h9) rfl dX0_loudness_8 ?_
  refine lv_iload_n hx hb dX0_loudness_11 rfl (lv_at hl 1 rfl) ?_
  have f2 := hWF.f2 (q)
  refine nv_iald (v := nI (S 2 (q))) hx hb hK hP 3 0 rfl rfl (by omega) (by decide) rfl dX0_loudness_12 ?_
  refine lv_iload_n hx hb dX0_loudness_13 rfl (lv_at hl 2 rfl) ?_
  refine lv_isub hx hb dX0_loudness_14 ?_
  refine va_mabs hx hb (hml.trans hl.1.symm) hown (hts (.methodLink RX0 85 Lib.Math.abs.name) (List.mem_of_getElem? (i := 3) rfl)) (hts (.static Lib.Math.abs.name) (List.mem_of_getElem? (i := 4) rfl)) (hts (.initialized "java/lang/Math") (List.mem_of_getElem? (i := 5) rfl)) (hts (.code Lib.Math.abs.name Lib.Math.abs.code 1 (some .int)) (List.mem_of_getElem? (i := 6) rfl)) (Nat.le_of_ble_eq_true rfl) (Nat.le_of_ble_eq_true rfl) (Nat.zero_le _) (Nat.zero_le _) dX0_loudness_15 (nv_cv (nv_abs (x := S 2 (q)) (y := se) (by omega) (by omega)) ?_)
  have f3 := dist_le (S 2 (q)) (se)
  refine lv_isub hx hb dX0_loudness_18 ?_
  refine va_mmax hx hb (hml.trans hl.1.symm) hown (hts (.methodLink RX0 90 Lib.Math.max.name) (List.mem_of_getElem? (i := 7) rfl)) (hts (.static Lib.Math.max.name) (List.mem_of_getElem? (i := 8) rfl)) (hts (.initialized "java/lang/Math") (List.mem_of_getElem? (i := 5) rfl)) (hts (.code Lib.Math.max.name Lib.Math.max.code 2 (some .int)) (List.mem_of_getElem? (i := 9) rfl)) (Nat.le_of_ble_eq_true rfl) (Nat.le_of_ble_eq_true rfl) (Nat.zero_le _) (Nat.zero_le _) dX0_loudness_19 (nv_cv (nv_max0 (x := S 4 (q)) (y := dist (S 2 (q)) (se)) (by omega) (by omega)) ?_)
  refine nv_cv (show nI ((S 4 (q) - (dist (S 2 (q)) (se)))) = nI (loudn S q se) from nv_e (rfl)) ?_
  exact ro_iret hx hb hr hlocks dX0_loudness_22

set_option maxHeartbeats 4000000 in
set_option maxRecDepth 100000 in
/-- X0_greatest -/
theorem c_X0_greatest (l : Launch) (D : va_G) (ci : Nat → ClassId) (G : Nat → Prop) (ka : Nat) (a : Nat → Nat) (S : OS) (w r nb : Nat → Int32) (se set : Nat) (hWF : WF S) (h_se : se < 16) (h_set : set < 256) : Met l yX0_greatest wsX0_greatest ({ frames := 2, cells := 0, slots := 0, locals := 62 } : Room) (va_Pc [.ref (a 0), .int (nI se), .int (nI set)] (ro_B D (tyL ci) (wO (ci 0) a S w r nb) (en D (ci 0) G ka))) (ro_Q (some (.int (nI (great S se set))))) 0 0 (fun _ => False) := by
  refine ro_Met (cc := cX0_greatest) (maxL := 5) (ret := (some .int)) [(0, .ref (a 0)), (1, .int (nI se)), (2, .int (nI set))] (by decide) rfl (Nat.le_of_ble_eq_true rfl) rfl ?_
  intro p e s m below meth c hx hb hml hr hlocks hts hown hP hK hs ls hl
  have hown : s.vm.findClass RX0 = some m.cls := hown
  have hinX0 : ∀ w ∈ wsX00, w ∈ wsX0_greatest := by decide +kernel
  have hE := hE_en D (ci 0) G ka
  have f_n := hWF.n
  refine lv_iconst (v := nI (0)) hx hb dX0_greatest_0 (by decide) ?_
  refine lv_istore_n (lv' := [(3, .int (nI 0)), (0, .ref (a 0)), (1, .int (nI se)), (2, .int (nI set))]) hx hb dX0_greatest_1 rfl hl (by decide) rfl (fun ls hl => ?_)
  refine lv_iconst (v := nI (0)) hx hb dX0_greatest_2 (by decide) ?_
  refine lv_istore (lv' := [(4, .int (nI 0)), (3, .int (nI 0)), (0, .ref (a 0)), (1, .int (nI se)), (2, .int (nI set))]) hx hb dX0_greatest_3 hl (by decide) rfl (fun ls hl => ?_)
  have L5 : ∀ (k5 : Nat) (i : Nat), S 7 0 - i < k5 → (i ≤ S 7 0) → ∀ (x3 x4 : Int32), x3 = nI (maxTo (fun q => if set.testBit q then loudn S q se else 0) (i)) → x4 = nI (i) → ∀ ls : Array Slot, lv_has ls 5 [(3, .int (x3)), (4, .int (x4)), (0, .ref (a 0)), (1, .int (nI se)), (2, .int (nI set))] → W p l e (headSpec wsX0_greatest ({ frames := 2, cells := 0, slots := 0, locals := 62 } : Room)).room s m ([.ref (a 0), .int (nI se), .int (nI set)] : List Value).toArray below meth c s.heap [] 0 0 (MQ below (ro_Q (some (.int (nI (great S se set))))) ([.ref (a 0), .int (nI se), .int (nI set)] : List Value).toArray s 0 0 (fun _ => False)) (F0 m 5 ls []) := by
    intro k5
    induction k5 with
    | zero => intro i h0; exact absurd h0 (Nat.not_lt_zero _)
    | succ k5 ih5 =>
      intro i hk5 h_i x3 x4 e3 e4 ls hl
      subst e3
      subst e4
      have f_m := great_lt hWF se set i
      refine lv_iload hx hb dX0_greatest_5 (lv_at hl 1 rfl) ?_
      refine lv_aload_n hx hb dX0_greatest_7 rfl (lv_at hl 2 rfl) ?_
      refine va_get (D := D) (ci := 0) (v := .int (nI (S 7 0))) (C := RX0) (T := TX0) (N := 13) hx hb hts hinX0 hown hK hP 0 rfl rfl 7 (by decide) (hts (.fieldLink RX0 33 "OneShort$Orchestra" "size" "I") (List.mem_of_getElem? (i := 1) rfl)) (fun _ h9 => h9) rfl dX0_greatest_8 ?_
      refine nv_icmp_ge (tgt := 41) hx hb (by omega) (by omega) dX0_greatest_11 (by decide) (fun c1 => ?_) (fun c1 => ?_)
      · refine lv_iload_n hx hb dX0_greatest_41 rfl (lv_at hl 0 rfl) ?_
        refine nv_cv (show nI (maxTo (fun q => if set.testBit q then loudn S q se else 0) (i)) = nI (great S se set) from nv_e (by rw [great, show S 7 0 = i by omega])) ?_
        exact ro_iret hx hb hr hlocks dX0_greatest_42
      · refine lv_iload_n hx hb dX0_greatest_14 rfl (lv_at hl 4 rfl) ?_
        refine lv_iload hx hb dX0_greatest_15 (lv_at hl 1 rfl) ?_
        refine nv_ishr hx hb (by omega) (by omega) dX0_greatest_17 ?_
        refine lv_iconst (v := nI (1)) hx hb dX0_greatest_18 (by decide) ?_
        refine nv_iand hx hb dX0_greatest_19 ?_
        have f2 : ((set / 2 ^ (i)) &&& 1) ≤ 1 := Nat.and_le_right
        have f3 : ((set / 2 ^ (i)) &&& 1) ≤ (set / 2 ^ (i)) := Nat.and_le_left
        refine nv_ifeq (tgt := 35) hx hb (by omega) dX0_greatest_20 (by decide) (fun c4 => ?_) (fun c4 => ?_)
        · refine nv_iinc1 (lv' := [(4, .int (nI (i + 1))), (3, .int (nI (maxTo (fun q => if set.testBit q then loudn S q se else 0) (i)))), (0, .ref (a 0)), (1, .int (nI se)), (2, .int (nI set))]) hx hb dX0_greatest_35 hl (k := 1) rfl (by decide) rfl (fun ls hl => ?_)
          refine lv_goto (tgt := 5) hx hb dX0_greatest_38 (by decide) ?_
          exact ih5 (i + 1) (by omega) (by omega) (nI (maxTo (fun q => if set.testBit q then loudn S q se else 0) (i))) (nI (i + 1)) (nv_e (by first | exact great_t (bit_t c4) | exact great_f (bit_f c4))) rfl ls (lv_sub hl [1, 0, 2, 3, 4] rfl)
        · refine lv_iload_n hx hb dX0_greatest_23 rfl (lv_at hl 0 rfl) ?_
          refine lv_aload_n hx hb dX0_greatest_24 rfl (lv_at hl 2 rfl) ?_
          refine lv_iload hx hb dX0_greatest_25 (lv_at hl 1 rfl) ?_
          refine lv_iload_n hx hb dX0_greatest_27 rfl (lv_at hl 3 rfl) ?_
          refine ro_V (n := 2) (As := [.int (nI i), .int (nI se)]) (rest := [.int (nI (maxTo (fun q => if set.testBit q then loudn S q se else 0) (i)))]) ⟨hx, hb, hml, hown, hts⟩ (c_X0_loudness l D ci G ka a S w r nb (i) (se) hWF (by omega) (by omega)) gX0_greatest_X0_loudness rfl ⟨rfl, rfl⟩ (by decide +kernel) rfl ⟨Nat.le_of_ble_eq_true rfl, Nat.le_of_ble_eq_true rfl⟩ hE hs hK hP (ci := 0) (q0 := 0) rfl rfl hl.1 rfl (Nat.le_of_ble_eq_true rfl) dX0_greatest_28 ⟨Nat.zero_le _, Nat.zero_le _⟩ ?_
          have f5 := loudn_lt hWF ((i)) ((se))
          refine va_mmax hx hb (hml.trans hl.1.symm) hown (hts (.methodLink RX0 90 Lib.Math.max.name) (List.mem_of_getElem? (i := 2) rfl)) (hts (.static Lib.Math.max.name) (List.mem_of_getElem? (i := 3) rfl)) (hts (.initialized "java/lang/Math") (List.mem_of_getElem? (i := 4) rfl)) (hts (.code Lib.Math.max.name Lib.Math.max.code 2 (some .int)) (List.mem_of_getElem? (i := 5) rfl)) (Nat.le_of_ble_eq_true rfl) (Nat.le_of_ble_eq_true rfl) (Nat.zero_le _) (Nat.zero_le _) dX0_greatest_31 (nv_cv (nv_max (x := maxTo (fun q => if set.testBit q then loudn S q se else 0) (i)) (y := loudn S (i) (se)) (by omega) (by omega)) ?_)
          refine lv_istore_n (lv' := [(3, .int (nI (max (maxTo (fun q => if set.testBit q then loudn S q se else 0) (i)) (loudn S (i) (se))))), (4, .int (nI i)), (0, .ref (a 0)), (1, .int (nI se)), (2, .int (nI set))]) hx hb dX0_greatest_34 rfl hl (by decide) rfl (fun ls hl => ?_)
          refine nv_iinc1 (lv' := [(4, .int (nI (i + 1))), (3, .int (nI (max (maxTo (fun q => if set.testBit q then loudn S q se else 0) (i)) (loudn S (i) (se))))), (0, .ref (a 0)), (1, .int (nI se)), (2, .int (nI set))]) hx hb dX0_greatest_35 hl (k := 1) rfl (by decide) rfl (fun ls hl => ?_)
          refine lv_goto (tgt := 5) hx hb dX0_greatest_38 (by decide) ?_
          exact ih5 (i + 1) (by omega) (by omega) (nI (max (maxTo (fun q => if set.testBit q then loudn S q se else 0) (i)) (loudn S (i) (se)))) (nI (i + 1)) (nv_e (by first | exact great_t (bit_t c4) | exact great_f (bit_f c4))) rfl ls (lv_sub hl [1, 0, 2, 3, 4] rfl)
  exact L5 _ (0) (Nat.lt_succ_self _) (by omega) (nI (0)) (nI (0)) rfl rfl ls (lv_sub hl [1, 0, 2, 3, 4] rfl)

set_option maxHeartbeats 4000000 in
set_option maxRecDepth 100000 in
/-- X0_loudest -/
theorem c_X0_loudest (l : Launch) (D : va_G) (ci : Nat → ClassId) (G : Nat → Prop) (ka : Nat) (a : Nat → Nat) (S : OS) (w r nb : Nat → Int32) (se set : Nat) (hWF : WF S) (h_se : se < 16) (h_set : set < 256) : Met l yX0_loudest wsX0_loudest ({ frames := 3, cells := 0, slots := 0, locals := 86 } : Room) (va_Pc [.ref (a 0), .int (nI se), .int (nI set)] (ro_B D (tyL ci) (wO (ci 0) a S w r nb) (en D (ci 0) G ka))) (ro_Q (some (.int (nI (loudst S se set))))) 0 0 (fun _ => False) := by
  refine ro_Met (cc := cX0_loudest) (maxL := 6) (ret := (some .int)) [(0, .ref (a 0)), (1, .int (nI se)), (2, .int (nI set))] (by decide) rfl (Nat.le_of_ble_eq_true rfl) rfl ?_
  intro p e s m below meth c hx hb hml hr hlocks hts hown hP hK hs ls hl
  have hown : s.vm.findClass RX0 = some m.cls := hown
  have hinX0 : ∀ w ∈ wsX00, w ∈ wsX0_loudest := by decide +kernel
  have hE := hE_en D (ci 0) G ka
  have f_n := hWF.n
  refine lv_aload_n hx hb dX0_loudest_0 rfl (lv_at hl 0 rfl) ?_
  refine lv_iload_n hx hb dX0_loudest_1 rfl (lv_at hl 1 rfl) ?_
  refine lv_iload_n hx hb dX0_loudest_2 rfl (lv_at hl 2 rfl) ?_
  refine ro_V (n := 2) (As := [.int (nI se), .int (nI set)]) (rest := []) ⟨hx, hb, hml, hown, hts⟩ (c_X0_greatest l D ci G ka a S w r nb (se) (set) hWF (by omega) (by omega)) gX0_loudest_X0_greatest rfl ⟨rfl, rfl⟩ (by decide +kernel) rfl ⟨Nat.le_of_ble_eq_true rfl, Nat.le_of_ble_eq_true rfl⟩ hE hs hK hP (ci := 0) (q0 := 0) rfl rfl hl.1 rfl (Nat.le_of_ble_eq_true rfl) dX0_loudest_3 ⟨Nat.zero_le _, Nat.zero_le _⟩ ?_
  have f1 := great_lt' hWF ((se)) ((set))
  refine lv_istore_n (lv' := [(3, .int (nI (great S (se) (set)))), (0, .ref (a 0)), (1, .int (nI se)), (2, .int (nI set))]) hx hb dX0_loudest_6 rfl hl (by decide) rfl (fun ls hl => ?_)
  refine lv_iconst (v := nI (0)) hx hb dX0_loudest_7 (by decide) ?_
  refine lv_istore (lv' := [(4, .int (nI 0)), (3, .int (nI (great S (se) (set)))), (0, .ref (a 0)), (1, .int (nI se)), (2, .int (nI set))]) hx hb dX0_loudest_8 hl (by decide) rfl (fun ls hl => ?_)
  refine lv_iconst (v := nI (0)) hx hb dX0_loudest_10 (by decide) ?_
  refine lv_istore (lv' := [(5, .int (nI 0)), (4, .int (nI 0)), (3, .int (nI (great S (se) (set)))), (0, .ref (a 0)), (1, .int (nI se)), (2, .int (nI set))]) hx hb dX0_loudest_11 hl (by decide) rfl (fun ls hl => ?_)
  have L13 : ∀ (k13 : Nat) (i : Nat), S 7 0 - i < k13 → (i ≤ S 7 0) → ∀ (x4 x5 : Int32), x4 = nI (setTo (fun q => decide (0 < great S se set) && set.testBit q && loudn S q se == great S se set) (i)) → x5 = nI (i) → ∀ ls : Array Slot, lv_has ls 6 [(4, .int (x4)), (5, .int (x5)), (3, .int (nI (great S (se) (set)))), (0, .ref (a 0)), (1, .int (nI se)), (2, .int (nI set))] → W p l e (headSpec wsX0_loudest ({ frames := 3, cells := 0, slots := 0, locals := 86 } : Room)).room s m ([.ref (a 0), .int (nI se), .int (nI set)] : List Value).toArray below meth c s.heap [] 0 0 (MQ below (ro_Q (some (.int (nI (loudst S se set))))) ([.ref (a 0), .int (nI se), .int (nI set)] : List Value).toArray s 0 0 (fun _ => False)) (F0 m 13 ls []) := by
    intro k13
    induction k13 with
    | zero => intro i h0; exact absurd h0 (Nat.not_lt_zero _)
    | succ k13 ih13 =>
      intro i hk13 h_i x4 x5 e4 e5 ls hl
      subst e4
      subst e5
      have f_g := great_lt' hWF se set
      refine lv_iload hx hb dX0_loudest_13 (lv_at hl 1 rfl) ?_
      refine lv_aload_n hx hb dX0_loudest_15 rfl (lv_at hl 3 rfl) ?_
      refine va_get (D := D) (ci := 0) (v := .int (nI (S 7 0))) (C := RX0) (T := TX0) (N := 13) hx hb hts hinX0 hown hK hP 0 rfl rfl 7 (by decide) (hts (.fieldLink RX0 33 "OneShort$Orchestra" "size" "I") (List.mem_of_getElem? (i := 1) rfl)) (fun _ h9 => h9) rfl dX0_loudest_16 ?_
      refine nv_icmp_ge (tgt := 61) hx hb (by omega) (by omega) dX0_loudest_19 (by decide) (fun c2 => ?_) (fun c2 => ?_)
      · refine lv_iload hx hb dX0_loudest_61 (lv_at hl 0 rfl) ?_
        refine nv_cv (show nI (setTo (fun q => decide (0 < great S se set) && set.testBit q && loudn S q se == great S se set) (i)) = nI (loudst S se set) from nv_e (by rw [loudst, show S 7 0 = i by omega])) ?_
        exact ro_iret hx hb hr hlocks dX0_loudest_63
      · refine lv_iload_n hx hb dX0_loudest_22 rfl (lv_at hl 2 rfl) ?_
        refine nv_ifle (tgt := 55) hx hb (by omega) dX0_loudest_23 (by decide) (fun c3 => ?_) (fun c3 => ?_)
        · refine nv_iinc1 (lv' := [(5, .int (nI (i + 1))), (4, .int (nI (setTo (fun q => decide (0 < great S se set) && set.testBit q && loudn S q se == great S se set) (i)))), (3, .int (nI (great S (se) (set)))), (0, .ref (a 0)), (1, .int (nI se)), (2, .int (nI set))]) hx hb dX0_loudest_55 hl (k := 1) rfl (by decide) rfl (fun ls hl => ?_)
          refine lv_goto (tgt := 13) hx hb dX0_loudest_58 (by decide) ?_
          exact ih13 (i + 1) (by omega) (by omega) (nI (setTo (fun q => decide (0 < great S se set) && set.testBit q && loudn S q se == great S se set) (i))) (nI (i + 1)) (nv_e (by first | exact setTo_t (lst_t rfl c2 c3) | exact setTo_f (lst_f0 c3) | exact setTo_f (lst_f1 c3) | exact setTo_f (lst_f2 c3))) rfl ls (lv_sub hl [1, 0, 2, 3, 4, 5] rfl)
        · refine lv_iload_n hx hb dX0_loudest_26 rfl (lv_at hl 5 rfl) ?_
          refine lv_iload hx hb dX0_loudest_27 (lv_at hl 1 rfl) ?_
          refine nv_ishr hx hb (by omega) (by omega) dX0_loudest_29 ?_
          refine lv_iconst (v := nI (1)) hx hb dX0_loudest_30 (by decide) ?_
          refine nv_iand hx hb dX0_loudest_31 ?_
          have f4 : ((set / 2 ^ (i)) &&& 1) ≤ 1 := Nat.and_le_right
          have f5 : ((set / 2 ^ (i)) &&& 1) ≤ (set / 2 ^ (i)) := Nat.and_le_left
          refine nv_ifeq (tgt := 55) hx hb (by omega) dX0_loudest_32 (by decide) (fun c6 => ?_) (fun c6 => ?_)
          · refine nv_iinc1 (lv' := [(5, .int (nI (i + 1))), (4, .int (nI (setTo (fun q => decide (0 < great S se set) && set.testBit q && loudn S q se == great S se set) (i)))), (3, .int (nI (great S (se) (set)))), (0, .ref (a 0)), (1, .int (nI se)), (2, .int (nI set))]) hx hb dX0_loudest_55 hl (k := 1) rfl (by decide) rfl (fun ls hl => ?_)
            refine lv_goto (tgt := 13) hx hb dX0_loudest_58 (by decide) ?_
            exact ih13 (i + 1) (by omega) (by omega) (nI (setTo (fun q => decide (0 < great S se set) && set.testBit q && loudn S q se == great S se set) (i))) (nI (i + 1)) (nv_e (by first | exact setTo_t (lst_t c2 c3 c6) | exact setTo_f (lst_f0 c6) | exact setTo_f (lst_f1 c6) | exact setTo_f (lst_f2 c6))) rfl ls (lv_sub hl [1, 0, 2, 3, 4, 5] rfl)
          · refine lv_aload_n hx hb dX0_loudest_35 rfl (lv_at hl 3 rfl) ?_
            refine lv_iload hx hb dX0_loudest_36 (lv_at hl 1 rfl) ?_
            refine lv_iload_n hx hb dX0_loudest_38 rfl (lv_at hl 4 rfl) ?_
            refine ro_V (n := 2) (As := [.int (nI i), .int (nI se)]) (rest := []) ⟨hx, hb, hml, hown, hts⟩ (c_X0_loudness l D ci G ka a S w r nb (i) (se) hWF (by omega) (by omega)) gX0_loudest_X0_loudness rfl ⟨rfl, rfl⟩ (by decide +kernel) rfl ⟨Nat.le_of_ble_eq_true rfl, Nat.le_of_ble_eq_true rfl⟩ hE hs hK hP (ci := 0) (q0 := 0) rfl rfl hl.1 rfl (Nat.le_of_ble_eq_true rfl) dX0_loudest_39 ⟨Nat.zero_le _, Nat.zero_le _⟩ ?_
            have f7 := loudn_lt hWF ((i)) ((se))
            refine lv_iload_n hx hb dX0_loudest_42 rfl (lv_at hl 2 rfl) ?_
            refine nv_icmp_ne (tgt := 55) hx hb (by omega) (by omega) dX0_loudest_43 (by decide) (fun c8 => ?_) (fun c8 => ?_)
            · refine nv_iinc1 (lv' := [(5, .int (nI (i + 1))), (4, .int (nI (setTo (fun q => decide (0 < great S se set) && set.testBit q && loudn S q se == great S se set) (i)))), (3, .int (nI (great S (se) (set)))), (0, .ref (a 0)), (1, .int (nI se)), (2, .int (nI set))]) hx hb dX0_loudest_55 hl (k := 1) rfl (by decide) rfl (fun ls hl => ?_)
              refine lv_goto (tgt := 13) hx hb dX0_loudest_58 (by decide) ?_
              exact ih13 (i + 1) (by omega) (by omega) (nI (setTo (fun q => decide (0 < great S se set) && set.testBit q && loudn S q se == great S se set) (i))) (nI (i + 1)) (nv_e (by first | exact setTo_t (lst_t c3 c6 c8) | exact setTo_f (lst_f0 c8) | exact setTo_f (lst_f1 c8) | exact setTo_f (lst_f2 c8))) rfl ls (lv_sub hl [1, 0, 2, 3, 4, 5] rfl)
            · refine lv_iload hx hb dX0_loudest_46 (lv_at hl 0 rfl) ?_
              refine lv_iconst (v := nI (1)) hx hb dX0_loudest_48 (by decide) ?_
              refine lv_iload hx hb dX0_loudest_49 (lv_at hl 1 rfl) ?_
              refine nv_ishl hx hb (by omega) dX0_loudest_51 ?_
              refine nv_ior hx hb dX0_loudest_52 ?_
              refine lv_istore (lv' := [(4, .int (nI ((setTo (fun q => decide (0 < great S se set) && set.testBit q && loudn S q se == great S se set) (i) ||| (1 * 2 ^ (i)))))), (5, .int (nI i)), (3, .int (nI (great S (se) (set)))), (0, .ref (a 0)), (1, .int (nI se)), (2, .int (nI set))]) hx hb dX0_loudest_53 hl (by decide) rfl (fun ls hl => ?_)
              refine nv_iinc1 (lv' := [(5, .int (nI (i + 1))), (4, .int (nI ((setTo (fun q => decide (0 < great S se set) && set.testBit q && loudn S q se == great S se set) (i) ||| (1 * 2 ^ (i)))))), (3, .int (nI (great S (se) (set)))), (0, .ref (a 0)), (1, .int (nI se)), (2, .int (nI set))]) hx hb dX0_loudest_55 hl (k := 1) rfl (by decide) rfl (fun ls hl => ?_)
              refine lv_goto (tgt := 13) hx hb dX0_loudest_58 (by decide) ?_
              exact ih13 (i + 1) (by omega) (by omega) (nI ((setTo (fun q => decide (0 < great S se set) && set.testBit q && loudn S q se == great S se set) (i) ||| (1 * 2 ^ (i))))) (nI (i + 1)) (nv_e (by first | exact setTo_t (lst_t c3 c6 c8) | exact setTo_f (lst_f0 c8) | exact setTo_f (lst_f1 c8) | exact setTo_f (lst_f2 c8))) rfl ls (lv_sub hl [1, 0, 2, 3, 4, 5] rfl)
  exact L13 _ (0) (Nat.lt_succ_self _) (by omega) (nI (0)) (nI (0)) rfl rfl ls (lv_sub hl [1, 0, 2, 3, 4, 5] rfl)

set_option maxHeartbeats 4000000 in
set_option maxRecDepth 100000 in
/-- X0_seatsReached -/
theorem c_X0_seatsReached (l : Launch) (D : va_G) (ci : Nat → ClassId) (G : Nat → Prop) (ka : Nat) (a : Nat → Nat) (S : OS) (w r nb : Nat → Int32) (bb : Nat) (hWF : WF S) (h_bb : bb < 12) : Met l yX0_seatsReached wsX0_seatsReached ({ frames := 5, cells := 0, slots := 0, locals := 112 } : Room) (va_Pc [.ref (a 0), .int (nI bb)] (ro_B D (tyL ci) (wO (ci 0) a S w r nb) (en D (ci 0) G ka))) (ro_Q (some (.int (nI (reachd S bb))))) 0 0 (fun _ => False) := by
  refine ro_Met (cc := cX0_seatsReached) (maxL := 5) (ret := (some .int)) [(0, .ref (a 0)), (1, .int (nI bb))] (by decide) rfl (Nat.le_of_ble_eq_true rfl) rfl ?_
  intro p e s m below meth c hx hb hml hr hlocks hts hown hP hK hs ls hl
  have hown : s.vm.findClass RX0 = some m.cls := hown
  have hE := hE_en D (ci 0) G ka
  have f_n := hWF.n
  refine lv_aload_n hx hb dX0_seatsReached_0 rfl (lv_at hl 0 rfl) ?_
  refine lv_iload_n hx hb dX0_seatsReached_1 rfl (lv_at hl 1 rfl) ?_
  refine ro_V (n := 1) (As := [.int (nI bb)]) (rest := []) ⟨hx, hb, hml, hown, hts⟩ (c_X0_playersIn l D ci G ka a S w r nb (bb) hWF (by omega)) gX0_seatsReached_X0_playersIn rfl ⟨rfl, rfl⟩ (by decide +kernel) rfl ⟨Nat.le_of_ble_eq_true rfl, Nat.le_of_ble_eq_true rfl⟩ hE hs hK hP (ci := 0) (q0 := 0) rfl rfl hl.1 rfl (Nat.le_of_ble_eq_true rfl) dX0_seatsReached_2 ⟨Nat.zero_le _, Nat.zero_le _⟩ ?_
  have f1 := playIn_lt hWF ((bb))
  refine lv_istore_n (lv' := [(2, .int (nI (playIn S (bb)))), (0, .ref (a 0)), (1, .int (nI bb))]) hx hb dX0_seatsReached_5 rfl hl (by decide) rfl (fun ls hl => ?_)
  refine lv_iconst (v := nI (0)) hx hb dX0_seatsReached_6 (by decide) ?_
  refine lv_istore_n (lv' := [(3, .int (nI 0)), (2, .int (nI (playIn S (bb)))), (0, .ref (a 0)), (1, .int (nI bb))]) hx hb dX0_seatsReached_7 rfl hl (by decide) rfl (fun ls hl => ?_)
  refine lv_iconst (v := nI (0)) hx hb dX0_seatsReached_8 (by decide) ?_
  refine lv_istore (lv' := [(4, .int (nI 0)), (3, .int (nI 0)), (2, .int (nI (playIn S (bb)))), (0, .ref (a 0)), (1, .int (nI bb))]) hx hb dX0_seatsReached_9 hl (by decide) rfl (fun ls hl => ?_)
  have L11 : ∀ (k11 : Nat) (i : Nat), 16 - i < k11 → (i ≤ 16) → ∀ (x3 x4 : Int32), x3 = nI (cntTo (fun se => decide (0 < great S se (playIn S bb))) (i)) → x4 = nI (i) → ∀ ls : Array Slot, lv_has ls 5 [(3, .int (x3)), (4, .int (x4)), (2, .int (nI (playIn S (bb)))), (0, .ref (a 0)), (1, .int (nI bb))] → W p l e (headSpec wsX0_seatsReached ({ frames := 5, cells := 0, slots := 0, locals := 112 } : Room)).room s m ([.ref (a 0), .int (nI bb)] : List Value).toArray below meth c s.heap [] 0 0 (MQ below (ro_Q (some (.int (nI (reachd S bb))))) ([.ref (a 0), .int (nI bb)] : List Value).toArray s 0 0 (fun _ => False)) (F0 m 11 ls []) := by
    intro k11
    induction k11 with
    | zero => intro i h0; exact absurd h0 (Nat.not_lt_zero _)
    | succ k11 ih11 =>
      intro i hk11 h_i x3 x4 e3 e4 ls hl
      subst e3
      subst e4
      refine lv_iload hx hb dX0_seatsReached_11 (lv_at hl 1 rfl) ?_
      refine lv_bipush (v := nI (16)) hx hb dX0_seatsReached_13 (by decide) ?_
      refine nv_icmp_ge (tgt := 37) hx hb (by omega) (by omega) dX0_seatsReached_15 (by decide) (fun c2 => ?_) (fun c2 => ?_)
      · refine lv_iload_n hx hb dX0_seatsReached_37 rfl (lv_at hl 0 rfl) ?_
        refine nv_cv (show nI (cntTo (fun se => decide (0 < great S se (playIn S bb))) (i)) = nI (reachd S bb) from nv_e (by rw [reachd, show i = 16 by omega])) ?_
        exact ro_iret hx hb hr hlocks dX0_seatsReached_38
      · refine lv_aload_n hx hb dX0_seatsReached_18 rfl (lv_at hl 3 rfl) ?_
        refine lv_iload hx hb dX0_seatsReached_19 (lv_at hl 1 rfl) ?_
        refine lv_iload_n hx hb dX0_seatsReached_21 rfl (lv_at hl 2 rfl) ?_
        refine ro_V (n := 2) (As := [.int (nI i), .int (nI (playIn S (bb)))]) (rest := []) ⟨hx, hb, hml, hown, hts⟩ (c_X0_greatest l D ci G ka a S w r nb (i) (playIn S (bb)) hWF (by omega) (by omega)) gX0_seatsReached_X0_greatest rfl ⟨rfl, rfl⟩ (by decide +kernel) rfl ⟨Nat.le_of_ble_eq_true rfl, Nat.le_of_ble_eq_true rfl⟩ hE hs hK hP (ci := 0) (q0 := 0) rfl rfl hl.1 rfl (Nat.le_of_ble_eq_true rfl) dX0_seatsReached_22 ⟨Nat.zero_le _, Nat.zero_le _⟩ ?_
        have f3 := great_lt' hWF ((i)) ((playIn S (bb)))
        refine nv_ifle (tgt := 31) hx hb (by omega) dX0_seatsReached_25 (by decide) (fun c4 => ?_) (fun c4 => ?_)
        · refine nv_iinc1 (lv' := [(4, .int (nI (i + 1))), (3, .int (nI (cntTo (fun se => decide (0 < great S se (playIn S bb))) (i)))), (2, .int (nI (playIn S (bb)))), (0, .ref (a 0)), (1, .int (nI bb))]) hx hb dX0_seatsReached_31 hl (k := 1) rfl (by decide) rfl (fun ls hl => ?_)
          refine lv_goto (tgt := 11) hx hb dX0_seatsReached_34 (by decide) ?_
          exact ih11 (i + 1) (by omega) (by omega) (nI (cntTo (fun se => decide (0 < great S se (playIn S bb))) (i))) (nI (i + 1)) (nv_e (by first | exact cntTo_t (decide_eq_true c4) | exact cntTo_f (decide_eq_false (by omega)))) rfl ls (lv_sub hl [1, 0, 2, 3, 4] rfl)
        · refine nv_iinc1 (lv' := [(3, .int (nI (cntTo (fun se => decide (0 < great S se (playIn S bb))) (i) + 1))), (4, .int (nI i)), (2, .int (nI (playIn S (bb)))), (0, .ref (a 0)), (1, .int (nI bb))]) hx hb dX0_seatsReached_28 hl (k := 0) rfl (by decide) rfl (fun ls hl => ?_)
          refine nv_iinc1 (lv' := [(4, .int (nI (i + 1))), (3, .int (nI (cntTo (fun se => decide (0 < great S se (playIn S bb))) (i) + 1))), (2, .int (nI (playIn S (bb)))), (0, .ref (a 0)), (1, .int (nI bb))]) hx hb dX0_seatsReached_31 hl (k := 1) rfl (by decide) rfl (fun ls hl => ?_)
          refine lv_goto (tgt := 11) hx hb dX0_seatsReached_34 (by decide) ?_
          exact ih11 (i + 1) (by omega) (by omega) (nI (cntTo (fun se => decide (0 < great S se (playIn S bb))) (i) + 1)) (nI (i + 1)) (nv_e (by first | exact cntTo_t (decide_eq_true c4) | exact cntTo_f (decide_eq_false (by omega)))) rfl ls (lv_sub hl [1, 0, 2, 3, 4] rfl)
  exact L11 _ (0) (Nat.lt_succ_self _) (by omega) (nI (0)) (nI (0)) rfl rfl ls (lv_sub hl [1, 0, 2, 3, 4] rfl)

set_option maxHeartbeats 4000000 in
set_option maxRecDepth 100000 in
/-- X0_canHear -/
theorem c_X0_canHear (l : Launch) (D : va_G) (ci : Nat → ClassId) (G : Nat → Prop) (ka : Nat) (a : Nat → Nat) (S : OS) (w r nb : Nat → Int32) (q o : Nat) (hWF : WF S) (h_q : q < 8) (h_o : o < 8) : Met l yX0_canHear wsX0_canHear ({ frames := 1, cells := 0, slots := 0, locals := 40 } : Room) (va_Pc [.ref (a 0), .int (nI q), .int (nI o)] (ro_B D (tyL ci) (wO (ci 0) a S w r nb) (en D (ci 0) G ka))) (ro_Q (some (.int (bI (canHear S q o))))) 0 0 (fun _ => False) := by
  refine ro_Met (cc := cX0_canHear) (maxL := 3) (ret := (some .boolean)) [(0, .ref (a 0)), (1, .int (nI q)), (2, .int (nI o))] (by decide) rfl (Nat.le_of_ble_eq_true rfl) rfl ?_
  intro p e s m below meth c hx hb hml hr hlocks hts hown hP hK hs ls hl
  have hown : s.vm.findClass RX0 = some m.cls := hown
  have hinX0 : ∀ w ∈ wsX00, w ∈ wsX0_canHear := by decide +kernel
  have hE := hE_en D (ci 0) G ka
  have f_n := hWF.n
  refine lv_iload_n hx hb dX0_canHear_0 rfl (lv_at hl 1 rfl) ?_
  refine lv_iload_n hx hb dX0_canHear_1 rfl (lv_at hl 2 rfl) ?_
  refine nv_icmp_eq (tgt := 30) hx hb (by omega) (by omega) dX0_canHear_2 (by decide) (fun c1 => ?_) (fun c1 => ?_)
  · refine lv_iconst (v := nI (0)) hx hb dX0_canHear_30 (by decide) ?_
    refine nv_cv (show nI (0) = bI (canHear S q o) from nv_f (by first | (simp [canHear, c1]; done) | (simp [canHear, c1] <;> omega) | omega)) ?_
    exact ro_zret hx hb hr hlocks dX0_canHear_31
  · refine lv_aload_n hx hb dX0_canHear_5 rfl (lv_at hl 0 rfl) ?_
    refine va_get (D := D) (ci := 0) (v := .ref (a 2)) (C := RX0) (T := TX0) (N := 13) hx hb hts hinX0 hown hK hP 0 rfl rfl 1 (by decide) (hts (.fieldLink RX0 15 "OneShort$Orchestra" "kind" "[I") (List.mem_of_getElem? (i := 1) rfl)) (fun _ h9 => h9) rfl dX0_canHear_6 ?_
    refine lv_iload_n hx hb dX0_canHear_9 rfl (lv_at hl 1 rfl) ?_
    have f2 := hWF.f1 (q)
    refine nv_iald (v := nI (S 1 (q))) hx hb hK hP 2 0 rfl rfl (by omega) (by decide) rfl dX0_canHear_10 ?_
    refine lv_iconst (v := nI (5)) hx hb dX0_canHear_11 (by decide) ?_
    refine nv_icmp_ne (tgt := 32) hx hb (by omega) (by omega) dX0_canHear_12 (by decide) (fun c3 => ?_) (fun c3 => ?_)
    · refine lv_aload_n hx hb dX0_canHear_32 rfl (lv_at hl 0 rfl) ?_
      refine va_get (D := D) (ci := 0) (v := .ref (a 5)) (C := RX0) (T := TX0) (N := 13) hx hb hts hinX0 hown hK hP 0 rfl rfl 4 (by decide) (hts (.fieldLink RX0 24 "OneShort$Orchestra" "loud" "[I") (List.mem_of_getElem? (i := 3) rfl)) (fun _ h9 => h9) rfl dX0_canHear_33 ?_
      refine lv_iload_n hx hb dX0_canHear_36 rfl (lv_at hl 2 rfl) ?_
      have f4 := hWF.f4 (o)
      refine nv_iald (v := nI (S 4 (o))) hx hb hK hP 5 0 rfl rfl (by omega) (by decide) rfl dX0_canHear_37 ?_
      refine lv_aload_n hx hb dX0_canHear_38 rfl (lv_at hl 0 rfl) ?_
      refine va_get (D := D) (ci := 0) (v := .ref (a 3)) (C := RX0) (T := TX0) (N := 13) hx hb hts hinX0 hown hK hP 0 rfl rfl 2 (by decide) (hts (.fieldLink RX0 18 "OneShort$Orchestra" "seat" "[I") (List.mem_of_getElem? (i := 2) rfl)) (fun _ h9 => h9) rfl dX0_canHear_39 ?_
      refine lv_iload_n hx hb dX0_canHear_42 rfl (lv_at hl 2 rfl) ?_
      have f5 := hWF.f2 (o)
      refine nv_iald (v := nI (S 2 (o))) hx hb hK hP 3 0 rfl rfl (by omega) (by decide) rfl dX0_canHear_43 ?_
      refine lv_aload_n hx hb dX0_canHear_44 rfl (lv_at hl 0 rfl) ?_
      refine va_get (D := D) (ci := 0) (v := .ref (a 3)) (C := RX0) (T := TX0) (N := 13) hx hb hts hinX0 hown hK hP 0 rfl rfl 2 (by decide) (hts (.fieldLink RX0 18 "OneShort$Orchestra" "seat" "[I") (List.mem_of_getElem? (i := 2) rfl)) (fun _ h9 => h9) rfl dX0_canHear_45 ?_
      refine lv_iload_n hx hb dX0_canHear_48 rfl (lv_at hl 1 rfl) ?_
      have f6 := hWF.f2 (q)
      refine nv_iald (v := nI (S 2 (q))) hx hb hK hP 3 0 rfl rfl (by omega) (by decide) rfl dX0_canHear_49 ?_
      refine lv_isub hx hb dX0_canHear_50 ?_
      refine va_mabs hx hb (hml.trans hl.1.symm) hown (hts (.methodLink RX0 85 Lib.Math.abs.name) (List.mem_of_getElem? (i := 4) rfl)) (hts (.static Lib.Math.abs.name) (List.mem_of_getElem? (i := 5) rfl)) (hts (.initialized "java/lang/Math") (List.mem_of_getElem? (i := 6) rfl)) (hts (.code Lib.Math.abs.name Lib.Math.abs.code 1 (some .int)) (List.mem_of_getElem? (i := 7) rfl)) (Nat.le_of_ble_eq_true rfl) (Nat.le_of_ble_eq_true rfl) (Nat.zero_le _) (Nat.zero_le _) dX0_canHear_51 (nv_cv (nv_abs (x := S 2 (o)) (y := S 2 (q)) (by omega) (by omega)) ?_)
      have f7 := dist_le (S 2 (o)) (S 2 (q))
      refine nv_icmp_le (tgt := 61) hx hb (by omega) (by omega) dX0_canHear_54 (by decide) (fun c8 => ?_) (fun c8 => ?_)
      · refine lv_iconst (v := nI (0)) hx hb dX0_canHear_61 (by decide) ?_
        refine nv_cv (show nI (0) = bI (canHear S q o) from nv_f (by first | (simp [canHear, c1, c3, c8]; done) | (simp [canHear, c1, c3, c8] <;> omega) | omega)) ?_
        exact ro_zret hx hb hr hlocks dX0_canHear_62
      · refine lv_iconst (v := nI (1)) hx hb dX0_canHear_57 (by decide) ?_
        refine lv_goto (tgt := 62) hx hb dX0_canHear_58 (by decide) ?_
        refine nv_cv (show nI (1) = bI (canHear S q o) from nv_t (by first | (simp [canHear, c1, c3, c8]; done) | (simp [canHear, c1, c3, c8] <;> omega) | omega)) ?_
        exact ro_zret hx hb hr hlocks dX0_canHear_62
    · refine lv_aload_n hx hb dX0_canHear_15 rfl (lv_at hl 0 rfl) ?_
      refine va_get (D := D) (ci := 0) (v := .ref (a 3)) (C := RX0) (T := TX0) (N := 13) hx hb hts hinX0 hown hK hP 0 rfl rfl 2 (by decide) (hts (.fieldLink RX0 18 "OneShort$Orchestra" "seat" "[I") (List.mem_of_getElem? (i := 2) rfl)) (fun _ h9 => h9) rfl dX0_canHear_16 ?_
      refine lv_iload_n hx hb dX0_canHear_19 rfl (lv_at hl 2 rfl) ?_
      have f9 := hWF.f2 (o)
      refine nv_iald (v := nI (S 2 (o))) hx hb hK hP 3 0 rfl rfl (by omega) (by decide) rfl dX0_canHear_20 ?_
      refine lv_aload_n hx hb dX0_canHear_21 rfl (lv_at hl 0 rfl) ?_
      refine va_get (D := D) (ci := 0) (v := .ref (a 3)) (C := RX0) (T := TX0) (N := 13) hx hb hts hinX0 hown hK hP 0 rfl rfl 2 (by decide) (hts (.fieldLink RX0 18 "OneShort$Orchestra" "seat" "[I") (List.mem_of_getElem? (i := 2) rfl)) (fun _ h9 => h9) rfl dX0_canHear_22 ?_
      refine lv_iload_n hx hb dX0_canHear_25 rfl (lv_at hl 1 rfl) ?_
      have f10 := hWF.f2 (q)
      refine nv_iald (v := nI (S 2 (q))) hx hb hK hP 3 0 rfl rfl (by omega) (by decide) rfl dX0_canHear_26 ?_
      refine nv_icmp_ge (tgt := 32) hx hb (by omega) (by omega) dX0_canHear_27 (by decide) (fun c11 => ?_) (fun c11 => ?_)
      · refine lv_aload_n hx hb dX0_canHear_32 rfl (lv_at hl 0 rfl) ?_
        refine va_get (D := D) (ci := 0) (v := .ref (a 5)) (C := RX0) (T := TX0) (N := 13) hx hb hts hinX0 hown hK hP 0 rfl rfl 4 (by decide) (hts (.fieldLink RX0 24 "OneShort$Orchestra" "loud" "[I") (List.mem_of_getElem? (i := 3) rfl)) (fun _ h9 => h9) rfl dX0_canHear_33 ?_
        refine lv_iload_n hx hb dX0_canHear_36 rfl (lv_at hl 2 rfl) ?_
        have f12 := hWF.f4 (o)
        refine nv_iald (v := nI (S 4 (o))) hx hb hK hP 5 0 rfl rfl (by omega) (by decide) rfl dX0_canHear_37 ?_
        refine lv_aload_n hx hb dX0_canHear_38 rfl (lv_at hl 0 rfl) ?_
        refine va_get (D := D) (ci := 0) (v := .ref (a 3)) (C := RX0) (T := TX0) (N := 13) hx hb hts hinX0 hown hK hP 0 rfl rfl 2 (by decide) (hts (.fieldLink RX0 18 "OneShort$Orchestra" "seat" "[I") (List.mem_of_getElem? (i := 2) rfl)) (fun _ h9 => h9) rfl dX0_canHear_39 ?_
        refine lv_iload_n hx hb dX0_canHear_42 rfl (lv_at hl 2 rfl) ?_
        have f13 := hWF.f2 (o)
        refine nv_iald (v := nI (S 2 (o))) hx hb hK hP 3 0 rfl rfl (by omega) (by decide) rfl dX0_canHear_43 ?_
        refine lv_aload_n hx hb dX0_canHear_44 rfl (lv_at hl 0 rfl) ?_
        refine va_get (D := D) (ci := 0) (v := .ref (a 3)) (C := RX0) (T := TX0) (N := 13) hx hb hts hinX0 hown hK hP 0 rfl rfl 2 (by decide) (hts (.fieldLink RX0 18 "OneShort$Orchestra" "seat" "[I") (List.mem_of_getElem? (i := 2) rfl)) (fun _ h9 => h9) rfl dX0_canHear_45 ?_
        refine lv_iload_n hx hb dX0_canHear_48 rfl (lv_at hl 1 rfl) ?_
        have f14 := hWF.f2 (q)
        refine nv_iald (v := nI (S 2 (q))) hx hb hK hP 3 0 rfl rfl (by omega) (by decide) rfl dX0_canHear_49 ?_
        refine lv_isub hx hb dX0_canHear_50 ?_
        refine va_mabs hx hb (hml.trans hl.1.symm) hown (hts (.methodLink RX0 85 Lib.Math.abs.name) (List.mem_of_getElem? (i := 4) rfl)) (hts (.static Lib.Math.abs.name) (List.mem_of_getElem? (i := 5) rfl)) (hts (.initialized "java/lang/Math") (List.mem_of_getElem? (i := 6) rfl)) (hts (.code Lib.Math.abs.name Lib.Math.abs.code 1 (some .int)) (List.mem_of_getElem? (i := 7) rfl)) (Nat.le_of_ble_eq_true rfl) (Nat.le_of_ble_eq_true rfl) (Nat.zero_le _) (Nat.zero_le _) dX0_canHear_51 (nv_cv (nv_abs (x := S 2 (o)) (y := S 2 (q)) (by omega) (by omega)) ?_)
        have f15 := dist_le (S 2 (o)) (S 2 (q))
        refine nv_icmp_le (tgt := 61) hx hb (by omega) (by omega) dX0_canHear_54 (by decide) (fun c16 => ?_) (fun c16 => ?_)
        · refine lv_iconst (v := nI (0)) hx hb dX0_canHear_61 (by decide) ?_
          refine nv_cv (show nI (0) = bI (canHear S q o) from nv_f (by first | (simp [canHear, c1, c3, c11, c16]; done) | (simp [canHear, c1, c3, c11, c16] <;> omega) | omega)) ?_
          exact ro_zret hx hb hr hlocks dX0_canHear_62
        · refine lv_iconst (v := nI (1)) hx hb dX0_canHear_57 (by decide) ?_
          refine lv_goto (tgt := 62) hx hb dX0_canHear_58 (by decide) ?_
          refine nv_cv (show nI (1) = bI (canHear S q o) from nv_t (by first | (simp [canHear, c1, c3, c11, c16]; done) | (simp [canHear, c1, c3, c11, c16] <;> omega) | omega)) ?_
          exact ro_zret hx hb hr hlocks dX0_canHear_62
      · refine lv_iconst (v := nI (0)) hx hb dX0_canHear_30 (by decide) ?_
        refine nv_cv (show nI (0) = bI (canHear S q o) from nv_f (by first | (simp [canHear, c1, c3, c11]; done) | (simp [canHear, c1, c3, c11] <;> omega) | omega)) ?_
        exact ro_zret hx hb hr hlocks dX0_canHear_31

set_option maxHeartbeats 4000000 in
set_option maxRecDepth 100000 in
/-- X0_barsHearing -/
theorem c_X0_barsHearing (l : Launch) (D : va_G) (ci : Nat → ClassId) (G : Nat → Prop) (ka : Nat) (a : Nat → Nat) (S : OS) (w r nb : Nat → Int32) (q o : Nat) (hWF : WF S) (h_q : q < 8) (h_o : o < 8) : Met l yX0_barsHearing wsX0_barsHearing ({ frames := 3, cells := 0, slots := 0, locals := 67 } : Room) (va_Pc [.ref (a 0), .int (nI q), .int (nI o)] (ro_B D (tyL ci) (wO (ci 0) a S w r nb) (en D (ci 0) G ka))) (ro_Q (some (.int (nI (bHear S q o))))) 0 0 (fun _ => False) := by
  refine ro_Met (cc := cX0_barsHearing) (maxL := 3) (ret := (some .int)) [(0, .ref (a 0)), (1, .int (nI q)), (2, .int (nI o))] (by decide) rfl (Nat.le_of_ble_eq_true rfl) rfl ?_
  intro p e s m below meth c hx hb hml hr hlocks hts hown hP hK hs ls hl
  have hown : s.vm.findClass RX0 = some m.cls := hown
  have hE := hE_en D (ci 0) G ka
  have f_n := hWF.n
  refine lv_aload_n hx hb dX0_barsHearing_0 rfl (lv_at hl 0 rfl) ?_
  refine lv_iload_n hx hb dX0_barsHearing_1 rfl (lv_at hl 1 rfl) ?_
  refine lv_iload_n hx hb dX0_barsHearing_2 rfl (lv_at hl 2 rfl) ?_
  refine ro_V (n := 2) (As := [.int (nI q), .int (nI o)]) (rest := []) ⟨hx, hb, hml, hown, hts⟩ (c_X0_canHear l D ci G ka a S w r nb (q) (o) hWF (by omega) (by omega)) gX0_barsHearing_X0_canHear rfl ⟨rfl, rfl⟩ (by decide +kernel) rfl ⟨Nat.le_of_ble_eq_true rfl, Nat.le_of_ble_eq_true rfl⟩ hE hs hK hP (ci := 0) (q0 := 0) rfl rfl hl.1 rfl (Nat.le_of_ble_eq_true rfl) dX0_barsHearing_3 ⟨Nat.zero_le _, Nat.zero_le _⟩ ?_
  refine nv_ifeq_b (tgt := 17) hx hb dX0_barsHearing_6 (by decide) (fun c1 => ?_) (fun c1 => ?_)
  · refine lv_iconst (v := nI (0)) hx hb dX0_barsHearing_17 (by decide) ?_
    refine nv_cv (show nI (0) = nI (bHear S q o) from nv_e (by first | (simp [bHear, c1]; done) | (simp [bHear, c1] <;> omega) | omega)) ?_
    exact ro_iret hx hb hr hlocks dX0_barsHearing_18
  · refine lv_aload_n hx hb dX0_barsHearing_9 rfl (lv_at hl 0 rfl) ?_
    refine lv_iload_n hx hb dX0_barsHearing_10 rfl (lv_at hl 2 rfl) ?_
    refine ro_V (n := 1) (As := [.int (nI o)]) (rest := []) ⟨hx, hb, hml, hown, hts⟩ (c_X0_barsPlayed l D ci G ka a S w r nb (o) hWF (by omega)) gX0_barsHearing_X0_barsPlayed rfl ⟨rfl, rfl⟩ (by decide +kernel) rfl ⟨Nat.le_of_ble_eq_true rfl, Nat.le_of_ble_eq_true rfl⟩ hE hs hK hP (ci := 0) (q0 := 0) rfl rfl hl.1 rfl (Nat.le_of_ble_eq_true rfl) dX0_barsHearing_11 ⟨Nat.zero_le _, Nat.zero_le _⟩ ?_
    have f2 := bPlay_lt S ((o))
    refine lv_goto (tgt := 18) hx hb dX0_barsHearing_14 (by decide) ?_
    refine nv_cv (show nI (bPlay S (o)) = nI (bHear S q o) from nv_e (by first | (simp [bHear, c1]; done) | (simp [bHear, c1] <;> omega) | omega)) ?_
    exact ro_iret hx hb hr hlocks dX0_barsHearing_18

set_option maxHeartbeats 4000000 in
set_option maxRecDepth 100000 in
/-- X0_reaching -/
theorem c_X0_reaching (l : Launch) (D : va_G) (ci : Nat → ClassId) (G : Nat → Prop) (ka : Nat) (a : Nat → Nat) (S : OS) (w r nb : Nat → Int32) (q : Nat) (hWF : WF S) (h_q : q < 8) : Met l yX0_reaching wsX0_reaching ({ frames := 2, cells := 0, slots := 0, locals := 62 } : Room) (va_Pc [.ref (a 0), .int (nI q)] (ro_B D (tyL ci) (wO (ci 0) a S w r nb) (en D (ci 0) G ka))) (ro_Q (some (.int (nI (reachS S q))))) 0 0 (fun _ => False) := by
  refine ro_Met (cc := cX0_reaching) (maxL := 4) (ret := (some .int)) [(0, .ref (a 0)), (1, .int (nI q))] (by decide) rfl (Nat.le_of_ble_eq_true rfl) rfl ?_
  intro p e s m below meth c hx hb hml hr hlocks hts hown hP hK hs ls hl
  have hown : s.vm.findClass RX0 = some m.cls := hown
  have hinX0 : ∀ w ∈ wsX00, w ∈ wsX0_reaching := by decide +kernel
  have hE := hE_en D (ci 0) G ka
  have f_n := hWF.n
  refine lv_iconst (v := nI (0)) hx hb dX0_reaching_0 (by decide) ?_
  refine lv_istore_n (lv' := [(2, .int (nI 0)), (0, .ref (a 0)), (1, .int (nI q))]) hx hb dX0_reaching_1 rfl hl (by decide) rfl (fun ls hl => ?_)
  refine lv_iconst (v := nI (0)) hx hb dX0_reaching_2 (by decide) ?_
  refine lv_istore_n (lv' := [(3, .int (nI 0)), (2, .int (nI 0)), (0, .ref (a 0)), (1, .int (nI q))]) hx hb dX0_reaching_3 rfl hl (by decide) rfl (fun ls hl => ?_)
  have L4 : ∀ (k4 : Nat) (i : Nat), S 7 0 - i < k4 → (i ≤ S 7 0) → ∀ (x2 x3 : Int32), x2 = nI (setTo (fun o => canHear S q o) (i)) → x3 = nI (i) → ∀ ls : Array Slot, lv_has ls 4 [(2, .int (x2)), (3, .int (x3)), (0, .ref (a 0)), (1, .int (nI q))] → W p l e (headSpec wsX0_reaching ({ frames := 2, cells := 0, slots := 0, locals := 62 } : Room)).room s m ([.ref (a 0), .int (nI q)] : List Value).toArray below meth c s.heap [] 0 0 (MQ below (ro_Q (some (.int (nI (reachS S q))))) ([.ref (a 0), .int (nI q)] : List Value).toArray s 0 0 (fun _ => False)) (F0 m 4 ls []) := by
    intro k4
    induction k4 with
    | zero => intro i h0; exact absurd h0 (Nat.not_lt_zero _)
    | succ k4 ih4 =>
      intro i hk4 h_i x2 x3 e2 e3 ls hl
      subst e2
      subst e3
      refine lv_iload_n hx hb dX0_reaching_4 rfl (lv_at hl 1 rfl) ?_
      refine lv_aload_n hx hb dX0_reaching_5 rfl (lv_at hl 2 rfl) ?_
      refine va_get (D := D) (ci := 0) (v := .int (nI (S 7 0))) (C := RX0) (T := TX0) (N := 13) hx hb hts hinX0 hown hK hP 0 rfl rfl 7 (by decide) (hts (.fieldLink RX0 33 "OneShort$Orchestra" "size" "I") (List.mem_of_getElem? (i := 1) rfl)) (fun _ h9 => h9) rfl dX0_reaching_6 ?_
      refine nv_icmp_ge (tgt := 33) hx hb (by omega) (by omega) dX0_reaching_9 (by decide) (fun c1 => ?_) (fun c1 => ?_)
      · refine lv_iload_n hx hb dX0_reaching_33 rfl (lv_at hl 0 rfl) ?_
        refine nv_cv (show nI (setTo (fun o => canHear S q o) (i)) = nI (reachS S q) from nv_e (by rw [reachS, show S 7 0 = i by omega])) ?_
        exact ro_iret hx hb hr hlocks dX0_reaching_34
      · refine lv_aload_n hx hb dX0_reaching_12 rfl (lv_at hl 2 rfl) ?_
        refine lv_iload_n hx hb dX0_reaching_13 rfl (lv_at hl 3 rfl) ?_
        refine lv_iload_n hx hb dX0_reaching_14 rfl (lv_at hl 1 rfl) ?_
        refine ro_V (n := 2) (As := [.int (nI q), .int (nI i)]) (rest := []) ⟨hx, hb, hml, hown, hts⟩ (c_X0_canHear l D ci G ka a S w r nb (q) (i) hWF (by omega) (by omega)) gX0_reaching_X0_canHear rfl ⟨rfl, rfl⟩ (by decide +kernel) rfl ⟨Nat.le_of_ble_eq_true rfl, Nat.le_of_ble_eq_true rfl⟩ hE hs hK hP (ci := 0) (q0 := 0) rfl rfl hl.1 rfl (Nat.le_of_ble_eq_true rfl) dX0_reaching_15 ⟨Nat.zero_le _, Nat.zero_le _⟩ ?_
        refine nv_ifeq_b (tgt := 27) hx hb dX0_reaching_18 (by decide) (fun c2 => ?_) (fun c2 => ?_)
        · refine nv_iinc1 (lv' := [(3, .int (nI (i + 1))), (2, .int (nI (setTo (fun o => canHear S q o) (i)))), (0, .ref (a 0)), (1, .int (nI q))]) hx hb dX0_reaching_27 hl (k := 1) rfl (by decide) rfl (fun ls hl => ?_)
          refine lv_goto (tgt := 4) hx hb dX0_reaching_30 (by decide) ?_
          exact ih4 (i + 1) (by omega) (by omega) (nI (setTo (fun o => canHear S q o) (i))) (nI (i + 1)) (nv_e (by first | exact setTo_t c2 | exact setTo_f c2)) rfl ls (lv_sub hl [1, 0, 2, 3] rfl)
        · refine lv_iload_n hx hb dX0_reaching_21 rfl (lv_at hl 0 rfl) ?_
          refine lv_iconst (v := nI (1)) hx hb dX0_reaching_22 (by decide) ?_
          refine lv_iload_n hx hb dX0_reaching_23 rfl (lv_at hl 1 rfl) ?_
          refine nv_ishl hx hb (by omega) dX0_reaching_24 ?_
          refine nv_ior hx hb dX0_reaching_25 ?_
          refine lv_istore_n (lv' := [(2, .int (nI ((setTo (fun o => canHear S q o) (i) ||| (1 * 2 ^ (i)))))), (3, .int (nI i)), (0, .ref (a 0)), (1, .int (nI q))]) hx hb dX0_reaching_26 rfl hl (by decide) rfl (fun ls hl => ?_)
          refine nv_iinc1 (lv' := [(3, .int (nI (i + 1))), (2, .int (nI ((setTo (fun o => canHear S q o) (i) ||| (1 * 2 ^ (i)))))), (0, .ref (a 0)), (1, .int (nI q))]) hx hb dX0_reaching_27 hl (k := 1) rfl (by decide) rfl (fun ls hl => ?_)
          refine lv_goto (tgt := 4) hx hb dX0_reaching_30 (by decide) ?_
          exact ih4 (i + 1) (by omega) (by omega) (nI ((setTo (fun o => canHear S q o) (i) ||| (1 * 2 ^ (i))))) (nI (i + 1)) (nv_e (by first | exact setTo_t c2 | exact setTo_f c2)) rfl ls (lv_sub hl [1, 0, 2, 3] rfl)
  exact L4 _ (0) (Nat.lt_succ_self _) (by omega) (nI (0)) (nI (0)) rfl rfl ls (lv_sub hl [1, 0, 2, 3] rfl)

set_option maxHeartbeats 4000000 in
set_option maxRecDepth 100000 in
/-- X0_allNerve -/
theorem c_X0_allNerve (l : Launch) (D : va_G) (ci : Nat → ClassId) (G : Nat → Prop) (ka : Nat) (a : Nat → Nat) (S : OS) (w r nb : Nat → Int32)  (hWF : WF S) : Met l yX0_allNerve wsX0_allNerve ({ frames := 0, cells := 0, slots := 0, locals := 0 } : Room) (va_Pc [.ref (a 0)] (ro_B D (tyL ci) (wO (ci 0) a S w r nb) (en D (ci 0) G ka))) (ro_Q (some (.int (nI (sumTo (fun q => S 5 q) (S 7 0)))))) 0 0 (fun _ => False) := by
  refine ro_Met (cc := cX0_allNerve) (maxL := 3) (ret := (some .int)) [(0, .ref (a 0))] (by decide) rfl (Nat.le_of_ble_eq_true rfl) rfl ?_
  intro p e s m below meth c hx hb hml hr hlocks hts hown hP hK hs ls hl
  have hown : s.vm.findClass RX0 = some m.cls := hown
  have hinX0 : ∀ w ∈ wsX00, w ∈ wsX0_allNerve := by decide +kernel
  have hE := hE_en D (ci 0) G ka
  have f_n := hWF.n
  refine lv_iconst (v := nI (0)) hx hb dX0_allNerve_0 (by decide) ?_
  refine lv_istore_n (lv' := [(1, .int (nI 0)), (0, .ref (a 0))]) hx hb dX0_allNerve_1 rfl hl (by decide) rfl (fun ls hl => ?_)
  refine lv_iconst (v := nI (0)) hx hb dX0_allNerve_2 (by decide) ?_
  refine lv_istore_n (lv' := [(2, .int (nI 0)), (1, .int (nI 0)), (0, .ref (a 0))]) hx hb dX0_allNerve_3 rfl hl (by decide) rfl (fun ls hl => ?_)
  have L4 : ∀ (k4 : Nat) (i : Nat), S 7 0 - i < k4 → (i ≤ S 7 0) → ∀ (x1 x2 : Int32), x1 = nI (sumTo (fun q => S 5 q) (i)) → x2 = nI (i) → ∀ ls : Array Slot, lv_has ls 3 [(1, .int (x1)), (2, .int (x2)), (0, .ref (a 0))] → W p l e (headSpec wsX0_allNerve ({ frames := 0, cells := 0, slots := 0, locals := 0 } : Room)).room s m ([.ref (a 0)] : List Value).toArray below meth c s.heap [] 0 0 (MQ below (ro_Q (some (.int (nI (sumTo (fun q => S 5 q) (S 7 0)))))) ([.ref (a 0)] : List Value).toArray s 0 0 (fun _ => False)) (F0 m 4 ls []) := by
    intro k4
    induction k4 with
    | zero => intro i h0; exact absurd h0 (Nat.not_lt_zero _)
    | succ k4 ih4 =>
      intro i hk4 h_i x1 x2 e1 e2 ls hl
      subst e1
      subst e2
      refine lv_iload_n hx hb dX0_allNerve_4 rfl (lv_at hl 1 rfl) ?_
      refine lv_aload_n hx hb dX0_allNerve_5 rfl (lv_at hl 2 rfl) ?_
      refine va_get (D := D) (ci := 0) (v := .int (nI (S 7 0))) (C := RX0) (T := TX0) (N := 13) hx hb hts hinX0 hown hK hP 0 rfl rfl 7 (by decide) (hts (.fieldLink RX0 33 "OneShort$Orchestra" "size" "I") (List.mem_of_getElem? (i := 1) rfl)) (fun _ h9 => h9) rfl dX0_allNerve_6 ?_
      refine nv_icmp_ge (tgt := 27) hx hb (by omega) (by omega) dX0_allNerve_9 (by decide) (fun c1 => ?_) (fun c1 => ?_)
      · refine lv_iload_n hx hb dX0_allNerve_27 rfl (lv_at hl 0 rfl) ?_
        refine nv_cv (show nI (sumTo (fun q => S 5 q) (i)) = nI (sumTo (fun q => S 5 q) (S 7 0)) from nv_e (by rw [show S 7 0 = i by omega])) ?_
        exact ro_iret hx hb hr hlocks dX0_allNerve_28
      · refine lv_iload_n hx hb dX0_allNerve_12 rfl (lv_at hl 0 rfl) ?_
        refine lv_aload_n hx hb dX0_allNerve_13 rfl (lv_at hl 2 rfl) ?_
        refine va_get (D := D) (ci := 0) (v := .ref (a 6)) (C := RX0) (T := TX0) (N := 13) hx hb hts hinX0 hown hK hP 0 rfl rfl 5 (by decide) (hts (.fieldLink RX0 27 "OneShort$Orchestra" "nerve" "[I") (List.mem_of_getElem? (i := 2) rfl)) (fun _ h9 => h9) rfl dX0_allNerve_14 ?_
        refine lv_iload_n hx hb dX0_allNerve_17 rfl (lv_at hl 1 rfl) ?_
        have f2 := hWF.f5 (i)
        refine nv_iald (v := nI (S 5 (i))) hx hb hK hP 6 0 rfl rfl (by omega) (by decide) rfl dX0_allNerve_18 ?_
        refine nv_iadd hx hb dX0_allNerve_19 ?_
        refine lv_istore_n (lv' := [(1, .int (nI ((sumTo (fun q => S 5 q) (i) + S 5 (i))))), (2, .int (nI i)), (0, .ref (a 0))]) hx hb dX0_allNerve_20 rfl hl (by decide) rfl (fun ls hl => ?_)
        refine nv_iinc1 (lv' := [(2, .int (nI (i + 1))), (1, .int (nI ((sumTo (fun q => S 5 q) (i) + S 5 (i))))), (0, .ref (a 0))]) hx hb dX0_allNerve_21 hl (k := 1) rfl (by decide) rfl (fun ls hl => ?_)
        refine lv_goto (tgt := 4) hx hb dX0_allNerve_24 (by decide) ?_
        exact ih4 (i + 1) (by omega) (by omega) (nI ((sumTo (fun q => S 5 q) (i) + S 5 (i)))) (nI (i + 1)) (nv_e (by rfl)) rfl ls (lv_sub hl [1, 0, 2] rfl)
  exact L4 _ (0) (Nat.lt_succ_self _) (by omega) (nI (0)) (nI (0)) rfl rfl ls (lv_sub hl [1, 0, 2] rfl)

set_option maxHeartbeats 4000000 in
set_option maxRecDepth 100000 in
/-- X0_allLoud -/
theorem c_X0_allLoud (l : Launch) (D : va_G) (ci : Nat → ClassId) (G : Nat → Prop) (ka : Nat) (a : Nat → Nat) (S : OS) (w r nb : Nat → Int32)  (hWF : WF S) : Met l yX0_allLoud wsX0_allLoud ({ frames := 0, cells := 0, slots := 0, locals := 0 } : Room) (va_Pc [.ref (a 0)] (ro_B D (tyL ci) (wO (ci 0) a S w r nb) (en D (ci 0) G ka))) (ro_Q (some (.int (nI (sumTo (fun q => S 4 q) (S 7 0)))))) 0 0 (fun _ => False) := by
  refine ro_Met (cc := cX0_allLoud) (maxL := 3) (ret := (some .int)) [(0, .ref (a 0))] (by decide) rfl (Nat.le_of_ble_eq_true rfl) rfl ?_
  intro p e s m below meth c hx hb hml hr hlocks hts hown hP hK hs ls hl
  have hown : s.vm.findClass RX0 = some m.cls := hown
  have hinX0 : ∀ w ∈ wsX00, w ∈ wsX0_allLoud := by decide +kernel
  have hE := hE_en D (ci 0) G ka
  have f_n := hWF.n
  refine lv_iconst (v := nI (0)) hx hb dX0_allLoud_0 (by decide) ?_
  refine lv_istore_n (lv' := [(1, .int (nI 0)), (0, .ref (a 0))]) hx hb dX0_allLoud_1 rfl hl (by decide) rfl (fun ls hl => ?_)
  refine lv_iconst (v := nI (0)) hx hb dX0_allLoud_2 (by decide) ?_
  refine lv_istore_n (lv' := [(2, .int (nI 0)), (1, .int (nI 0)), (0, .ref (a 0))]) hx hb dX0_allLoud_3 rfl hl (by decide) rfl (fun ls hl => ?_)
  have L4 : ∀ (k4 : Nat) (i : Nat), S 7 0 - i < k4 → (i ≤ S 7 0) → ∀ (x1 x2 : Int32), x1 = nI (sumTo (fun q => S 4 q) (i)) → x2 = nI (i) → ∀ ls : Array Slot, lv_has ls 3 [(1, .int (x1)), (2, .int (x2)), (0, .ref (a 0))] → W p l e (headSpec wsX0_allLoud ({ frames := 0, cells := 0, slots := 0, locals := 0 } : Room)).room s m ([.ref (a 0)] : List Value).toArray below meth c s.heap [] 0 0 (MQ below (ro_Q (some (.int (nI (sumTo (fun q => S 4 q) (S 7 0)))))) ([.ref (a 0)] : List Value).toArray s 0 0 (fun _ => False)) (F0 m 4 ls []) := by
    intro k4
    induction k4 with
    | zero => intro i h0; exact absurd h0 (Nat.not_lt_zero _)
    | succ k4 ih4 =>
      intro i hk4 h_i x1 x2 e1 e2 ls hl
      subst e1
      subst e2
      refine lv_iload_n hx hb dX0_allLoud_4 rfl (lv_at hl 1 rfl) ?_
      refine lv_aload_n hx hb dX0_allLoud_5 rfl (lv_at hl 2 rfl) ?_
      refine va_get (D := D) (ci := 0) (v := .int (nI (S 7 0))) (C := RX0) (T := TX0) (N := 13) hx hb hts hinX0 hown hK hP 0 rfl rfl 7 (by decide) (hts (.fieldLink RX0 33 "OneShort$Orchestra" "size" "I") (List.mem_of_getElem? (i := 1) rfl)) (fun _ h9 => h9) rfl dX0_allLoud_6 ?_
      refine nv_icmp_ge (tgt := 27) hx hb (by omega) (by omega) dX0_allLoud_9 (by decide) (fun c1 => ?_) (fun c1 => ?_)
      · refine lv_iload_n hx hb dX0_allLoud_27 rfl (lv_at hl 0 rfl) ?_
        refine nv_cv (show nI (sumTo (fun q => S 4 q) (i)) = nI (sumTo (fun q => S 4 q) (S 7 0)) from nv_e (by rw [show S 7 0 = i by omega])) ?_
        exact ro_iret hx hb hr hlocks dX0_allLoud_28
      · refine lv_iload_n hx hb dX0_allLoud_12 rfl (lv_at hl 0 rfl) ?_
        refine lv_aload_n hx hb dX0_allLoud_13 rfl (lv_at hl 2 rfl) ?_
        refine va_get (D := D) (ci := 0) (v := .ref (a 5)) (C := RX0) (T := TX0) (N := 13) hx hb hts hinX0 hown hK hP 0 rfl rfl 4 (by decide) (hts (.fieldLink RX0 24 "OneShort$Orchestra" "loud" "[I") (List.mem_of_getElem? (i := 2) rfl)) (fun _ h9 => h9) rfl dX0_allLoud_14 ?_
        refine lv_iload_n hx hb dX0_allLoud_17 rfl (lv_at hl 1 rfl) ?_
        have f2 := hWF.f4 (i)
        refine nv_iald (v := nI (S 4 (i))) hx hb hK hP 5 0 rfl rfl (by omega) (by decide) rfl dX0_allLoud_18 ?_
        refine nv_iadd hx hb dX0_allLoud_19 ?_
        refine lv_istore_n (lv' := [(1, .int (nI ((sumTo (fun q => S 4 q) (i) + S 4 (i))))), (2, .int (nI i)), (0, .ref (a 0))]) hx hb dX0_allLoud_20 rfl hl (by decide) rfl (fun ls hl => ?_)
        refine nv_iinc1 (lv' := [(2, .int (nI (i + 1))), (1, .int (nI ((sumTo (fun q => S 4 q) (i) + S 4 (i))))), (0, .ref (a 0))]) hx hb dX0_allLoud_21 hl (k := 1) rfl (by decide) rfl (fun ls hl => ?_)
        refine lv_goto (tgt := 4) hx hb dX0_allLoud_24 (by decide) ?_
        exact ih4 (i + 1) (by omega) (by omega) (nI ((sumTo (fun q => S 4 q) (i) + S 4 (i)))) (nI (i + 1)) (nv_e (by rfl)) rfl ls (lv_sub hl [1, 0, 2] rfl)
  exact L4 _ (0) (Nat.lt_succ_self _) (by omega) (nI (0)) (nI (0)) rfl rfl ls (lv_sub hl [1, 0, 2] rfl)

set_option maxHeartbeats 4000000 in
set_option maxRecDepth 100000 in
/-- X0_unnerved -/
theorem c_X0_unnerved (l : Launch) (D : va_G) (ci : Nat → ClassId) (G : Nat → Prop) (ka : Nat) (a : Nat → Nat) (S : OS) (w r nb : Nat → Int32)  (hWF : WF S) : Met l yX0_unnerved wsX0_unnerved ({ frames := 0, cells := 0, slots := 0, locals := 0 } : Room) (va_Pc [.ref (a 0)] (ro_B D (tyL ci) (wO (ci 0) a S w r nb) (en D (ci 0) G ka))) (ro_Q (some (.int (nI (unner S))))) 0 0 (fun _ => False) := by
  refine ro_Met (cc := cX0_unnerved) (maxL := 3) (ret := (some .int)) [(0, .ref (a 0))] (by decide) rfl (Nat.le_of_ble_eq_true rfl) rfl ?_
  intro p e s m below meth c hx hb hml hr hlocks hts hown hP hK hs ls hl
  have hown : s.vm.findClass RX0 = some m.cls := hown
  have hinX0 : ∀ w ∈ wsX00, w ∈ wsX0_unnerved := by decide +kernel
  have hE := hE_en D (ci 0) G ka
  have f_n := hWF.n
  refine lv_iconst (v := nI (0)) hx hb dX0_unnerved_0 (by decide) ?_
  refine lv_istore_n (lv' := [(1, .int (nI 0)), (0, .ref (a 0))]) hx hb dX0_unnerved_1 rfl hl (by decide) rfl (fun ls hl => ?_)
  refine lv_iconst (v := nI (0)) hx hb dX0_unnerved_2 (by decide) ?_
  refine lv_istore_n (lv' := [(2, .int (nI 0)), (1, .int (nI 0)), (0, .ref (a 0))]) hx hb dX0_unnerved_3 rfl hl (by decide) rfl (fun ls hl => ?_)
  have L4 : ∀ (k4 : Nat) (i : Nat), S 7 0 - i < k4 → (i ≤ S 7 0) → ∀ (x1 x2 : Int32), x1 = nI (setTo (fun q => S 5 q == 0) (i)) → x2 = nI (i) → ∀ ls : Array Slot, lv_has ls 3 [(1, .int (x1)), (2, .int (x2)), (0, .ref (a 0))] → W p l e (headSpec wsX0_unnerved ({ frames := 0, cells := 0, slots := 0, locals := 0 } : Room)).room s m ([.ref (a 0)] : List Value).toArray below meth c s.heap [] 0 0 (MQ below (ro_Q (some (.int (nI (unner S))))) ([.ref (a 0)] : List Value).toArray s 0 0 (fun _ => False)) (F0 m 4 ls []) := by
    intro k4
    induction k4 with
    | zero => intro i h0; exact absurd h0 (Nat.not_lt_zero _)
    | succ k4 ih4 =>
      intro i hk4 h_i x1 x2 e1 e2 ls hl
      subst e1
      subst e2
      refine lv_iload_n hx hb dX0_unnerved_4 rfl (lv_at hl 1 rfl) ?_
      refine lv_aload_n hx hb dX0_unnerved_5 rfl (lv_at hl 2 rfl) ?_
      refine va_get (D := D) (ci := 0) (v := .int (nI (S 7 0))) (C := RX0) (T := TX0) (N := 13) hx hb hts hinX0 hown hK hP 0 rfl rfl 7 (by decide) (hts (.fieldLink RX0 33 "OneShort$Orchestra" "size" "I") (List.mem_of_getElem? (i := 1) rfl)) (fun _ h9 => h9) rfl dX0_unnerved_6 ?_
      refine nv_icmp_ge (tgt := 33) hx hb (by omega) (by omega) dX0_unnerved_9 (by decide) (fun c1 => ?_) (fun c1 => ?_)
      · refine lv_iload_n hx hb dX0_unnerved_33 rfl (lv_at hl 0 rfl) ?_
        refine nv_cv (show nI (setTo (fun q => S 5 q == 0) (i)) = nI (unner S) from nv_e (by rw [unner, show S 7 0 = i by omega])) ?_
        exact ro_iret hx hb hr hlocks dX0_unnerved_34
      · refine lv_aload_n hx hb dX0_unnerved_12 rfl (lv_at hl 2 rfl) ?_
        refine va_get (D := D) (ci := 0) (v := .ref (a 6)) (C := RX0) (T := TX0) (N := 13) hx hb hts hinX0 hown hK hP 0 rfl rfl 5 (by decide) (hts (.fieldLink RX0 27 "OneShort$Orchestra" "nerve" "[I") (List.mem_of_getElem? (i := 2) rfl)) (fun _ h9 => h9) rfl dX0_unnerved_13 ?_
        refine lv_iload_n hx hb dX0_unnerved_16 rfl (lv_at hl 1 rfl) ?_
        have f2 := hWF.f5 (i)
        refine nv_iald (v := nI (S 5 (i))) hx hb hK hP 6 0 rfl rfl (by omega) (by decide) rfl dX0_unnerved_17 ?_
        refine nv_ifne (tgt := 27) hx hb (by omega) dX0_unnerved_18 (by decide) (fun c3 => ?_) (fun c3 => ?_)
        · refine nv_iinc1 (lv' := [(2, .int (nI (i + 1))), (1, .int (nI (setTo (fun q => S 5 q == 0) (i)))), (0, .ref (a 0))]) hx hb dX0_unnerved_27 hl (k := 1) rfl (by decide) rfl (fun ls hl => ?_)
          refine lv_goto (tgt := 4) hx hb dX0_unnerved_30 (by decide) ?_
          exact ih4 (i + 1) (by omega) (by omega) (nI (setTo (fun q => S 5 q == 0) (i))) (nI (i + 1)) (nv_e (by first | exact setTo_t (by simp [c3]) | exact setTo_f (by simp [c3]))) rfl ls (lv_sub hl [1, 0, 2] rfl)
        · refine lv_iload_n hx hb dX0_unnerved_21 rfl (lv_at hl 0 rfl) ?_
          refine lv_iconst (v := nI (1)) hx hb dX0_unnerved_22 (by decide) ?_
          refine lv_iload_n hx hb dX0_unnerved_23 rfl (lv_at hl 1 rfl) ?_
          refine nv_ishl hx hb (by omega) dX0_unnerved_24 ?_
          refine nv_ior hx hb dX0_unnerved_25 ?_
          refine lv_istore_n (lv' := [(1, .int (nI ((setTo (fun q => S 5 q == 0) (i) ||| (1 * 2 ^ (i)))))), (2, .int (nI i)), (0, .ref (a 0))]) hx hb dX0_unnerved_26 rfl hl (by decide) rfl (fun ls hl => ?_)
          refine nv_iinc1 (lv' := [(2, .int (nI (i + 1))), (1, .int (nI ((setTo (fun q => S 5 q == 0) (i) ||| (1 * 2 ^ (i)))))), (0, .ref (a 0))]) hx hb dX0_unnerved_27 hl (k := 1) rfl (by decide) rfl (fun ls hl => ?_)
          refine lv_goto (tgt := 4) hx hb dX0_unnerved_30 (by decide) ?_
          exact ih4 (i + 1) (by omega) (by omega) (nI ((setTo (fun q => S 5 q == 0) (i) ||| (1 * 2 ^ (i))))) (nI (i + 1)) (nv_e (by first | exact setTo_t (by simp [c3]) | exact setTo_f (by simp [c3]))) rfl ls (lv_sub hl [1, 0, 2] rfl)
  exact L4 _ (0) (Nat.lt_succ_self _) (by omega) (nI (0)) (nI (0)) rfl rfl ls (lv_sub hl [1, 0, 2] rfl)

set_option maxHeartbeats 4000000 in
set_option maxRecDepth 100000 in
/-- X0_spotsTaken -/
theorem c_X0_spotsTaken (l : Launch) (D : va_G) (ci : Nat → ClassId) (G : Nat → Prop) (ka : Nat) (a : Nat → Nat) (S : OS) (w r nb : Nat → Int32)  (hWF : WF S) : Met l yX0_spotsTaken wsX0_spotsTaken ({ frames := 0, cells := 0, slots := 0, locals := 0 } : Room) (va_Pc [.ref (a 0)] (ro_B D (tyL ci) (wO (ci 0) a S w r nb) (en D (ci 0) G ka))) (ro_Q (some (.int (nI (spotsT S))))) 0 0 (fun _ => False) := by
  refine ro_Met (cc := cX0_spotsTaken) (maxL := 3) (ret := (some .int)) [(0, .ref (a 0))] (by decide) rfl (Nat.le_of_ble_eq_true rfl) rfl ?_
  intro p e s m below meth c hx hb hml hr hlocks hts hown hP hK hs ls hl
  have hown : s.vm.findClass RX0 = some m.cls := hown
  have hinX0 : ∀ w ∈ wsX00, w ∈ wsX0_spotsTaken := by decide +kernel
  have hE := hE_en D (ci 0) G ka
  have f_n := hWF.n
  refine lv_iconst (v := nI (0)) hx hb dX0_spotsTaken_0 (by decide) ?_
  refine lv_istore_n (lv' := [(1, .int (nI 0)), (0, .ref (a 0))]) hx hb dX0_spotsTaken_1 rfl hl (by decide) rfl (fun ls hl => ?_)
  refine lv_iconst (v := nI (0)) hx hb dX0_spotsTaken_2 (by decide) ?_
  refine lv_istore_n (lv' := [(2, .int (nI 0)), (1, .int (nI 0)), (0, .ref (a 0))]) hx hb dX0_spotsTaken_3 rfl hl (by decide) rfl (fun ls hl => ?_)
  have L4 : ∀ (k4 : Nat) (i : Nat), 10 - i < k4 → (i ≤ 10) → ∀ (x1 x2 : Int32), x1 = nI (cntTo (fun k => decide (0 < S 6 k)) (i)) → x2 = nI (i) → ∀ ls : Array Slot, lv_has ls 3 [(1, .int (x1)), (2, .int (x2)), (0, .ref (a 0))] → W p l e (headSpec wsX0_spotsTaken ({ frames := 0, cells := 0, slots := 0, locals := 0 } : Room)).room s m ([.ref (a 0)] : List Value).toArray below meth c s.heap [] 0 0 (MQ below (ro_Q (some (.int (nI (spotsT S))))) ([.ref (a 0)] : List Value).toArray s 0 0 (fun _ => False)) (F0 m 4 ls []) := by
    intro k4
    induction k4 with
    | zero => intro i h0; exact absurd h0 (Nat.not_lt_zero _)
    | succ k4 ih4 =>
      intro i hk4 h_i x1 x2 e1 e2 ls hl
      subst e1
      subst e2
      refine lv_iload_n hx hb dX0_spotsTaken_4 rfl (lv_at hl 1 rfl) ?_
      refine lv_bipush (v := nI (10)) hx hb dX0_spotsTaken_5 (by decide) ?_
      refine nv_icmp_ge (tgt := 28) hx hb (by omega) (by omega) dX0_spotsTaken_7 (by decide) (fun c1 => ?_) (fun c1 => ?_)
      · refine lv_iload_n hx hb dX0_spotsTaken_28 rfl (lv_at hl 0 rfl) ?_
        refine nv_cv (show nI (cntTo (fun k => decide (0 < S 6 k)) (i)) = nI (spotsT S) from nv_e (by rw [spotsT, show i = 10 by omega])) ?_
        exact ro_iret hx hb hr hlocks dX0_spotsTaken_29
      · refine lv_aload_n hx hb dX0_spotsTaken_10 rfl (lv_at hl 2 rfl) ?_
        refine va_get (D := D) (ci := 0) (v := .ref (a 7)) (C := RX0) (T := TX0) (N := 13) hx hb hts hinX0 hown hK hP 0 rfl rfl 6 (by decide) (hts (.fieldLink RX0 30 "OneShort$Orchestra" "spots" "[I") (List.mem_of_getElem? (i := 1) rfl)) (fun _ h9 => h9) rfl dX0_spotsTaken_11 ?_
        refine lv_iload_n hx hb dX0_spotsTaken_14 rfl (lv_at hl 1 rfl) ?_
        have f2 := hWF.f6 (i)
        refine nv_iald (v := nI (S 6 (i)) - nI (1)) hx hb hK hP 7 0 rfl rfl (by omega) (by decide) rfl dX0_spotsTaken_15 ?_
        refine lv_if_lt (tgt := 22) hx hb dX0_spotsTaken_16 (by decide) (fun c3 => ?_) (fun c3 => ?_)
        · refine nv_iinc1 (lv' := [(2, .int (nI (i + 1))), (1, .int (nI (cntTo (fun k => decide (0 < S 6 k)) (i)))), (0, .ref (a 0))]) hx hb dX0_spotsTaken_22 hl (k := 1) rfl (by decide) rfl (fun ls hl => ?_)
          refine lv_goto (tgt := 4) hx hb dX0_spotsTaken_25 (by decide) ?_
          exact ih4 (i + 1) (by omega) (by omega) (nI (cntTo (fun k => decide (0 < S 6 k)) (i))) (nI (i + 1)) (nv_e (by first | exact cntTo_t (decide_eq_true (spot_t c3)) | exact cntTo_f (decide_eq_false (spot_f (by omega) c3)))) rfl ls (lv_sub hl [1, 0, 2] rfl)
        · refine nv_iinc1 (lv' := [(1, .int (nI (cntTo (fun k => decide (0 < S 6 k)) (i) + 1))), (2, .int (nI i)), (0, .ref (a 0))]) hx hb dX0_spotsTaken_19 hl (k := 0) rfl (by decide) rfl (fun ls hl => ?_)
          refine nv_iinc1 (lv' := [(2, .int (nI (i + 1))), (1, .int (nI (cntTo (fun k => decide (0 < S 6 k)) (i) + 1))), (0, .ref (a 0))]) hx hb dX0_spotsTaken_22 hl (k := 1) rfl (by decide) rfl (fun ls hl => ?_)
          refine lv_goto (tgt := 4) hx hb dX0_spotsTaken_25 (by decide) ?_
          exact ih4 (i + 1) (by omega) (by omega) (nI (cntTo (fun k => decide (0 < S 6 k)) (i) + 1)) (nI (i + 1)) (nv_e (by first | exact cntTo_t (decide_eq_true (spot_t c3)) | exact cntTo_f (decide_eq_false (spot_f (by omega) c3)))) rfl ls (lv_sub hl [1, 0, 2] rfl)
  exact L4 _ (0) (Nat.lt_succ_self _) (by omega) (nI (0)) (nI (0)) rfl rfl ls (lv_sub hl [1, 0, 2] rfl)

set_option maxHeartbeats 4000000 in
set_option maxRecDepth 100000 in
/-- X0_barsAlone -/
theorem c_X0_barsAlone (l : Launch) (D : va_G) (ci : Nat → ClassId) (G : Nat → Prop) (ka : Nat) (a : Nat → Nat) (S : OS) (w r nb : Nat → Int32) (q : Nat) (hWF : WF S) (h_q : q < 8) : Met l yX0_barsAlone wsX0_barsAlone ({ frames := 4, cells := 0, slots := 0, locals := 89 } : Room) (va_Pc [.ref (a 0), .int (nI q)] (ro_B D (tyL ci) (wO (ci 0) a S w r nb) (en D (ci 0) G ka))) (ro_Q (some (.int (nI (bAlone S q))))) 0 0 (fun _ => False) := by
  refine ro_Met (cc := cX0_barsAlone) (maxL := 4) (ret := (some .int)) [(0, .ref (a 0)), (1, .int (nI q))] (by decide) rfl (Nat.le_of_ble_eq_true rfl) rfl ?_
  intro p e s m below meth c hx hb hml hr hlocks hts hown hP hK hs ls hl
  have hown : s.vm.findClass RX0 = some m.cls := hown
  have hinX0 : ∀ w ∈ wsX00, w ∈ wsX0_barsAlone := by decide +kernel
  have hE := hE_en D (ci 0) G ka
  have f_n := hWF.n
  refine lv_aload_n hx hb dX0_barsAlone_0 rfl (lv_at hl 0 rfl) ?_
  refine lv_iload_n hx hb dX0_barsAlone_1 rfl (lv_at hl 1 rfl) ?_
  refine ro_V (n := 1) (As := [.int (nI q)]) (rest := []) ⟨hx, hb, hml, hown, hts⟩ (c_X0_barsPlayed l D ci G ka a S w r nb (q) hWF (by omega)) gX0_barsAlone_X0_barsPlayed rfl ⟨rfl, rfl⟩ (by decide +kernel) rfl ⟨Nat.le_of_ble_eq_true rfl, Nat.le_of_ble_eq_true rfl⟩ hE hs hK hP (ci := 0) (q0 := 0) rfl rfl hl.1 rfl (Nat.le_of_ble_eq_true rfl) dX0_barsAlone_2 ⟨Nat.zero_le _, Nat.zero_le _⟩ ?_
  have f1 := bPlay_lt S ((q))
  refine lv_istore_n (lv' := [(2, .int (nI (bPlay S (q)))), (0, .ref (a 0)), (1, .int (nI q))]) hx hb dX0_barsAlone_5 rfl hl (by decide) rfl (fun ls hl => ?_)
  refine lv_iconst (v := nI (0)) hx hb dX0_barsAlone_6 (by decide) ?_
  refine lv_istore_n (lv' := [(3, .int (nI 0)), (2, .int (nI (bPlay S (q)))), (0, .ref (a 0)), (1, .int (nI q))]) hx hb dX0_barsAlone_7 rfl hl (by decide) rfl (fun ls hl => ?_)
  have L8 : ∀ (k8 : Nat) (i : Nat), S 7 0 - i < k8 → (i ≤ S 7 0) → ∀ (x2 x3 : Int32), x2 = nI (aloneTo S q (i)) → x3 = nI (i) → ∀ ls : Array Slot, lv_has ls 4 [(2, .int (x2)), (3, .int (x3)), (0, .ref (a 0)), (1, .int (nI q))] → W p l e (headSpec wsX0_barsAlone ({ frames := 4, cells := 0, slots := 0, locals := 89 } : Room)).room s m ([.ref (a 0), .int (nI q)] : List Value).toArray below meth c s.heap [] 0 0 (MQ below (ro_Q (some (.int (nI (bAlone S q))))) ([.ref (a 0), .int (nI q)] : List Value).toArray s 0 0 (fun _ => False)) (F0 m 8 ls []) := by
    intro k8
    induction k8 with
    | zero => intro i h0; exact absurd h0 (Nat.not_lt_zero _)
    | succ k8 ih8 =>
      intro i hk8 h_i x2 x3 e2 e3 ls hl
      subst e2
      subst e3
      refine lv_iload_n hx hb dX0_barsAlone_8 rfl (lv_at hl 1 rfl) ?_
      refine lv_aload_n hx hb dX0_barsAlone_9 rfl (lv_at hl 2 rfl) ?_
      refine va_get (D := D) (ci := 0) (v := .int (nI (S 7 0))) (C := RX0) (T := TX0) (N := 13) hx hb hts hinX0 hown hK hP 0 rfl rfl 7 (by decide) (hts (.fieldLink RX0 33 "OneShort$Orchestra" "size" "I") (List.mem_of_getElem? (i := 1) rfl)) (fun _ h9 => h9) rfl dX0_barsAlone_10 ?_
      refine nv_icmp_ge (tgt := 33) hx hb (by omega) (by omega) dX0_barsAlone_13 (by decide) (fun c2 => ?_) (fun c2 => ?_)
      · refine lv_iload_n hx hb dX0_barsAlone_33 rfl (lv_at hl 0 rfl) ?_
        refine nv_cv (show nI (aloneTo S q (i)) = nI (bAlone S q) from nv_e (by rw [bAlone, show S 7 0 = i by omega])) ?_
        exact ro_iret hx hb hr hlocks dX0_barsAlone_34
      · refine lv_iload_n hx hb dX0_barsAlone_16 rfl (lv_at hl 0 rfl) ?_
        refine lv_aload_n hx hb dX0_barsAlone_17 rfl (lv_at hl 2 rfl) ?_
        refine lv_iload_n hx hb dX0_barsAlone_18 rfl (lv_at hl 3 rfl) ?_
        refine lv_iload_n hx hb dX0_barsAlone_19 rfl (lv_at hl 1 rfl) ?_
        refine ro_V (n := 2) (As := [.int (nI q), .int (nI i)]) (rest := [.int (nI (aloneTo S q (i)))]) ⟨hx, hb, hml, hown, hts⟩ (c_X0_barsHearing l D ci G ka a S w r nb (q) (i) hWF (by omega) (by omega)) gX0_barsAlone_X0_barsHearing rfl ⟨rfl, rfl⟩ (by decide +kernel) rfl ⟨Nat.le_of_ble_eq_true rfl, Nat.le_of_ble_eq_true rfl⟩ hE hs hK hP (ci := 0) (q0 := 0) rfl rfl hl.1 rfl (Nat.le_of_ble_eq_true rfl) dX0_barsAlone_20 ⟨Nat.zero_le _, Nat.zero_le _⟩ ?_
        have f3 := bHear_lt S ((q)) ((i))
        refine lv_iconst (v := -1) hx hb dX0_barsAlone_23 (by decide) ?_
        refine lv_ixor hx hb dX0_barsAlone_24 ?_
        refine lv_iand hx hb dX0_barsAlone_25 ?_
        refine lv_istore_n (lv' := [(2, .int ((nI (aloneTo S q (i)) &&& (nI (bHear S (q) (i)) ^^^ -1)))), (3, .int (nI i)), (0, .ref (a 0)), (1, .int (nI q))]) hx hb dX0_barsAlone_26 rfl hl (by decide) rfl (fun ls hl => ?_)
        refine nv_iinc1 (lv' := [(3, .int (nI (i + 1))), (2, .int ((nI (aloneTo S q (i)) &&& (nI (bHear S (q) (i)) ^^^ -1)))), (0, .ref (a 0)), (1, .int (nI q))]) hx hb dX0_barsAlone_27 hl (k := 1) rfl (by decide) rfl (fun ls hl => ?_)
        refine lv_goto (tgt := 8) hx hb dX0_barsAlone_30 (by decide) ?_
        exact ih8 (i + 1) (by omega) (by omega) ((nI (aloneTo S q (i)) &&& (nI (bHear S (q) (i)) ^^^ -1))) (nI (i + 1)) (by exact alone_s S q i) rfl ls (lv_sub hl [1, 0, 2, 3] rfl)
  exact L8 _ (0) (Nat.lt_succ_self _) (by omega) (nI (bPlay S (q))) (nI (0)) rfl rfl ls (lv_sub hl [1, 0, 2, 3] rfl)

set_option maxHeartbeats 4000000 in
set_option maxRecDepth 100000 in
/-- X0_pairsHearing -/
theorem c_X0_pairsHearing (l : Launch) (D : va_G) (ci : Nat → ClassId) (G : Nat → Prop) (ka : Nat) (a : Nat → Nat) (S : OS) (w r nb : Nat → Int32)  (hWF : WF S) : Met l yX0_pairsHearing wsX0_pairsHearing ({ frames := 3, cells := 0, slots := 0, locals := 67 } : Room) (va_Pc [.ref (a 0)] (ro_B D (tyL ci) (wO (ci 0) a S w r nb) (en D (ci 0) G ka))) (ro_Q (some (.int (nI (links S))))) 0 0 (fun _ => False) := by
  refine ro_Met (cc := cX0_pairsHearing) (maxL := 5) (ret := (some .int)) [(0, .ref (a 0))] (by decide) rfl (Nat.le_of_ble_eq_true rfl) rfl ?_
  intro p e s m below meth c hx hb hml hr hlocks hts hown hP hK hs ls hl
  have hown : s.vm.findClass RX0 = some m.cls := hown
  have hinX0 : ∀ w ∈ wsX00, w ∈ wsX0_pairsHearing := by decide +kernel
  have hE := hE_en D (ci 0) G ka
  have f_n := hWF.n
  refine lv_iconst (v := nI (0)) hx hb dX0_pairsHearing_0 (by decide) ?_
  refine lv_istore_n (lv' := [(1, .int (nI 0)), (0, .ref (a 0))]) hx hb dX0_pairsHearing_1 rfl hl (by decide) rfl (fun ls hl => ?_)
  refine lv_iconst (v := nI (0)) hx hb dX0_pairsHearing_2 (by decide) ?_
  refine lv_istore_n (lv' := [(2, .int (nI 0)), (1, .int (nI 0)), (0, .ref (a 0))]) hx hb dX0_pairsHearing_3 rfl hl (by decide) rfl (fun ls hl => ?_)
  have L4 : ∀ (k4 : Nat) (i : Nat), S 7 0 - i < k4 → (i ≤ S 7 0) → ∀ (x1 x2 : Int32), x1 = nI (sumTo (fun o => linkTo S o (S 7 0)) (i)) → x2 = nI (i) → ∀ ls : Array Slot, lv_has ls 5 [(1, .int (x1)), (2, .int (x2)), (0, .ref (a 0))] → W p l e (headSpec wsX0_pairsHearing ({ frames := 3, cells := 0, slots := 0, locals := 67 } : Room)).room s m ([.ref (a 0)] : List Value).toArray below meth c s.heap [] 0 0 (MQ below (ro_Q (some (.int (nI (links S))))) ([.ref (a 0)] : List Value).toArray s 0 0 (fun _ => False)) (F0 m 4 ls []) := by
    intro k4
    induction k4 with
    | zero => intro i h0; exact absurd h0 (Nat.not_lt_zero _)
    | succ k4 ih4 =>
      intro i hk4 h_i x1 x2 e1 e2 ls hl
      subst e1
      subst e2
      refine lv_iload_n hx hb dX0_pairsHearing_4 rfl (lv_at hl 1 rfl) ?_
      refine lv_aload_n hx hb dX0_pairsHearing_5 rfl (lv_at hl 2 rfl) ?_
      refine va_get (D := D) (ci := 0) (v := .int (nI (S 7 0))) (C := RX0) (T := TX0) (N := 13) hx hb hts hinX0 hown hK hP 0 rfl rfl 7 (by decide) (hts (.fieldLink RX0 33 "OneShort$Orchestra" "size" "I") (List.mem_of_getElem? (i := 1) rfl)) (fun _ h9 => h9) rfl dX0_pairsHearing_6 ?_
      refine nv_icmp_ge (tgt := 67) hx hb (by omega) (by omega) dX0_pairsHearing_9 (by decide) (fun c1 => ?_) (fun c1 => ?_)
      · refine lv_iload_n hx hb dX0_pairsHearing_67 rfl (lv_at hl 0 rfl) ?_
        refine nv_cv (show nI (sumTo (fun o => linkTo S o (S 7 0)) (i)) = nI (links S) from nv_e (by rw [links, show S 7 0 = i by omega])) ?_
        exact ro_iret hx hb hr hlocks dX0_pairsHearing_68
      · refine lv_aload_n hx hb dX0_pairsHearing_12 rfl (lv_at hl 2 rfl) ?_
        refine lv_iload_n hx hb dX0_pairsHearing_13 rfl (lv_at hl 1 rfl) ?_
        refine ro_V (n := 1) (As := [.int (nI i)]) (rest := []) ⟨hx, hb, hml, hown, hts⟩ (c_X0_barsPlayed l D ci G ka a S w r nb (i) hWF (by omega)) gX0_pairsHearing_X0_barsPlayed rfl ⟨rfl, rfl⟩ (by decide +kernel) rfl ⟨Nat.le_of_ble_eq_true rfl, Nat.le_of_ble_eq_true rfl⟩ hE hs hK hP (ci := 0) (q0 := 0) rfl rfl hl.1 rfl (Nat.le_of_ble_eq_true rfl) dX0_pairsHearing_14 ⟨Nat.zero_le _, Nat.zero_le _⟩ ?_
        have f2 := bPlay_lt S ((i))
        refine nv_ifeq (tgt := 24) hx hb (by omega) dX0_pairsHearing_17 (by decide) (fun c3 => ?_) (fun c3 => ?_)
        · refine lv_iconst (v := nI (0)) hx hb dX0_pairsHearing_24 (by decide) ?_
          refine lv_istore_n (lv' := [(3, .int (nI 0)), (1, .int (nI (sumTo (fun o => linkTo S o (S 7 0)) (i)))), (2, .int (nI i)), (0, .ref (a 0))]) hx hb dX0_pairsHearing_25 rfl hl (by decide) rfl (fun ls hl => ?_)
          refine lv_iconst (v := nI (0)) hx hb dX0_pairsHearing_26 (by decide) ?_
          refine lv_istore (lv' := [(4, .int (nI 0)), (3, .int (nI 0)), (1, .int (nI (sumTo (fun o => linkTo S o (S 7 0)) (i)))), (2, .int (nI i)), (0, .ref (a 0))]) hx hb dX0_pairsHearing_27 hl (by decide) rfl (fun ls hl => ?_)
          have L29 : ∀ (k29 : Nat) (j : Nat), S 7 0 - j < k29 → (j ≤ S 7 0) → ∀ (x1 x4 : Int32), x1 = nI (sumTo (fun o => linkTo S o (S 7 0)) i + linkTo S i (j)) → x4 = nI (j) → ∀ ls : Array Slot, lv_has ls 5 [(1, .int (x1)), (4, .int (x4)), (3, .int (nI 0)), (2, .int (nI i)), (0, .ref (a 0))] → W p l e (headSpec wsX0_pairsHearing ({ frames := 3, cells := 0, slots := 0, locals := 67 } : Room)).room s m ([.ref (a 0)] : List Value).toArray below meth c s.heap [] 0 0 (MQ below (ro_Q (some (.int (nI (links S))))) ([.ref (a 0)] : List Value).toArray s 0 0 (fun _ => False)) (F0 m 29 ls []) := by
            intro k29
            induction k29 with
            | zero => intro j h0; exact absurd h0 (Nat.not_lt_zero _)
            | succ k29 ih29 =>
              intro j hk29 h_j x1 x4 e1 e4 ls hl
              subst e1
              subst e4
              refine lv_iload hx hb dX0_pairsHearing_29 (lv_at hl 1 rfl) ?_
              refine lv_aload_n hx hb dX0_pairsHearing_31 rfl (lv_at hl 4 rfl) ?_
              refine va_get (D := D) (ci := 0) (v := .int (nI (S 7 0))) (C := RX0) (T := TX0) (N := 13) hx hb hts hinX0 hown hK hP 0 rfl rfl 7 (by decide) (hts (.fieldLink RX0 33 "OneShort$Orchestra" "size" "I") (List.mem_of_getElem? (i := 1) rfl)) (fun _ h9 => h9) rfl dX0_pairsHearing_32 ?_
              refine nv_icmp_ge (tgt := 61) hx hb (by omega) (by omega) dX0_pairsHearing_35 (by decide) (fun c4 => ?_) (fun c4 => ?_)
              · refine nv_iinc1 (lv' := [(2, .int (nI (i + 1))), (1, .int (nI (sumTo (fun o => linkTo S o (S 7 0)) i + linkTo S i (j)))), (4, .int (nI j)), (3, .int (nI 0)), (0, .ref (a 0))]) hx hb dX0_pairsHearing_61 hl (k := 3) rfl (by decide) rfl (fun ls hl => ?_)
                refine lv_goto (tgt := 4) hx hb dX0_pairsHearing_64 (by decide) ?_
                exact ih4 (i + 1) (by omega) (by omega) (nI (sumTo (fun o => linkTo S o (S 7 0)) i + linkTo S i (j))) (nI (i + 1)) (nv_e (by rw [sumTo, show S 7 0 = j by omega])) rfl ls (lv_sub hl [1, 0, 4] rfl)
              · refine lv_iload_n hx hb dX0_pairsHearing_38 rfl (lv_at hl 2 rfl) ?_
                refine lv_if_eq (tgt := 55) hx hb dX0_pairsHearing_39 (by decide) (fun _ => ?_) (fun h => absurd (by decide) h)
                refine nv_iinc1 (lv' := [(4, .int (nI (j + 1))), (1, .int (nI (sumTo (fun o => linkTo S o (S 7 0)) i + linkTo S i (j)))), (3, .int (nI 0)), (2, .int (nI i)), (0, .ref (a 0))]) hx hb dX0_pairsHearing_55 hl (k := 1) rfl (by decide) rfl (fun ls hl => ?_)
                refine lv_goto (tgt := 29) hx hb dX0_pairsHearing_58 (by decide) ?_
                exact ih29 (j + 1) (by omega) (by omega) (nI (sumTo (fun o => linkTo S o (S 7 0)) i + linkTo S i (j))) (nI (j + 1)) (nv_e (by first | exact link_t c3 c4 | exact link_f c4 | exact link_0 c3)) rfl ls (lv_sub hl [1, 0, 2, 3, 4] rfl)
          exact L29 _ (0) (Nat.lt_succ_self _) (by omega) (nI (sumTo (fun o => linkTo S o (S 7 0)) (i))) (nI (0)) rfl rfl ls (lv_sub hl [2, 0, 1, 3, 4] rfl)
        · refine lv_iconst (v := nI (1)) hx hb dX0_pairsHearing_20 (by decide) ?_
          refine lv_goto (tgt := 25) hx hb dX0_pairsHearing_21 (by decide) ?_
          refine lv_istore_n (lv' := [(3, .int (nI 1)), (1, .int (nI (sumTo (fun o => linkTo S o (S 7 0)) (i)))), (2, .int (nI i)), (0, .ref (a 0))]) hx hb dX0_pairsHearing_25 rfl hl (by decide) rfl (fun ls hl => ?_)
          refine lv_iconst (v := nI (0)) hx hb dX0_pairsHearing_26 (by decide) ?_
          refine lv_istore (lv' := [(4, .int (nI 0)), (3, .int (nI 1)), (1, .int (nI (sumTo (fun o => linkTo S o (S 7 0)) (i)))), (2, .int (nI i)), (0, .ref (a 0))]) hx hb dX0_pairsHearing_27 hl (by decide) rfl (fun ls hl => ?_)
          have L29 : ∀ (k29 : Nat) (j : Nat), S 7 0 - j < k29 → (j ≤ S 7 0) → ∀ (x1 x4 : Int32), x1 = nI (sumTo (fun o => linkTo S o (S 7 0)) i + linkTo S i (j)) → x4 = nI (j) → ∀ ls : Array Slot, lv_has ls 5 [(1, .int (x1)), (4, .int (x4)), (3, .int (nI 1)), (2, .int (nI i)), (0, .ref (a 0))] → W p l e (headSpec wsX0_pairsHearing ({ frames := 3, cells := 0, slots := 0, locals := 67 } : Room)).room s m ([.ref (a 0)] : List Value).toArray below meth c s.heap [] 0 0 (MQ below (ro_Q (some (.int (nI (links S))))) ([.ref (a 0)] : List Value).toArray s 0 0 (fun _ => False)) (F0 m 29 ls []) := by
            intro k29
            induction k29 with
            | zero => intro j h0; exact absurd h0 (Nat.not_lt_zero _)
            | succ k29 ih29 =>
              intro j hk29 h_j x1 x4 e1 e4 ls hl
              subst e1
              subst e4
              refine lv_iload hx hb dX0_pairsHearing_29 (lv_at hl 1 rfl) ?_
              refine lv_aload_n hx hb dX0_pairsHearing_31 rfl (lv_at hl 4 rfl) ?_
              refine va_get (D := D) (ci := 0) (v := .int (nI (S 7 0))) (C := RX0) (T := TX0) (N := 13) hx hb hts hinX0 hown hK hP 0 rfl rfl 7 (by decide) (hts (.fieldLink RX0 33 "OneShort$Orchestra" "size" "I") (List.mem_of_getElem? (i := 1) rfl)) (fun _ h9 => h9) rfl dX0_pairsHearing_32 ?_
              refine nv_icmp_ge (tgt := 61) hx hb (by omega) (by omega) dX0_pairsHearing_35 (by decide) (fun c6 => ?_) (fun c6 => ?_)
              · refine nv_iinc1 (lv' := [(2, .int (nI (i + 1))), (1, .int (nI (sumTo (fun o => linkTo S o (S 7 0)) i + linkTo S i (j)))), (4, .int (nI j)), (3, .int (nI 1)), (0, .ref (a 0))]) hx hb dX0_pairsHearing_61 hl (k := 3) rfl (by decide) rfl (fun ls hl => ?_)
                refine lv_goto (tgt := 4) hx hb dX0_pairsHearing_64 (by decide) ?_
                exact ih4 (i + 1) (by omega) (by omega) (nI (sumTo (fun o => linkTo S o (S 7 0)) i + linkTo S i (j))) (nI (i + 1)) (nv_e (by rw [sumTo, show S 7 0 = j by omega])) rfl ls (lv_sub hl [1, 0, 4] rfl)
              · refine lv_iload_n hx hb dX0_pairsHearing_38 rfl (lv_at hl 2 rfl) ?_
                refine lv_if_eq (tgt := 55) hx hb dX0_pairsHearing_39 (by decide) (fun h => absurd h (by decide)) (fun _ => ?_)
                refine lv_aload_n hx hb dX0_pairsHearing_42 rfl (lv_at hl 4 rfl) ?_
                refine lv_iload hx hb dX0_pairsHearing_43 (lv_at hl 1 rfl) ?_
                refine lv_iload_n hx hb dX0_pairsHearing_45 rfl (lv_at hl 3 rfl) ?_
                refine ro_V (n := 2) (As := [.int (nI j), .int (nI i)]) (rest := []) ⟨hx, hb, hml, hown, hts⟩ (c_X0_canHear l D ci G ka a S w r nb (j) (i) hWF (by omega) (by omega)) gX0_pairsHearing_X0_canHear rfl ⟨rfl, rfl⟩ (by decide +kernel) rfl ⟨Nat.le_of_ble_eq_true rfl, Nat.le_of_ble_eq_true rfl⟩ hE hs hK hP (ci := 0) (q0 := 0) rfl rfl hl.1 rfl (Nat.le_of_ble_eq_true rfl) dX0_pairsHearing_46 ⟨Nat.zero_le _, Nat.zero_le _⟩ ?_
                refine nv_ifeq_b (tgt := 55) hx hb dX0_pairsHearing_49 (by decide) (fun c8 => ?_) (fun c8 => ?_)
                · refine nv_iinc1 (lv' := [(4, .int (nI (j + 1))), (1, .int (nI (sumTo (fun o => linkTo S o (S 7 0)) i + linkTo S i (j)))), (3, .int (nI 1)), (2, .int (nI i)), (0, .ref (a 0))]) hx hb dX0_pairsHearing_55 hl (k := 1) rfl (by decide) rfl (fun ls hl => ?_)
                  refine lv_goto (tgt := 29) hx hb dX0_pairsHearing_58 (by decide) ?_
                  exact ih29 (j + 1) (by omega) (by omega) (nI (sumTo (fun o => linkTo S o (S 7 0)) i + linkTo S i (j))) (nI (j + 1)) (nv_e (by first | exact link_t c3 c8 | exact link_f c8 | exact link_0 c3)) rfl ls (lv_sub hl [1, 0, 2, 3, 4] rfl)
                · refine nv_iinc1 (lv' := [(1, .int (nI (sumTo (fun o => linkTo S o (S 7 0)) i + linkTo S i (j) + 1))), (4, .int (nI j)), (3, .int (nI 1)), (2, .int (nI i)), (0, .ref (a 0))]) hx hb dX0_pairsHearing_52 hl (k := 0) rfl (by decide) rfl (fun ls hl => ?_)
                  refine nv_iinc1 (lv' := [(4, .int (nI (j + 1))), (1, .int (nI (sumTo (fun o => linkTo S o (S 7 0)) i + linkTo S i (j) + 1))), (3, .int (nI 1)), (2, .int (nI i)), (0, .ref (a 0))]) hx hb dX0_pairsHearing_55 hl (k := 1) rfl (by decide) rfl (fun ls hl => ?_)
                  refine lv_goto (tgt := 29) hx hb dX0_pairsHearing_58 (by decide) ?_
                  exact ih29 (j + 1) (by omega) (by omega) (nI (sumTo (fun o => linkTo S o (S 7 0)) i + linkTo S i (j) + 1)) (nI (j + 1)) (nv_e (by first | exact link_t c3 c8 | exact link_f c8 | exact link_0 c3)) rfl ls (lv_sub hl [1, 0, 2, 3, 4] rfl)
          exact L29 _ (0) (Nat.lt_succ_self _) (by omega) (nI (sumTo (fun o => linkTo S o (S 7 0)) (i))) (nI (0)) rfl rfl ls (lv_sub hl [2, 0, 1, 3, 4] rfl)
  exact L4 _ (0) (Nat.lt_succ_self _) (by omega) (nI (0)) (nI (0)) rfl rfl ls (lv_sub hl [1, 0, 2] rfl)

set_option maxHeartbeats 4000000 in
set_option maxRecDepth 100000 in
/-- X0_allHeard -/
theorem c_X0_allHeard (l : Launch) (D : va_G) (ci : Nat → ClassId) (G : Nat → Prop) (ka : Nat) (a : Nat → Nat) (S : OS) (w r nb : Nat → Int32)  (hWF : WF S) : Met l yX0_allHeard wsX0_allHeard ({ frames := 5, cells := 0, slots := 0, locals := 112 } : Room) (va_Pc [.ref (a 0)] (ro_B D (tyL ci) (wO (ci 0) a S w r nb) (en D (ci 0) G ka))) (ro_Q (some (.int (nI (heardAll S))))) 0 0 (fun _ => False) := by
  refine ro_Met (cc := cX0_allHeard) (maxL := 5) (ret := (some .int)) [(0, .ref (a 0))] (by decide) rfl (Nat.le_of_ble_eq_true rfl) rfl ?_
  intro p e s m below meth c hx hb hml hr hlocks hts hown hP hK hs ls hl
  have hown : s.vm.findClass RX0 = some m.cls := hown
  have hE := hE_en D (ci 0) G ka
  have f_n := hWF.n
  refine lv_iconst (v := nI (0)) hx hb dX0_allHeard_0 (by decide) ?_
  refine lv_istore_n (lv' := [(1, .int (nI 0)), (0, .ref (a 0))]) hx hb dX0_allHeard_1 rfl hl (by decide) rfl (fun ls hl => ?_)
  refine lv_iconst (v := nI (0)) hx hb dX0_allHeard_2 (by decide) ?_
  refine lv_istore_n (lv' := [(2, .int (nI 0)), (1, .int (nI 0)), (0, .ref (a 0))]) hx hb dX0_allHeard_3 rfl hl (by decide) rfl (fun ls hl => ?_)
  have L4 : ∀ (k4 : Nat) (i : Nat), 12 - i < k4 → (i ≤ 12) → ∀ (x1 x2 : Int32), x1 = nI (sumTo (fun bb => sumTo (fun se => great S se (playIn S bb)) 16) (i)) → x2 = nI (i) → ∀ ls : Array Slot, lv_has ls 5 [(1, .int (x1)), (2, .int (x2)), (0, .ref (a 0))] → W p l e (headSpec wsX0_allHeard ({ frames := 5, cells := 0, slots := 0, locals := 112 } : Room)).room s m ([.ref (a 0)] : List Value).toArray below meth c s.heap [] 0 0 (MQ below (ro_Q (some (.int (nI (heardAll S))))) ([.ref (a 0)] : List Value).toArray s 0 0 (fun _ => False)) (F0 m 4 ls []) := by
    intro k4
    induction k4 with
    | zero => intro i h0; exact absurd h0 (Nat.not_lt_zero _)
    | succ k4 ih4 =>
      intro i hk4 h_i x1 x2 e1 e2 ls hl
      subst e1
      subst e2
      refine lv_iload_n hx hb dX0_allHeard_4 rfl (lv_at hl 1 rfl) ?_
      refine lv_bipush (v := nI (12)) hx hb dX0_allHeard_5 (by decide) ?_
      refine nv_icmp_ge (tgt := 48) hx hb (by omega) (by omega) dX0_allHeard_7 (by decide) (fun c1 => ?_) (fun c1 => ?_)
      · refine lv_iload_n hx hb dX0_allHeard_48 rfl (lv_at hl 0 rfl) ?_
        refine nv_cv (show nI (sumTo (fun bb => sumTo (fun se => great S se (playIn S bb)) 16) (i)) = nI (heardAll S) from nv_e (by rw [heardAll, show i = 12 by omega])) ?_
        exact ro_iret hx hb hr hlocks dX0_allHeard_49
      · refine lv_aload_n hx hb dX0_allHeard_10 rfl (lv_at hl 2 rfl) ?_
        refine lv_iload_n hx hb dX0_allHeard_11 rfl (lv_at hl 1 rfl) ?_
        refine ro_V (n := 1) (As := [.int (nI i)]) (rest := []) ⟨hx, hb, hml, hown, hts⟩ (c_X0_playersIn l D ci G ka a S w r nb (i) hWF (by omega)) gX0_allHeard_X0_playersIn rfl ⟨rfl, rfl⟩ (by decide +kernel) rfl ⟨Nat.le_of_ble_eq_true rfl, Nat.le_of_ble_eq_true rfl⟩ hE hs hK hP (ci := 0) (q0 := 0) rfl rfl hl.1 rfl (Nat.le_of_ble_eq_true rfl) dX0_allHeard_12 ⟨Nat.zero_le _, Nat.zero_le _⟩ ?_
        have f2 := playIn_lt hWF ((i))
        refine lv_istore_n (lv' := [(3, .int (nI (playIn S (i)))), (1, .int (nI (sumTo (fun bb => sumTo (fun se => great S se (playIn S bb)) 16) (i)))), (2, .int (nI i)), (0, .ref (a 0))]) hx hb dX0_allHeard_15 rfl hl (by decide) rfl (fun ls hl => ?_)
        refine lv_iconst (v := nI (0)) hx hb dX0_allHeard_16 (by decide) ?_
        refine lv_istore (lv' := [(4, .int (nI 0)), (3, .int (nI (playIn S (i)))), (1, .int (nI (sumTo (fun bb => sumTo (fun se => great S se (playIn S bb)) 16) (i)))), (2, .int (nI i)), (0, .ref (a 0))]) hx hb dX0_allHeard_17 hl (by decide) rfl (fun ls hl => ?_)
        have L19 : ∀ (k19 : Nat) (j : Nat), 16 - j < k19 → (j ≤ 16) → ∀ (x1 x4 : Int32), x1 = nI (sumTo (fun bb => sumTo (fun se => great S se (playIn S bb)) 16) i + sumTo (fun se => great S se (playIn S i)) (j)) → x4 = nI (j) → ∀ ls : Array Slot, lv_has ls 5 [(1, .int (x1)), (4, .int (x4)), (3, .int (nI (playIn S (i)))), (2, .int (nI i)), (0, .ref (a 0))] → W p l e (headSpec wsX0_allHeard ({ frames := 5, cells := 0, slots := 0, locals := 112 } : Room)).room s m ([.ref (a 0)] : List Value).toArray below meth c s.heap [] 0 0 (MQ below (ro_Q (some (.int (nI (heardAll S))))) ([.ref (a 0)] : List Value).toArray s 0 0 (fun _ => False)) (F0 m 19 ls []) := by
          intro k19
          induction k19 with
          | zero => intro j h0; exact absurd h0 (Nat.not_lt_zero _)
          | succ k19 ih19 =>
            intro j hk19 h_j x1 x4 e1 e4 ls hl
            subst e1
            subst e4
            refine lv_iload hx hb dX0_allHeard_19 (lv_at hl 1 rfl) ?_
            refine lv_bipush (v := nI (16)) hx hb dX0_allHeard_21 (by decide) ?_
            refine nv_icmp_ge (tgt := 42) hx hb (by omega) (by omega) dX0_allHeard_23 (by decide) (fun c3 => ?_) (fun c3 => ?_)
            · refine nv_iinc1 (lv' := [(2, .int (nI (i + 1))), (1, .int (nI (sumTo (fun bb => sumTo (fun se => great S se (playIn S bb)) 16) i + sumTo (fun se => great S se (playIn S i)) (j)))), (4, .int (nI j)), (3, .int (nI (playIn S (i)))), (0, .ref (a 0))]) hx hb dX0_allHeard_42 hl (k := 3) rfl (by decide) rfl (fun ls hl => ?_)
              refine lv_goto (tgt := 4) hx hb dX0_allHeard_45 (by decide) ?_
              exact ih4 (i + 1) (by omega) (by omega) (nI (sumTo (fun bb => sumTo (fun se => great S se (playIn S bb)) 16) i + sumTo (fun se => great S se (playIn S i)) (j))) (nI (i + 1)) (nv_e (by rw [sumTo, show j = 16 by omega])) rfl ls (lv_sub hl [1, 0, 4] rfl)
            · refine lv_iload_n hx hb dX0_allHeard_26 rfl (lv_at hl 0 rfl) ?_
              refine lv_aload_n hx hb dX0_allHeard_27 rfl (lv_at hl 4 rfl) ?_
              refine lv_iload hx hb dX0_allHeard_28 (lv_at hl 1 rfl) ?_
              refine lv_iload_n hx hb dX0_allHeard_30 rfl (lv_at hl 2 rfl) ?_
              refine ro_V (n := 2) (As := [.int (nI j), .int (nI (playIn S (i)))]) (rest := [.int (nI (sumTo (fun bb => sumTo (fun se => great S se (playIn S bb)) 16) i + sumTo (fun se => great S se (playIn S i)) (j)))]) ⟨hx, hb, hml, hown, hts⟩ (c_X0_greatest l D ci G ka a S w r nb (j) (playIn S (i)) hWF (by omega) (by omega)) gX0_allHeard_X0_greatest rfl ⟨rfl, rfl⟩ (by decide +kernel) rfl ⟨Nat.le_of_ble_eq_true rfl, Nat.le_of_ble_eq_true rfl⟩ hE hs hK hP (ci := 0) (q0 := 0) rfl rfl hl.1 rfl (Nat.le_of_ble_eq_true rfl) dX0_allHeard_31 ⟨Nat.zero_le _, Nat.zero_le _⟩ ?_
              have f4 := great_lt' hWF ((j)) ((playIn S (i)))
              refine nv_iadd hx hb dX0_allHeard_34 ?_
              refine lv_istore_n (lv' := [(1, .int (nI ((sumTo (fun bb => sumTo (fun se => great S se (playIn S bb)) 16) i + sumTo (fun se => great S se (playIn S i)) (j) + great S (j) (playIn S (i)))))), (4, .int (nI j)), (3, .int (nI (playIn S (i)))), (2, .int (nI i)), (0, .ref (a 0))]) hx hb dX0_allHeard_35 rfl hl (by decide) rfl (fun ls hl => ?_)
              refine nv_iinc1 (lv' := [(4, .int (nI (j + 1))), (1, .int (nI ((sumTo (fun bb => sumTo (fun se => great S se (playIn S bb)) 16) i + sumTo (fun se => great S se (playIn S i)) (j) + great S (j) (playIn S (i)))))), (3, .int (nI (playIn S (i)))), (2, .int (nI i)), (0, .ref (a 0))]) hx hb dX0_allHeard_36 hl (k := 1) rfl (by decide) rfl (fun ls hl => ?_)
              refine lv_goto (tgt := 19) hx hb dX0_allHeard_39 (by decide) ?_
              exact ih19 (j + 1) (by omega) (by omega) (nI ((sumTo (fun bb => sumTo (fun se => great S se (playIn S bb)) 16) i + sumTo (fun se => great S se (playIn S i)) (j) + great S (j) (playIn S (i))))) (nI (j + 1)) (nv_e (by rw [sumTo]; omega)) rfl ls (lv_sub hl [1, 0, 2, 3, 4] rfl)
        exact L19 _ (0) (Nat.lt_succ_self _) (by omega) (nI (sumTo (fun bb => sumTo (fun se => great S se (playIn S bb)) 16) (i))) (nI (0)) rfl rfl ls (lv_sub hl [2, 0, 1, 3, 4] rfl)
  exact L4 _ (0) (Nat.lt_succ_self _) (by omega) (nI (0)) (nI (0)) rfl rfl ls (lv_sub hl [1, 0, 2] rfl)

set_option maxHeartbeats 4000000 in
set_option maxRecDepth 100000 in
/-- X0_exchangeSeats -/
theorem c_X0_exchangeSeats (l : Launch) (D : va_G) (ci : Nat → ClassId) (G : Nat → Prop) (ka : Nat) (a : Nat → Nat) (S : OS) (w r nb : Nat → Int32) (hI : injA a 11) (hG : ∀ k, k < 11 → G (a k)) (q o : Nat) (hWF : WF S) (h_q : q < 8) (h_o : o < 8) : Met l yX0_exchangeSeats wsX0_exchangeSeats ({ frames := 0, cells := 0, slots := 0, locals := 0 } : Room) (va_Pc [.ref (a 0), .int (nI q), .int (nI o)] (ro_B D (tyL ci) (wO (ci 0) a S w r nb) (en D (ci 0) G ka))) (mu_Q (aO a) (none) (fun H => va_P D vwCl (wO (ci 0) a (st (st S 2 q (S 2 o)) 2 o (S 2 q)) w r nb) H)) 0 0 (aO a) := by
  refine mu_Met (cc := cX0_exchangeSeats) (maxL := 4) (ret := none) [(0, .ref (a 0)), (1, .int (nI q)), (2, .int (nI o))] (wO_D hI S w r nb) (by decide) rfl (Nat.le_of_ble_eq_true rfl) rfl ?_
  intro p e s m below meth c H locs hx hb hml hr hlocks hts hown hP hK hs0 hD hS ls hl
  have hown : s.vm.findClass RX0 = some m.cls := hown
  have hinX0 : ∀ w ∈ wsX00, w ∈ wsX0_exchangeSeats := by decide +kernel
  have hE := hE_en D (ci 0) G ka
  have f_n := hWF.n
  have hGA := aO_G hG
  refine lv_aload_n hx hb dX0_exchangeSeats_0 rfl (lv_at hl 0 rfl) ?_
  refine va_get (D := D) (ci := 0) (v := .ref (a 3)) (C := RX0) (T := TX0) (N := 13) hx hb hts hinX0 hown hK hP 0 rfl rfl 2 (by decide) (hts (.fieldLink RX0 18 "OneShort$Orchestra" "seat" "[I") (List.mem_of_getElem? (i := 1) rfl)) (fun _ h9 => h9) rfl dX0_exchangeSeats_1 ?_
  refine lv_iload_n hx hb dX0_exchangeSeats_4 rfl (lv_at hl 1 rfl) ?_
  have f1 := hWF.f2 (q)
  refine nv_iald (v := nI (S 2 (q))) hx hb hK hP 3 0 rfl rfl (by omega) (by decide) rfl dX0_exchangeSeats_5 ?_
  refine lv_istore_n (lv' := [(3, .int (nI (S 2 (q)))), (0, .ref (a 0)), (1, .int (nI q)), (2, .int (nI o))]) hx hb dX0_exchangeSeats_6 rfl hl (by decide) rfl (fun ls hl => ?_)
  refine lv_aload_n hx hb dX0_exchangeSeats_7 rfl (lv_at hl 1 rfl) ?_
  refine va_get (D := D) (ci := 0) (v := .ref (a 3)) (C := RX0) (T := TX0) (N := 13) hx hb hts hinX0 hown hK hP 0 rfl rfl 2 (by decide) (hts (.fieldLink RX0 18 "OneShort$Orchestra" "seat" "[I") (List.mem_of_getElem? (i := 1) rfl)) (fun _ h9 => h9) rfl dX0_exchangeSeats_8 ?_
  refine lv_iload_n hx hb dX0_exchangeSeats_11 rfl (lv_at hl 2 rfl) ?_
  refine lv_aload_n hx hb dX0_exchangeSeats_12 rfl (lv_at hl 1 rfl) ?_
  refine va_get (D := D) (ci := 0) (v := .ref (a 3)) (C := RX0) (T := TX0) (N := 13) hx hb hts hinX0 hown hK hP 0 rfl rfl 2 (by decide) (hts (.fieldLink RX0 18 "OneShort$Orchestra" "seat" "[I") (List.mem_of_getElem? (i := 1) rfl)) (fun _ h9 => h9) rfl dX0_exchangeSeats_13 ?_
  refine lv_iload_n hx hb dX0_exchangeSeats_16 rfl (lv_at hl 3 rfl) ?_
  have f2 := hWF.f2 (o)
  refine nv_iald (v := nI (S 2 (o))) hx hb hK hP 3 0 rfl rfl (by omega) (by decide) rfl dX0_exchangeSeats_17 ?_
  refine nv_iast hx hb hK hP hD hS 3 0 rfl rfl (by omega) (by decide) dX0_exchangeSeats_18 (fun H locs hP hD hS => ?_)
  have hP := va_P.re (wO_ast2 (ci 0) a S w r nb (q) (S 2 (o))) hP
  have hD := va_D.re (wO_ast2 (ci 0) a S w r nb (q) (S 2 (o))) hD
  refine lv_aload_n hx hb dX0_exchangeSeats_19 rfl (lv_at hl 1 rfl) ?_
  refine va_get (D := D) (ci := 0) (v := .ref (a 3)) (C := RX0) (T := TX0) (N := 13) hx hb hts hinX0 hown hK hP 0 rfl rfl 2 (by decide) (hts (.fieldLink RX0 18 "OneShort$Orchestra" "seat" "[I") (List.mem_of_getElem? (i := 1) rfl)) (fun _ h9 => h9) rfl dX0_exchangeSeats_20 ?_
  refine lv_iload_n hx hb dX0_exchangeSeats_23 rfl (lv_at hl 3 rfl) ?_
  refine lv_iload_n hx hb dX0_exchangeSeats_24 rfl (lv_at hl 0 rfl) ?_
  refine nv_iast hx hb hK hP hD hS 3 0 rfl rfl (by omega) (by decide) dX0_exchangeSeats_25 (fun H locs hP hD hS => ?_)
  have hP := va_P.re (wO_ast2 (ci 0) a (st S 2 (q) (S 2 (o))) w r nb (o) (S 2 (q))) hP
  have hD := va_D.re (wO_ast2 (ci 0) a (st S 2 (q) (S 2 (o))) w r nb (o) (S 2 (q))) hD
  exact mu_vret hx hb hr hlocks hS (hP) dX0_exchangeSeats_26

set_option maxHeartbeats 4000000 in
set_option maxRecDepth 100000 in
/-- X0_engage -/
theorem c_X0_engage (l : Launch) (D : va_G) (ci : Nat → ClassId) (G : Nat → Prop) (ka : Nat) (a : Nat → Nat) (S : OS) (w r nb : Nat → Int32) (hI : injA a 11) (hG : ∀ k, k < 11 → G (a k)) (kd se : Nat) (hWF : WF S) (h_n : S 7 0 < 8) : Met l yX0_engage wsX0_engage ({ frames := 0, cells := 0, slots := 0, locals := 0 } : Room) (va_Pc [.ref (a 0), .int (nI kd), .int (nI se)] (ro_B D (tyL ci) (wO (ci 0) a S w r nb) (en D (ci 0) G ka))) (mu_Q (aO a) (some (.int (nI (S 7 0)))) (fun H => va_P D vwCl (wO (ci 0) a (engS S kd se) w r nb) H)) 0 0 (aO a) := by
  refine mu_Met (cc := cX0_engage) (maxL := 4) (ret := (some .int)) [(0, .ref (a 0)), (1, .int (nI kd)), (2, .int (nI se))] (wO_D hI S w r nb) (by decide) rfl (Nat.le_of_ble_eq_true rfl) rfl ?_
  intro p e s m below meth c H locs hx hb hml hr hlocks hts hown hP hK hs0 hD hS ls hl
  have hown : s.vm.findClass RX0 = some m.cls := hown
  have hinX0 : ∀ w ∈ wsX00, w ∈ wsX0_engage := by decide +kernel
  have hE := hE_en D (ci 0) G ka
  have f_n := hWF.n
  have hGA := aO_G hG
  refine lv_aload_n hx hb dX0_engage_0 rfl (lv_at hl 0 rfl) ?_
  refine va_get (D := D) (ci := 0) (v := .int (nI (S 7 0))) (C := RX0) (T := TX0) (N := 13) hx hb hts hinX0 hown hK hP 0 rfl rfl 7 (by decide) (hts (.fieldLink RX0 33 "OneShort$Orchestra" "size" "I") (List.mem_of_getElem? (i := 1) rfl)) (fun _ h9 => h9) rfl dX0_engage_1 ?_
  refine lv_bipush (v := nI (8)) hx hb dX0_engage_4 (by decide) ?_
  refine nv_icmp_lt (tgt := 11) hx hb (by omega) (by omega) dX0_engage_6 (by decide) (fun c1 => ?_) (fun c1 => ?_)
  · refine lv_aload_n hx hb dX0_engage_11 rfl (lv_at hl 0 rfl) ?_
    refine va_get (D := D) (ci := 0) (v := .int (nI (S 7 0))) (C := RX0) (T := TX0) (N := 13) hx hb hts hinX0 hown hK hP 0 rfl rfl 7 (by decide) (hts (.fieldLink RX0 33 "OneShort$Orchestra" "size" "I") (List.mem_of_getElem? (i := 1) rfl)) (fun _ h9 => h9) rfl dX0_engage_12 ?_
    refine lv_istore_n (lv' := [(3, .int (nI (S 7 0))), (0, .ref (a 0)), (1, .int (nI kd)), (2, .int (nI se))]) hx hb dX0_engage_15 rfl hl (by decide) rfl (fun ls hl => ?_)
    refine lv_aload_n hx hb dX0_engage_16 rfl (lv_at hl 1 rfl) ?_
    refine va_get (D := D) (ci := 0) (v := .ref (a 2)) (C := RX0) (T := TX0) (N := 13) hx hb hts hinX0 hown hK hP 0 rfl rfl 1 (by decide) (hts (.fieldLink RX0 15 "OneShort$Orchestra" "kind" "[I") (List.mem_of_getElem? (i := 2) rfl)) (fun _ h9 => h9) rfl dX0_engage_17 ?_
    refine lv_iload_n hx hb dX0_engage_20 rfl (lv_at hl 0 rfl) ?_
    refine lv_iload_n hx hb dX0_engage_21 rfl (lv_at hl 2 rfl) ?_
    refine nv_iast hx hb hK hP hD hS 2 0 rfl rfl (by omega) (by decide) dX0_engage_22 (fun H locs hP hD hS => ?_)
    have hP := va_P.re (wO_ast1 (ci 0) a S w r nb (S 7 0) (kd)) hP
    have hD := va_D.re (wO_ast1 (ci 0) a S w r nb (S 7 0) (kd)) hD
    refine lv_aload_n hx hb dX0_engage_23 rfl (lv_at hl 1 rfl) ?_
    refine va_get (D := D) (ci := 0) (v := .ref (a 3)) (C := RX0) (T := TX0) (N := 13) hx hb hts hinX0 hown hK hP 0 rfl rfl 2 (by decide) (hts (.fieldLink RX0 18 "OneShort$Orchestra" "seat" "[I") (List.mem_of_getElem? (i := 3) rfl)) (fun _ h9 => h9) rfl dX0_engage_24 ?_
    refine lv_iload_n hx hb dX0_engage_27 rfl (lv_at hl 0 rfl) ?_
    refine lv_iload_n hx hb dX0_engage_28 rfl (lv_at hl 3 rfl) ?_
    refine nv_iast hx hb hK hP hD hS 3 0 rfl rfl (by omega) (by decide) dX0_engage_29 (fun H locs hP hD hS => ?_)
    have hP := va_P.re (wO_ast2 (ci 0) a (st S 1 (S 7 0) (kd)) w r nb (S 7 0) (se)) hP
    have hD := va_D.re (wO_ast2 (ci 0) a (st S 1 (S 7 0) (kd)) w r nb (S 7 0) (se)) hD
    refine lv_aload_n hx hb dX0_engage_30 rfl (lv_at hl 1 rfl) ?_
    refine va_get (D := D) (ci := 0) (v := .ref (a 4)) (C := RX0) (T := TX0) (N := 13) hx hb hts hinX0 hown hK hP 0 rfl rfl 3 (by decide) (hts (.fieldLink RX0 21 "OneShort$Orchestra" "part" "[I") (List.mem_of_getElem? (i := 4) rfl)) (fun _ h9 => h9) rfl dX0_engage_31 ?_
    refine lv_iload_n hx hb dX0_engage_34 rfl (lv_at hl 0 rfl) ?_
    refine lv_iconst (v := nI (0)) hx hb dX0_engage_35 (by decide) ?_
    refine nv_iast hx hb hK hP hD hS 4 0 rfl rfl (by omega) (by decide) dX0_engage_36 (fun H locs hP hD hS => ?_)
    have hP := va_P.re (wO_ast3 (ci 0) a (st (st S 1 (S 7 0) (kd)) 2 (S 7 0) (se)) w r nb (S 7 0) (0)) hP
    have hD := va_D.re (wO_ast3 (ci 0) a (st (st S 1 (S 7 0) (kd)) 2 (S 7 0) (se)) w r nb (S 7 0) (0)) hD
    refine lv_aload_n hx hb dX0_engage_37 rfl (lv_at hl 1 rfl) ?_
    refine va_get (D := D) (ci := 0) (v := .ref (a 5)) (C := RX0) (T := TX0) (N := 13) hx hb hts hinX0 hown hK hP 0 rfl rfl 4 (by decide) (hts (.fieldLink RX0 24 "OneShort$Orchestra" "loud" "[I") (List.mem_of_getElem? (i := 5) rfl)) (fun _ h9 => h9) rfl dX0_engage_38 ?_
    refine lv_iload_n hx hb dX0_engage_41 rfl (lv_at hl 0 rfl) ?_
    refine lv_iconst (v := nI (5)) hx hb dX0_engage_42 (by decide) ?_
    refine nv_iast hx hb hK hP hD hS 5 0 rfl rfl (by omega) (by decide) dX0_engage_43 (fun H locs hP hD hS => ?_)
    have hP := va_P.re (wO_ast4 (ci 0) a (st (st (st S 1 (S 7 0) (kd)) 2 (S 7 0) (se)) 3 (S 7 0) (0)) w r nb (S 7 0) (5)) hP
    have hD := va_D.re (wO_ast4 (ci 0) a (st (st (st S 1 (S 7 0) (kd)) 2 (S 7 0) (se)) 3 (S 7 0) (0)) w r nb (S 7 0) (5)) hD
    refine lv_aload_n hx hb dX0_engage_44 rfl (lv_at hl 1 rfl) ?_
    refine va_get (D := D) (ci := 0) (v := .ref (a 6)) (C := RX0) (T := TX0) (N := 13) hx hb hts hinX0 hown hK hP 0 rfl rfl 5 (by decide) (hts (.fieldLink RX0 27 "OneShort$Orchestra" "nerve" "[I") (List.mem_of_getElem? (i := 6) rfl)) (fun _ h9 => h9) rfl dX0_engage_45 ?_
    refine lv_iload_n hx hb dX0_engage_48 rfl (lv_at hl 0 rfl) ?_
    refine lv_bipush (v := nI (50)) hx hb dX0_engage_49 (by decide) ?_
    refine nv_iast hx hb hK hP hD hS 6 0 rfl rfl (by omega) (by decide) dX0_engage_51 (fun H locs hP hD hS => ?_)
    have hP := va_P.re (wO_ast5 (ci 0) a (st (st (st (st S 1 (S 7 0) (kd)) 2 (S 7 0) (se)) 3 (S 7 0) (0)) 4 (S 7 0) (5)) w r nb (S 7 0) (50)) hP
    have hD := va_D.re (wO_ast5 (ci 0) a (st (st (st (st S 1 (S 7 0) (kd)) 2 (S 7 0) (se)) 3 (S 7 0) (0)) 4 (S 7 0) (5)) w r nb (S 7 0) (50)) hD
    refine lv_aload_n hx hb dX0_engage_52 rfl (lv_at hl 1 rfl) ?_
    refine lv_dup hx hb dX0_engage_53 rfl ?_
    refine va_get (D := D) (ci := 0) (v := .int (nI ((st (st (st (st (st S 1 (S 7 0) (kd)) 2 (S 7 0) (se)) 3 (S 7 0) (0)) 4 (S 7 0) (5)) 5 (S 7 0) (50)) 7 0))) (C := RX0) (T := TX0) (N := 13) hx hb hts hinX0 hown hK hP 0 rfl rfl 7 (by decide) (hts (.fieldLink RX0 33 "OneShort$Orchestra" "size" "I") (List.mem_of_getElem? (i := 1) rfl)) (fun _ h9 => h9) rfl dX0_engage_54 ?_
    refine lv_iconst (v := nI (1)) hx hb dX0_engage_57 (by decide) ?_
    refine nv_iadd hx hb dX0_engage_58 ?_
    refine va_put (D := D) (ci := 0) (v := .int (nI (((st (st (st (st (st S 1 (S 7 0) (kd)) 2 (S 7 0) (se)) 3 (S 7 0) (0)) 4 (S 7 0) (5)) 5 (S 7 0) (50)) 7 0 + 1)))) (ty := .int) (C := RX0) (T := TX0) (N := 13) hx hb hts hinX0 tyX0 tyX0_ok nmX0 hown hK hP hD hS 0 rfl rfl 7 (by decide) (hts (.fieldLink RX0 33 "OneShort$Orchestra" "size" "I") (List.mem_of_getElem? (i := 1) rfl)) (fun _ h9 => h9) rfl (by decide +kernel) rfl rfl (Nat.le_of_ble_eq_true rfl) dX0_engage_59 (fun H locs hP hD hS => ?_)
    have hP := va_P.re (wO_put7 (ci 0) a (st (st (st (st (st S 1 (S 7 0) (kd)) 2 (S 7 0) (se)) 3 (S 7 0) (0)) 4 (S 7 0) (5)) 5 (S 7 0) (50)) w r nb (((st (st (st (st (st S 1 (S 7 0) (kd)) 2 (S 7 0) (se)) 3 (S 7 0) (0)) 4 (S 7 0) (5)) 5 (S 7 0) (50)) 7 0 + 1))) hP
    have hD := va_D.re (wO_put7 (ci 0) a (st (st (st (st (st S 1 (S 7 0) (kd)) 2 (S 7 0) (se)) 3 (S 7 0) (0)) 4 (S 7 0) (5)) 5 (S 7 0) (50)) w r nb (((st (st (st (st (st S 1 (S 7 0) (kd)) 2 (S 7 0) (se)) 3 (S 7 0) (0)) 4 (S 7 0) (5)) 5 (S 7 0) (50)) 7 0 + 1))) hD
    refine lv_iload_n hx hb dX0_engage_62 rfl (lv_at hl 0 rfl) ?_
    exact mu_iret hx hb hr hlocks hS ((va_P.re (rfl) hP)) dX0_engage_63
  · exact absurd h_n (by omega)

set_option maxHeartbeats 4000000 in
set_option maxRecDepth 100000 in
/-- X0_passBar -/
theorem c_X0_passBar (l : Launch) (D : va_G) (ci : Nat → ClassId) (G : Nat → Prop) (ka : Nat) (a : Nat → Nat) (S : OS) (w r nb : Nat → Int32) (hI : injA a 11) (hG : ∀ k, k < 11 → G (a k)) (bb : Nat) (hWF : WF S) (h_bb : bb < 12) (hw : ∀ q, q < S 7 0 → w q = nI (bWrit S q)) (hrr : ∀ q, q < S 7 0 → r q = nI (reachS S q)) : Met l yX0_passBar wsX0_passBar ({ frames := 2, cells := 0, slots := 0, locals := 45 } : Room) (va_Pc [.ref (a 0), .int (nI bb)] (ro_B D (tyL ci) (wO (ci 0) a S w r nb) (en D (ci 0) G ka))) (mu_Q (aO a) (none) (fun H => va_P D vwCl (wO (ci 0) a (barS S bb) w r nb) H)) 0 0 (aO a) := by
  refine mu_Met (cc := cX0_passBar) (maxL := 4) (ret := none) [(0, .ref (a 0)), (1, .int (nI bb))] (wO_D hI S w r nb) (by decide) rfl (Nat.le_of_ble_eq_true rfl) rfl ?_
  intro p e s m below meth c H locs hx hb hml hr hlocks hts hown hP hK hs0 hD hS ls hl
  have hown : s.vm.findClass RX0 = some m.cls := hown
  have hinX0 : ∀ w ∈ wsX00, w ∈ wsX0_passBar := by decide +kernel
  have hE := hE_en D (ci 0) G ka
  have f_n := hWF.n
  have hGA := aO_G hG
  refine lv_iconst (v := nI (0)) hx hb dX0_passBar_0 (by decide) ?_
  refine lv_istore_n (lv' := [(2, .int (nI 0)), (0, .ref (a 0)), (1, .int (nI bb))]) hx hb dX0_passBar_1 rfl hl (by decide) rfl (fun ls hl => ?_)
  refine lv_iconst (v := nI (0)) hx hb dX0_passBar_2 (by decide) ?_
  refine lv_istore_n (lv' := [(3, .int (nI 0)), (2, .int (nI 0)), (0, .ref (a 0)), (1, .int (nI bb))]) hx hb dX0_passBar_3 rfl hl (by decide) rfl (fun ls hl => ?_)
  have L4 : ∀ (k4 : Nat) (i : Nat), S 7 0 - i < k4 → (i ≤ S 7 0) → ∀ (x2 x3 : Int32), x2 = nI (setTo (fun q => plays S q bb) (i)) → x3 = nI (i) → ∀ ls : Array Slot, lv_has ls 4 [(2, .int (x2)), (3, .int (x3)), (0, .ref (a 0)), (1, .int (nI bb))] → W p l e (headSpec wsX0_passBar ({ frames := 2, cells := 0, slots := 0, locals := 45 } : Room)).room s m ([.ref (a 0), .int (nI bb)] : List Value).toArray below meth c H locs 0 0 (MQ below (mu_Q (aO a) (none) (fun H => va_P D vwCl (wO (ci 0) a (barS S bb) w r nb) H)) ([.ref (a 0), .int (nI bb)] : List Value).toArray s 0 0 (aO a)) (F0 m 4 ls []) := by
    intro k4
    induction k4 with
    | zero => intro i h0; exact absurd h0 (Nat.not_lt_zero _)
    | succ k4 ih4 =>
      intro i hk4 h_i x2 x3 e2 e3 ls hl
      subst e2
      subst e3
      refine lv_iload_n hx hb dX0_passBar_4 rfl (lv_at hl 1 rfl) ?_
      refine lv_aload_n hx hb dX0_passBar_5 rfl (lv_at hl 2 rfl) ?_
      refine va_get (D := D) (ci := 0) (v := .int (nI (S 7 0))) (C := RX0) (T := TX0) (N := 13) hx hb hts hinX0 hown hK hP 0 rfl rfl 7 (by decide) (hts (.fieldLink RX0 33 "OneShort$Orchestra" "size" "I") (List.mem_of_getElem? (i := 1) rfl)) (fun _ h9 => h9) rfl dX0_passBar_6 ?_
      refine nv_icmp_ge (tgt := 45) hx hb (by omega) (by omega) dX0_passBar_9 (by decide) (fun c1 => ?_) (fun c1 => ?_)
      · refine lv_iconst (v := nI (0)) hx hb dX0_passBar_45 (by decide) ?_
        refine lv_istore_n (lv' := [(3, .int (nI 0)), (2, .int (nI (setTo (fun q => plays S q bb) (i)))), (0, .ref (a 0)), (1, .int (nI bb))]) hx hb dX0_passBar_46 rfl hl (by decide) rfl (fun ls hl => ?_)
        have L47 : ∀ (k47 : Nat) (i : Nat), S 7 0 - i < k47 → (i ≤ S 7 0) → ∀ (x2 x3 : Int32), x2 = nI (playIn S bb) → x3 = nI (i) → ∀ (H : Heap) (locs : List Loc), va_P D vwCl (wO (ci 0) a (upF S 5 (nnv S bb) i) w r nb) H → va_S (aO a) s.heap H locs → ∀ ls : Array Slot, lv_has ls 4 [(2, .int (x2)), (3, .int (x3)), (0, .ref (a 0)), (1, .int (nI bb))] → W p l e (headSpec wsX0_passBar ({ frames := 2, cells := 0, slots := 0, locals := 45 } : Room)).room s m ([.ref (a 0), .int (nI bb)] : List Value).toArray below meth c H locs 0 0 (MQ below (mu_Q (aO a) (none) (fun H => va_P D vwCl (wO (ci 0) a (barS S bb) w r nb) H)) ([.ref (a 0), .int (nI bb)] : List Value).toArray s 0 0 (aO a)) (F0 m 47 ls []) := by
          intro k47
          induction k47 with
          | zero => intro i h0; exact absurd h0 (Nat.not_lt_zero _)
          | succ k47 ih47 =>
            intro i hk47 h_i x2 x3 e2 e3  H locs hP hS ls hl
            subst e2
            subst e3
            have hD : va_D (aO a) (wO (ci 0) a (upF S 5 (nnv S bb) i) w r nb) := wO_D hI _ _ _ _
            have f_p := playIn_lt hWF bb
            refine lv_iload_n hx hb dX0_passBar_47 rfl (lv_at hl 1 rfl) ?_
            refine lv_aload_n hx hb dX0_passBar_48 rfl (lv_at hl 2 rfl) ?_
            refine va_get (D := D) (ci := 0) (v := .int (nI (S 7 0))) (C := RX0) (T := TX0) (N := 13) hx hb hts hinX0 hown hK hP 0 rfl rfl 7 (by decide) (hts (.fieldLink RX0 33 "OneShort$Orchestra" "size" "I") (List.mem_of_getElem? (i := 1) rfl)) (fun _ h9 => h9) rfl dX0_passBar_49 ?_
            refine nv_icmp_ge (tgt := 123) hx hb (by omega) (by omega) dX0_passBar_52 (by decide) (fun c2 => ?_) (fun c2 => ?_)
            · exact mu_vret hx hb hr hlocks hS ((va_P.re (by rw [barS, show S 7 0 = i by omega]) hP)) dX0_passBar_123
            · refine lv_iload_n hx hb dX0_passBar_55 rfl (lv_at hl 0 rfl) ?_
              refine lv_iload_n hx hb dX0_passBar_56 rfl (lv_at hl 1 rfl) ?_
              refine nv_ishr hx hb (by omega) (by omega) dX0_passBar_57 ?_
              refine lv_iconst (v := nI (1)) hx hb dX0_passBar_58 (by decide) ?_
              refine nv_iand hx hb dX0_passBar_59 ?_
              have f3 : ((playIn S bb / 2 ^ (i)) &&& 1) ≤ 1 := Nat.and_le_right
              have f4 : ((playIn S bb / 2 ^ (i)) &&& 1) ≤ (playIn S bb / 2 ^ (i)) := Nat.and_le_left
              refine nv_ifne (tgt := 66) hx hb (by omega) dX0_passBar_60 (by decide) (fun c5 => ?_) (fun c5 => ?_)
              · refine lv_aload_n hx hb dX0_passBar_66 rfl (lv_at hl 2 rfl) ?_
                refine va_get (D := D) (ci := 0) (v := .ref (a 9)) (C := RX0) (T := TX0) (N := 13) hx hb hts hinX0 hown hK hP 0 rfl rfl 11 (by decide) (hts (.fieldLink RX0 46 "OneShort$Orchestra" "reach" "[I") (List.mem_of_getElem? (i := 3) rfl)) (fun _ h9 => h9) rfl dX0_passBar_67 ?_
                refine lv_iload_n hx hb dX0_passBar_70 rfl (lv_at hl 1 rfl) ?_
                refine nv_iald (v := r (i)) hx hb hK hP 9 0 rfl rfl (by omega) (by decide) rfl dX0_passBar_71 ?_
                have f6 := reachS_lt hWF i
                refine nv_cv (show r (i) = nI (reachS S (i)) from hrr i (by omega)) ?_
                refine lv_iload_n hx hb dX0_passBar_72 rfl (lv_at hl 0 rfl) ?_
                refine nv_iand hx hb dX0_passBar_73 ?_
                have f7 : (reachS S (i) &&& playIn S bb) ≤ playIn S bb := Nat.and_le_right
                have f8 : (reachS S (i) &&& playIn S bb) ≤ reachS S (i) := Nat.and_le_left
                refine nv_ifeq (tgt := 99) hx hb (by omega) dX0_passBar_74 (by decide) (fun c9 => ?_) (fun c9 => ?_)
                · refine lv_aload_n hx hb dX0_passBar_99 rfl (lv_at hl 2 rfl) ?_
                  refine va_get (D := D) (ci := 0) (v := .ref (a 6)) (C := RX0) (T := TX0) (N := 13) hx hb hts hinX0 hown hK hP 0 rfl rfl 5 (by decide) (hts (.fieldLink RX0 27 "OneShort$Orchestra" "nerve" "[I") (List.mem_of_getElem? (i := 4) rfl)) (fun _ h9 => h9) rfl dX0_passBar_100 ?_
                  refine lv_iload_n hx hb dX0_passBar_103 rfl (lv_at hl 1 rfl) ?_
                  refine lv_iconst (v := nI (0)) hx hb dX0_passBar_104 (by decide) ?_
                  refine lv_aload_n hx hb dX0_passBar_105 rfl (lv_at hl 2 rfl) ?_
                  refine va_get (D := D) (ci := 0) (v := .ref (a 6)) (C := RX0) (T := TX0) (N := 13) hx hb hts hinX0 hown hK hP 0 rfl rfl 5 (by decide) (hts (.fieldLink RX0 27 "OneShort$Orchestra" "nerve" "[I") (List.mem_of_getElem? (i := 4) rfl)) (fun _ h9 => h9) rfl dX0_passBar_106 ?_
                  refine lv_iload_n hx hb dX0_passBar_109 rfl (lv_at hl 1 rfl) ?_
                  have f10 := hWF.f5 (i)
                  refine nv_iald (v := nI (S 5 (i))) hx hb hK hP 6 0 rfl rfl (by omega) (by decide) (congrArg nI (upF_at _ _ _ _)) dX0_passBar_110 ?_
                  refine lv_iconst (v := nI (3)) hx hb dX0_passBar_111 (by decide) ?_
                  refine lv_isub hx hb dX0_passBar_112 ?_
                  refine va_mmax hx hb (hml.trans hl.1.symm) hown (hts (.methodLink RX0 90 Lib.Math.max.name) (List.mem_of_getElem? (i := 9) rfl)) (hts (.static Lib.Math.max.name) (List.mem_of_getElem? (i := 10) rfl)) (hts (.initialized "java/lang/Math") (List.mem_of_getElem? (i := 7) rfl)) (hts (.code Lib.Math.max.name Lib.Math.max.code 2 (some .int)) (List.mem_of_getElem? (i := 11) rfl)) (Nat.le_of_ble_eq_true rfl) (Nat.le_of_ble_eq_true rfl) (Nat.zero_le _) (Nat.zero_le _) dX0_passBar_113 (nv_cv (nv_max0 (x := S 5 (i)) (y := 3) (by omega) (by omega)) ?_)
                  refine nv_iast hx hb hK hP hD hS 6 0 rfl rfl (by omega) (by decide) dX0_passBar_116 (fun H locs hP hD hS => ?_)
                  have hP := va_P.re (wO_ast5 (ci 0) a (upF S 5 (nnv S bb) i) w r nb (i) ((S 5 (i) - (3)))) hP
                  have hD := va_D.re (wO_ast5 (ci 0) a (upF S 5 (nnv S bb) i) w r nb (i) ((S 5 (i) - (3)))) hD
                  refine nv_iinc1 (lv' := [(3, .int (nI (i + 1))), (2, .int (nI (playIn S bb))), (0, .ref (a 0)), (1, .int (nI bb))]) hx hb dX0_passBar_117 hl (k := 1) rfl (by decide) rfl (fun ls hl => ?_)
                  refine lv_goto (tgt := 47) hx hb dX0_passBar_120 (by decide) ?_
                  exact ih47 (i + 1) (by omega) (by omega) (nI (playIn S bb)) (nI (i + 1)) rfl rfl _ _ (va_P.re (by first | exact congrArg (fun z => wO (ci 0) a z w r nb) (upF_st (nnv_a c5 c9)) | exact congrArg (fun z => wO (ci 0) a z w r nb) (upF_st (nnv_b c5 c9)) | exact congrArg (fun z => wO (ci 0) a z w r nb) (upF_skip (nnv_c c5 c9))) hP) hS ls (lv_sub hl [1, 0, 2, 3] rfl)
                · refine lv_aload_n hx hb dX0_passBar_77 rfl (lv_at hl 2 rfl) ?_
                  refine va_get (D := D) (ci := 0) (v := .ref (a 6)) (C := RX0) (T := TX0) (N := 13) hx hb hts hinX0 hown hK hP 0 rfl rfl 5 (by decide) (hts (.fieldLink RX0 27 "OneShort$Orchestra" "nerve" "[I") (List.mem_of_getElem? (i := 4) rfl)) (fun _ h9 => h9) rfl dX0_passBar_78 ?_
                  refine lv_iload_n hx hb dX0_passBar_81 rfl (lv_at hl 1 rfl) ?_
                  refine lv_bipush (v := nI (99)) hx hb dX0_passBar_82 (by decide) ?_
                  refine lv_aload_n hx hb dX0_passBar_84 rfl (lv_at hl 2 rfl) ?_
                  refine va_get (D := D) (ci := 0) (v := .ref (a 6)) (C := RX0) (T := TX0) (N := 13) hx hb hts hinX0 hown hK hP 0 rfl rfl 5 (by decide) (hts (.fieldLink RX0 27 "OneShort$Orchestra" "nerve" "[I") (List.mem_of_getElem? (i := 4) rfl)) (fun _ h9 => h9) rfl dX0_passBar_85 ?_
                  refine lv_iload_n hx hb dX0_passBar_88 rfl (lv_at hl 1 rfl) ?_
                  have f11 := hWF.f5 (i)
                  refine nv_iald (v := nI (S 5 (i))) hx hb hK hP 6 0 rfl rfl (by omega) (by decide) (congrArg nI (upF_at _ _ _ _)) dX0_passBar_89 ?_
                  refine lv_iconst (v := nI (1)) hx hb dX0_passBar_90 (by decide) ?_
                  refine nv_iadd hx hb dX0_passBar_91 ?_
                  refine va_mmin hx hb (hml.trans hl.1.symm) hown (hts (.methodLink RX0 121 Lib.Math.min.name) (List.mem_of_getElem? (i := 5) rfl)) (hts (.static Lib.Math.min.name) (List.mem_of_getElem? (i := 6) rfl)) (hts (.initialized "java/lang/Math") (List.mem_of_getElem? (i := 7) rfl)) (hts (.code Lib.Math.min.name Lib.Math.min.code 2 (some .int)) (List.mem_of_getElem? (i := 8) rfl)) (Nat.le_of_ble_eq_true rfl) (Nat.le_of_ble_eq_true rfl) (Nat.zero_le _) (Nat.zero_le _) dX0_passBar_92 (nv_cv (nv_min (x := 99) (y := (S 5 (i) + 1)) (by omega) (by omega)) ?_)
                  refine nv_iast hx hb hK hP hD hS 6 0 rfl rfl (by omega) (by decide) dX0_passBar_95 (fun H locs hP hD hS => ?_)
                  have hP := va_P.re (wO_ast5 (ci 0) a (upF S 5 (nnv S bb) i) w r nb (i) (min (99) ((S 5 (i) + 1)))) hP
                  have hD := va_D.re (wO_ast5 (ci 0) a (upF S 5 (nnv S bb) i) w r nb (i) (min (99) ((S 5 (i) + 1)))) hD
                  refine lv_goto (tgt := 117) hx hb dX0_passBar_96 (by decide) ?_
                  refine nv_iinc1 (lv' := [(3, .int (nI (i + 1))), (2, .int (nI (playIn S bb))), (0, .ref (a 0)), (1, .int (nI bb))]) hx hb dX0_passBar_117 hl (k := 1) rfl (by decide) rfl (fun ls hl => ?_)
                  refine lv_goto (tgt := 47) hx hb dX0_passBar_120 (by decide) ?_
                  exact ih47 (i + 1) (by omega) (by omega) (nI (playIn S bb)) (nI (i + 1)) rfl rfl _ _ (va_P.re (by first | exact congrArg (fun z => wO (ci 0) a z w r nb) (upF_st (nnv_a c5 c9)) | exact congrArg (fun z => wO (ci 0) a z w r nb) (upF_st (nnv_b c5 c9)) | exact congrArg (fun z => wO (ci 0) a z w r nb) (upF_skip (nnv_c c5 c9))) hP) hS ls (lv_sub hl [1, 0, 2, 3] rfl)
              · refine lv_goto (tgt := 117) hx hb dX0_passBar_63 (by decide) ?_
                refine nv_iinc1 (lv' := [(3, .int (nI (i + 1))), (2, .int (nI (playIn S bb))), (0, .ref (a 0)), (1, .int (nI bb))]) hx hb dX0_passBar_117 hl (k := 1) rfl (by decide) rfl (fun ls hl => ?_)
                refine lv_goto (tgt := 47) hx hb dX0_passBar_120 (by decide) ?_
                exact ih47 (i + 1) (by omega) (by omega) (nI (playIn S bb)) (nI (i + 1)) rfl rfl _ _ (va_P.re (by first | exact congrArg (fun z => wO (ci 0) a z w r nb) (upF_st (nnv_a c2 c5)) | exact congrArg (fun z => wO (ci 0) a z w r nb) (upF_st (nnv_b c2 c5)) | exact congrArg (fun z => wO (ci 0) a z w r nb) (upF_skip (nnv_c c2 c5))) hP) hS ls (lv_sub hl [1, 0, 2, 3] rfl)
        exact L47 _ (0) (Nat.lt_succ_self _) (by omega) (nI (setTo (fun q => plays S q bb) (i))) (nI (0)) (nv_e (by rw [playIn, show S 7 0 = i by omega])) rfl _ _ (va_P.re (by exact congrArg (fun z => wO (ci 0) a z w r nb) (upF_0 S 5 (nnv S bb)).symm) hP) hS ls (lv_sub hl [1, 0, 2, 3] rfl)
      · refine lv_aload_n hx hb dX0_passBar_12 rfl (lv_at hl 2 rfl) ?_
        refine va_get (D := D) (ci := 0) (v := .ref (a 8)) (C := RX0) (T := TX0) (N := 13) hx hb hts hinX0 hown hK hP 0 rfl rfl 10 (by decide) (hts (.fieldLink RX0 43 "OneShort$Orchestra" "written" "[I") (List.mem_of_getElem? (i := 2) rfl)) (fun _ h9 => h9) rfl dX0_passBar_13 ?_
        refine lv_iload_n hx hb dX0_passBar_16 rfl (lv_at hl 1 rfl) ?_
        refine nv_iald (v := w (i)) hx hb hK hP 8 0 rfl rfl (by omega) (by decide) rfl dX0_passBar_17 ?_
        have f12 := bWrit_lt S i
        refine nv_cv (show w (i) = nI (bWrit S (i)) from hw i (by omega)) ?_
        refine lv_iload_n hx hb dX0_passBar_18 rfl (lv_at hl 3 rfl) ?_
        refine nv_ishr hx hb (by omega) (by omega) dX0_passBar_19 ?_
        refine lv_iconst (v := nI (1)) hx hb dX0_passBar_20 (by decide) ?_
        refine nv_iand hx hb dX0_passBar_21 ?_
        have f13 : ((bWrit S (i) / 2 ^ (bb)) &&& 1) ≤ 1 := Nat.and_le_right
        have f14 : ((bWrit S (i) / 2 ^ (bb)) &&& 1) ≤ (bWrit S (i) / 2 ^ (bb)) := Nat.and_le_left
        refine nv_ifne (tgt := 33) hx hb (by omega) dX0_passBar_22 (by decide) (fun c15 => ?_) (fun c15 => ?_)
        · refine lv_iload_n hx hb dX0_passBar_33 rfl (lv_at hl 0 rfl) ?_
          refine lv_iconst (v := nI (1)) hx hb dX0_passBar_34 (by decide) ?_
          refine lv_iload_n hx hb dX0_passBar_35 rfl (lv_at hl 1 rfl) ?_
          refine nv_ishl hx hb (by omega) dX0_passBar_36 ?_
          refine nv_ior hx hb dX0_passBar_37 ?_
          refine lv_istore_n (lv' := [(2, .int (nI ((setTo (fun q => plays S q bb) (i) ||| (1 * 2 ^ (i)))))), (3, .int (nI i)), (0, .ref (a 0)), (1, .int (nI bb))]) hx hb dX0_passBar_38 rfl hl (by decide) rfl (fun ls hl => ?_)
          refine nv_iinc1 (lv' := [(3, .int (nI (i + 1))), (2, .int (nI ((setTo (fun q => plays S q bb) (i) ||| (1 * 2 ^ (i)))))), (0, .ref (a 0)), (1, .int (nI bb))]) hx hb dX0_passBar_39 hl (k := 1) rfl (by decide) rfl (fun ls hl => ?_)
          refine lv_goto (tgt := 4) hx hb dX0_passBar_42 (by decide) ?_
          exact ih4 (i + 1) (by omega) (by omega) (nI ((setTo (fun q => plays S q bb) (i) ||| (1 * 2 ^ (i))))) (nI (i + 1)) (nv_e (by first | exact setTo_t (play_b (by omega) c15) | exact setTo_t (play_w (by omega) c15) | exact setTo_f (play_n c1 c15))) rfl ls (lv_sub hl [1, 0, 2, 3] rfl)
        · refine lv_aload_n hx hb dX0_passBar_25 rfl (lv_at hl 2 rfl) ?_
          refine lv_iload_n hx hb dX0_passBar_26 rfl (lv_at hl 1 rfl) ?_
          refine ro_V (n := 1) (As := [.int (nI i)]) (rest := []) ⟨hx, hb, hml, hown, hts⟩ (c_X0_isBold l D ci G ka a S w r nb (i) hWF (by omega)) gX0_passBar_X0_isBold rfl ⟨rfl, rfl⟩ (by decide +kernel) rfl ⟨Nat.le_of_ble_eq_true rfl, Nat.le_of_ble_eq_true rfl⟩ hE (en_S hGA hs0 hS) hK hP (ci := 0) (q0 := 0) rfl rfl hl.1 rfl (Nat.le_of_ble_eq_true rfl) dX0_passBar_27 ⟨Nat.zero_le _, Nat.zero_le _⟩ ?_
          refine nv_ifeq_b (tgt := 39) hx hb dX0_passBar_30 (by decide) (fun c16 => ?_) (fun c16 => ?_)
          · refine nv_iinc1 (lv' := [(3, .int (nI (i + 1))), (2, .int (nI (setTo (fun q => plays S q bb) (i)))), (0, .ref (a 0)), (1, .int (nI bb))]) hx hb dX0_passBar_39 hl (k := 1) rfl (by decide) rfl (fun ls hl => ?_)
            refine lv_goto (tgt := 4) hx hb dX0_passBar_42 (by decide) ?_
            exact ih4 (i + 1) (by omega) (by omega) (nI (setTo (fun q => plays S q bb) (i))) (nI (i + 1)) (nv_e (by first | exact setTo_t (play_b (by omega) c16) | exact setTo_t (play_w (by omega) c16) | exact setTo_f (play_n c15 c16))) rfl ls (lv_sub hl [1, 0, 2, 3] rfl)
          · refine lv_iload_n hx hb dX0_passBar_33 rfl (lv_at hl 0 rfl) ?_
            refine lv_iconst (v := nI (1)) hx hb dX0_passBar_34 (by decide) ?_
            refine lv_iload_n hx hb dX0_passBar_35 rfl (lv_at hl 1 rfl) ?_
            refine nv_ishl hx hb (by omega) dX0_passBar_36 ?_
            refine nv_ior hx hb dX0_passBar_37 ?_
            refine lv_istore_n (lv' := [(2, .int (nI ((setTo (fun q => plays S q bb) (i) ||| (1 * 2 ^ (i)))))), (3, .int (nI i)), (0, .ref (a 0)), (1, .int (nI bb))]) hx hb dX0_passBar_38 rfl hl (by decide) rfl (fun ls hl => ?_)
            refine nv_iinc1 (lv' := [(3, .int (nI (i + 1))), (2, .int (nI ((setTo (fun q => plays S q bb) (i) ||| (1 * 2 ^ (i)))))), (0, .ref (a 0)), (1, .int (nI bb))]) hx hb dX0_passBar_39 hl (k := 1) rfl (by decide) rfl (fun ls hl => ?_)
            refine lv_goto (tgt := 4) hx hb dX0_passBar_42 (by decide) ?_
            exact ih4 (i + 1) (by omega) (by omega) (nI ((setTo (fun q => plays S q bb) (i) ||| (1 * 2 ^ (i))))) (nI (i + 1)) (nv_e (by first | exact setTo_t (play_b (by omega) c16) | exact setTo_t (play_w (by omega) c16) | exact setTo_f (play_n c15 c16))) rfl ls (lv_sub hl [1, 0, 2, 3] rfl)
  exact L4 _ (0) (Nat.lt_succ_self _) (by omega) (nI (0)) (nI (0)) rfl rfl ls (lv_sub hl [1, 0, 2, 3] rfl)

set_option maxHeartbeats 4000000 in
set_option maxRecDepth 100000 in
/-- X0_draw -/
theorem c_X0_draw (l : Launch) (D : va_G) (ci : Nat → ClassId) (G : Nat → Prop) (ka : Nat) (a : Nat → Nat) (S : OS) (w r nb : Nat → Int32) (hI : injA a 11) (hG : ∀ k, k < 11 → G (a k))  (hWF : WF S) : Met l yX0_draw wsX0_draw ({ frames := 0, cells := 0, slots := 0, locals := 0 } : Room) (va_Pc [.ref (a 0)] (ro_B D (tyL ci) (wO (ci 0) a S w r nb) (en D (ci 0) G ka))) (mu_Q (aO a) (some (.int (nI (dz (S 9 0) % 4294967296 / 2 ^ 8)))) (fun H => va_P D vwCl (wO (ci 0) a (st S 9 0 (dz (S 9 0))) w r nb) H)) 0 0 (aO a) := by
  refine mu_Met (cc := cX0_draw) (maxL := 1) (ret := (some .int)) [(0, .ref (a 0))] (wO_D hI S w r nb) (by decide) rfl (Nat.le_of_ble_eq_true rfl) rfl ?_
  intro p e s m below meth c H locs hx hb hml hr hlocks hts hown hP hK hs0 hD hS ls hl
  have hown : s.vm.findClass RX0 = some m.cls := hown
  have hinX0 : ∀ w ∈ wsX00, w ∈ wsX0_draw := by decide +kernel
  have hE := hE_en D (ci 0) G ka
  have f_n := hWF.n
  have hGA := aO_G hG
  refine lv_aload_n hx hb dX0_draw_0 rfl (lv_at hl 0 rfl) ?_
  refine lv_aload_n hx hb dX0_draw_1 rfl (lv_at hl 0 rfl) ?_
  refine va_get (D := D) (ci := 0) (v := .int (nI (S 9 0))) (C := RX0) (T := TX0) (N := 13) hx hb hts hinX0 hown hK hP 0 rfl rfl 9 (by decide) (hts (.fieldLink RX0 40 "OneShort$Orchestra" "z" "I") (List.mem_of_getElem? (i := 1) rfl)) (fun _ h9 => h9) rfl dX0_draw_2 ?_
  refine lv_ldc (v := nI (1103515245)) hx hb hown (hts (.constant RX0 124 (1103515245)) (List.mem_of_getElem? (i := 2) rfl)) dX0_draw_5 ?_
  refine nv_imul hx hb dX0_draw_7 ?_
  refine lv_sipush (v := nI (12345)) hx hb dX0_draw_8 (by decide) ?_
  refine nv_iadd hx hb dX0_draw_11 ?_
  refine va_put (D := D) (ci := 0) (v := .int (nI (((S 9 0 * 1103515245) + 12345)))) (ty := .int) (C := RX0) (T := TX0) (N := 13) hx hb hts hinX0 tyX0 tyX0_ok nmX0 hown hK hP hD hS 0 rfl rfl 9 (by decide) (hts (.fieldLink RX0 40 "OneShort$Orchestra" "z" "I") (List.mem_of_getElem? (i := 1) rfl)) (fun _ h9 => h9) rfl (by decide +kernel) rfl rfl (Nat.le_of_ble_eq_true rfl) dX0_draw_12 (fun H locs hP hD hS => ?_)
  have hP := va_P.re (wO_put9 (ci 0) a S w r nb (((S 9 0 * 1103515245) + 12345))) hP
  have hD := va_D.re (wO_put9 (ci 0) a S w r nb (((S 9 0 * 1103515245) + 12345))) hD
  refine lv_aload_n hx hb dX0_draw_15 rfl (lv_at hl 0 rfl) ?_
  refine va_get (D := D) (ci := 0) (v := .int (nI ((st S 9 0 (((S 9 0 * 1103515245) + 12345))) 9 0))) (C := RX0) (T := TX0) (N := 13) hx hb hts hinX0 hown hK hP 0 rfl rfl 9 (by decide) (hts (.fieldLink RX0 40 "OneShort$Orchestra" "z" "I") (List.mem_of_getElem? (i := 1) rfl)) (fun _ h9 => h9) rfl dX0_draw_16 ?_
  refine lv_bipush (v := nI (8)) hx hb dX0_draw_19 (by decide) ?_
  refine nv_iushr hx hb (by omega) dX0_draw_21 ?_
  refine nv_cv (show nI (((st S 9 0 (((S 9 0 * 1103515245) + 12345))) 9 0 % 4294967296 / 2 ^ (8))) = nI (dz (S 9 0) % 4294967296 / 2 ^ 8) from nv_e (by simp [st, dz])) ?_
  exact mu_iret hx hb hr hlocks hS ((va_P.re (rfl) hP)) dX0_draw_22
