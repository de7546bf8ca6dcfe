/-! walks laid by program -/
set_option maxHeartbeats 4000000 in
set_option maxRecDepth 100000 in
/-- X0_passEvening -/
theorem c_X0_passEvening (l : Launch) (D : va_G) (ci : Nat → ClassId) (G : Nat → Prop) (ka : Nat) (a : Nat → Nat) (S : OS) (w r nb : Nat → Int32) (hI : injA a 11) (hG : ∀ k, k < 11 → G (a k))  (hWF : WF S) : Met l yX0_passEvening wsX0_passEvening ({ frames := 3, cells := 0, slots := 0, locals := 85 } : Room) (va_Pc [.ref (a 0)] (ro_B D (tyL ci) (wO (ci 0) a S w r nb) (en D (ci 0) G ka))) (mu_Q (aO a) (some (.int (bI (chg S)))) (fun H => ∃ w r nb, va_P D vwCl (wO (ci 0) a (eveC S) w r nb) H)) 0 0 (aO a) := by
  refine mu_Met (cc := cX0_passEvening) (maxL := 4) (ret := (some .boolean)) [(0, .ref (a 0))] (wO_D hI S w r nb) (by decide) rfl (Nat.le_of_ble_eq_true rfl) rfl ?_
  intro p e s m below meth c H locs hx hb hml hr hlocks hts hown hP hK hs0 hD hS ls hl
  have hown : s.vm.findClass RX0 = some m.cls := hown
  have hinX0 : ∀ w ∈ wsX00, w ∈ wsX0_passEvening := by decide +kernel
  have hE := hE_en D (ci 0) G ka
  have f_n := hWF.n
  have hGA := aO_G hG
  refine lv_aload_n hx hb dX0_passEvening_0 rfl (lv_at hl 0 rfl) ?_
  refine va_get (D := D) (ci := 0) (v := .ref (a 6)) (C := RX0) (T := TX0) (N := 13) hx hb hts hinX0 hown hK hP 0 rfl rfl 5 (by decide) (hts (.fieldLink RX0 27 "OneShort$Orchestra" "nerve" "[I") (List.mem_of_getElem? (i := 1) rfl)) (fun _ h9 => h9) rfl dX0_passEvening_1 ?_
  refine lv_iconst (v := nI (0)) hx hb dX0_passEvening_4 (by decide) ?_
  refine lv_aload_n hx hb dX0_passEvening_5 rfl (lv_at hl 0 rfl) ?_
  refine va_get (D := D) (ci := 0) (v := .ref (a 10)) (C := RX0) (T := TX0) (N := 13) hx hb hts hinX0 hown hK hP 0 rfl rfl 12 (by decide) (hts (.fieldLink RX0 49 "OneShort$Orchestra" "nerveBefore" "[I") (List.mem_of_getElem? (i := 2) rfl)) (fun _ h9 => h9) rfl dX0_passEvening_6 ?_
  refine lv_iconst (v := nI (0)) hx hb dX0_passEvening_9 (by decide) ?_
  refine lv_bipush (v := nI (8)) hx hb dX0_passEvening_10 (by decide) ?_
  refine nv_copy hx hb (hml.trans hl.1.symm) hown (hts (.methodLink RX0 52 arraycopyName) (List.mem_of_getElem? (i := 3) rfl)) (hts (.native arraycopyName) (List.mem_of_getElem? (i := 4) rfl)) (hts (.static arraycopyName) (List.mem_of_getElem? (i := 5) rfl)) (hts (.initialized "java/lang/System") (List.mem_of_getElem? (i := 6) rfl)) hK hP hD hS 6 10 0 rfl rfl rfl (by omega) (by omega) (by decide) (by decide) (Nat.le_of_ble_eq_true rfl) (Nat.le_of_ble_eq_true rfl) dX0_passEvening_12 (fun H locs hP hD hS => ?_)
  have hP := va_P.re (rfl) hP
  have hD := va_D.re (rfl) hD
  refine lv_iconst (v := nI (0)) hx hb dX0_passEvening_15 (by decide) ?_
  refine lv_istore_n (lv' := [(1, .int (nI 0)), (0, .ref (a 0))]) hx hb dX0_passEvening_16 rfl hl (by decide) rfl (fun ls hl => ?_)
  have L17 : ∀ (k17 : Nat) (i : Nat) (w : Nat → Int32) (r : Nat → Int32), S 7 0 - i < k17 → (i ≤ S 7 0) → (∀ q, q < i → w q = nI (bWrit S q)) → (∀ q, q < i → r q = nI (reachS S q)) → ∀ (x1 : Int32), x1 = nI (i) → ∀ (H : Heap) (locs : List Loc), va_P D vwCl (wO (ci 0) a S w r (va_cpy (fun k => nI (S 5 k)) nb 0 0 8)) H → va_S (aO a) s.heap H locs → ∀ ls : Array Slot, lv_has ls 4 [(1, .int (x1)), (0, .ref (a 0))] → W p l e (headSpec wsX0_passEvening ({ frames := 3, cells := 0, slots := 0, locals := 85 } : Room)).room s m ([.ref (a 0)] : List Value).toArray below meth c H locs 0 0 (MQ below (mu_Q (aO a) (some (.int (bI (chg S)))) (fun H => ∃ w r nb, va_P D vwCl (wO (ci 0) a (eveC S) w r nb) H)) ([.ref (a 0)] : List Value).toArray s 0 0 (aO a)) (F0 m 17 ls []) := by
    intro k17
    induction k17 with
    | zero => intro i w r h0; exact absurd h0 (Nat.not_lt_zero _)
    | succ k17 ih17 =>
      intro i w r hk17 h_i h_w h_r x1 e1  H locs hP hS ls hl
      subst e1
      have hD : va_D (aO a) (wO (ci 0) a S w r (va_cpy (fun k => nI (S 5 k)) nb 0 0 8)) := wO_D hI _ _ _ _
      refine lv_iload_n hx hb dX0_passEvening_17 rfl (lv_at hl 0 rfl) ?_
      refine lv_aload_n hx hb dX0_passEvening_18 rfl (lv_at hl 1 rfl) ?_
      refine va_get (D := D) (ci := 0) (v := .int (nI (S 7 0))) (C := RX0) (T := TX0) (N := 13) hx hb hts hinX0 hown hK hP 0 rfl rfl 7 (by decide) (hts (.fieldLink RX0 33 "OneShort$Orchestra" "size" "I") (List.mem_of_getElem? (i := 7) rfl)) (fun _ h9 => h9) rfl dX0_passEvening_19 ?_
      refine nv_icmp_ge (tgt := 53) hx hb (by omega) (by omega) dX0_passEvening_22 (by decide) (fun c1 => ?_) (fun c1 => ?_)
      · refine lv_iconst (v := nI (0)) hx hb dX0_passEvening_53 (by decide) ?_
        refine lv_istore_n (lv' := [(1, .int (nI 0)), (0, .ref (a 0))]) hx hb dX0_passEvening_54 rfl hl (by decide) rfl (fun ls hl => ?_)
        have L55 : ∀ (k55 : Nat) (i : Nat), 12 - i < k55 → (i ≤ 12) → ∀ (x1 : Int32), x1 = nI (i) → ∀ (H : Heap) (locs : List Loc), va_P D vwCl (wO (ci 0) a (barTo S i) w r (va_cpy (fun k => nI (S 5 k)) nb 0 0 8)) H → va_S (aO a) s.heap H locs → ∀ ls : Array Slot, lv_has ls 4 [(1, .int (x1)), (0, .ref (a 0))] → W p l e (headSpec wsX0_passEvening ({ frames := 3, cells := 0, slots := 0, locals := 85 } : Room)).room s m ([.ref (a 0)] : List Value).toArray below meth c H locs 0 0 (MQ below (mu_Q (aO a) (some (.int (bI (chg S)))) (fun H => ∃ w r nb, va_P D vwCl (wO (ci 0) a (eveC S) w r nb) H)) ([.ref (a 0)] : List Value).toArray s 0 0 (aO a)) (F0 m 55 ls []) := by
          intro k55
          induction k55 with
          | zero => intro i h0; exact absurd h0 (Nat.not_lt_zero _)
          | succ k55 ih55 =>
            intro i hk55 h_i x1 e1  H locs hP hS ls hl
            subst e1
            have hD : va_D (aO a) (wO (ci 0) a (barTo S i) w r (va_cpy (fun k => nI (S 5 k)) nb 0 0 8)) := wO_D hI _ _ _ _
            have hWFi := WF_barTo hWF i
            have f_7 : barTo S i 7 0 = S 7 0 := barTo_ne 0 (by decide) i
            refine lv_iload_n hx hb dX0_passEvening_55 rfl (lv_at hl 0 rfl) ?_
            refine lv_bipush (v := nI (12)) hx hb dX0_passEvening_56 (by decide) ?_
            refine nv_icmp_ge (tgt := 72) hx hb (by omega) (by omega) dX0_passEvening_58 (by decide) (fun c2 => ?_) (fun c2 => ?_)
            · refine lv_iconst (v := nI (0)) hx hb dX0_passEvening_72 (by decide) ?_
              refine lv_istore_n (lv' := [(1, .int (nI 0)), (0, .ref (a 0))]) hx hb dX0_passEvening_73 rfl hl (by decide) rfl (fun ls hl => ?_)
              refine lv_iconst (v := nI (0)) hx hb dX0_passEvening_74 (by decide) ?_
              refine lv_istore_n (lv' := [(2, .int (nI 0)), (1, .int (nI 0)), (0, .ref (a 0))]) hx hb dX0_passEvening_75 rfl hl (by decide) rfl (fun ls hl => ?_)
              have L76 : ∀ (k76 : Nat) (T : OS) (i : Nat), S 7 0 - i < k76 → (T = barTo S 12) → (i ≤ S 7 0) → ∀ (x1 x2 : Int32), x1 = bI (anyTo (fun q => (T 5 q == 0 && decide (0 < S 4 q)) || T 5 q != S 5 q) (i)) → x2 = nI (i) → ∀ (H : Heap) (locs : List Loc), va_P D vwCl (wO (ci 0) a (upF T 4 (nld T) i) w r (va_cpy (fun k => nI (S 5 k)) nb 0 0 8)) H → va_S (aO a) s.heap H locs → ∀ ls : Array Slot, lv_has ls 4 [(1, .int (x1)), (2, .int (x2)), (0, .ref (a 0))] → W p l e (headSpec wsX0_passEvening ({ frames := 3, cells := 0, slots := 0, locals := 85 } : Room)).room s m ([.ref (a 0)] : List Value).toArray below meth c H locs 0 0 (MQ below (mu_Q (aO a) (some (.int (bI (chg S)))) (fun H => ∃ w r nb, va_P D vwCl (wO (ci 0) a (eveC S) w r nb) H)) ([.ref (a 0)] : List Value).toArray s 0 0 (aO a)) (F0 m 76 ls []) := by
                intro k76
                induction k76 with
                | zero => intro T i h0; exact absurd h0 (Nat.not_lt_zero _)
                | succ k76 ih76 =>
                  intro T i hk76 hT h_i x1 x2 e1 e2  H locs hP hS ls hl
                  subst e1
                  subst e2
                  have hD : va_D (aO a) (wO (ci 0) a (upF T 4 (nld T) i) w r (va_cpy (fun k => nI (S 5 k)) nb 0 0 8)) := wO_D hI _ _ _ _
                  have hWF12 : WF T := hT ▸ WF_barTo hWF 12
                  have f_7 : T 7 0 = S 7 0 := hT ▸ barTo_ne 0 (by decide) 12
                  have f_4 : T 4 i = S 4 i := hT ▸ barTo_ne i (by decide) 12
                  have f_8 : T 8 0 = S 8 0 := hT ▸ barTo_ne 0 (by decide) 12
                  have f_ev := hWF.ev
                  have f_5 := hWF.f5 i
                  refine lv_iload_n hx hb dX0_passEvening_76 rfl (lv_at hl 1 rfl) ?_
                  refine lv_aload_n hx hb dX0_passEvening_77 rfl (lv_at hl 2 rfl) ?_
                  refine va_get (D := D) (ci := 0) (v := .int (nI (T 7 0))) (C := RX0) (T := TX0) (N := 13) hx hb hts hinX0 hown hK hP 0 rfl rfl 7 (by decide) (hts (.fieldLink RX0 33 "OneShort$Orchestra" "size" "I") (List.mem_of_getElem? (i := 7) rfl)) (fun _ h9 => h9) rfl dX0_passEvening_78 ?_
                  refine nv_icmp_ge (tgt := 157) hx hb (by omega) (by omega) dX0_passEvening_81 (by decide) (fun c3 => ?_) (fun c3 => ?_)
                  · refine lv_aload_n hx hb dX0_passEvening_157 rfl (lv_at hl 2 rfl) ?_
                    refine lv_ldc (v := nI (99999)) hx hb hown (hts (.constant RX0 120 (99999)) (List.mem_of_getElem? (i := 11) rfl)) dX0_passEvening_158 ?_
                    refine lv_aload_n hx hb dX0_passEvening_160 rfl (lv_at hl 2 rfl) ?_
                    refine va_get (D := D) (ci := 0) (v := .int (nI (T 8 0))) (C := RX0) (T := TX0) (N := 13) hx hb hts hinX0 hown hK hP 0 rfl rfl 8 (by decide) (hts (.fieldLink RX0 37 "OneShort$Orchestra" "evening" "I") (List.mem_of_getElem? (i := 12) rfl)) (fun _ h9 => h9) rfl dX0_passEvening_161 ?_
                    refine lv_iconst (v := nI (1)) hx hb dX0_passEvening_164 (by decide) ?_
                    refine nv_iadd hx hb dX0_passEvening_165 ?_
                    refine va_mmin hx hb (hml.trans hl.1.symm) hown (hts (.methodLink RX0 121 Lib.Math.min.name) (List.mem_of_getElem? (i := 13) rfl)) (hts (.static Lib.Math.min.name) (List.mem_of_getElem? (i := 14) rfl)) (hts (.initialized "java/lang/Math") (List.mem_of_getElem? (i := 15) rfl)) (hts (.code Lib.Math.min.name Lib.Math.min.code 2 (some .int)) (List.mem_of_getElem? (i := 16) rfl)) (Nat.le_of_ble_eq_true rfl) (Nat.le_of_ble_eq_true rfl) (Nat.zero_le _) (Nat.zero_le _) dX0_passEvening_166 (nv_cv (nv_min (x := 99999) (y := (T 8 0 + 1)) (by omega) (by omega)) ?_)
                    refine va_put (D := D) (ci := 0) (v := .int (nI (min (99999) ((T 8 0 + 1))))) (ty := .int) (C := RX0) (T := TX0) (N := 13) hx hb hts hinX0 tyX0 tyX0_ok nmX0 hown hK hP hD hS 0 rfl rfl 8 (by decide) (hts (.fieldLink RX0 37 "OneShort$Orchestra" "evening" "I") (List.mem_of_getElem? (i := 12) rfl)) (fun _ h9 => h9) rfl (by decide +kernel) rfl rfl (Nat.le_of_ble_eq_true rfl) dX0_passEvening_169 (fun H locs hP hD hS => ?_)
                    have hP := va_P.re (wO_put8 (ci 0) a (upF T 4 (nld T) i) w r (va_cpy (fun k => nI (S 5 k)) nb 0 0 8) (min (99999) ((T 8 0 + 1)))) hP
                    have hD := va_D.re (wO_put8 (ci 0) a (upF T 4 (nld T) i) w r (va_cpy (fun k => nI (S 5 k)) nb 0 0 8) (min (99999) ((T 8 0 + 1)))) hD
                    refine lv_iload_n hx hb dX0_passEvening_172 rfl (lv_at hl 0 rfl) ?_
                    refine nv_cv (show bI (anyTo (fun q => (T 5 q == 0 && decide (0 < S 4 q)) || T 5 q != S 5 q) (i)) = bI (chg S) from by rw [chg, ← hT, show S 7 0 = i by omega]) ?_
                    exact mu_zret hx hb hr hlocks hS (⟨_, _, _, (va_P.re (by rw [eveC, evB, ← hT, show S 7 0 = i by omega, show S 8 0 = T 8 0 from f_8.symm]) hP)⟩) dX0_passEvening_173
                  · refine lv_aload_n hx hb dX0_passEvening_84 rfl (lv_at hl 2 rfl) ?_
                    refine va_get (D := D) (ci := 0) (v := .ref (a 6)) (C := RX0) (T := TX0) (N := 13) hx hb hts hinX0 hown hK hP 0 rfl rfl 5 (by decide) (hts (.fieldLink RX0 27 "OneShort$Orchestra" "nerve" "[I") (List.mem_of_getElem? (i := 1) rfl)) (fun _ h9 => h9) rfl dX0_passEvening_85 ?_
                    refine lv_iload_n hx hb dX0_passEvening_88 rfl (lv_at hl 1 rfl) ?_
                    have f4 := hWF12.f5 (i)
                    refine nv_iald (v := nI (T 5 (i))) hx hb hK hP 6 0 rfl rfl (by omega) (by decide) rfl dX0_passEvening_89 ?_
                    refine nv_ifne (tgt := 106) hx hb (by omega) dX0_passEvening_90 (by decide) (fun c5 => ?_) (fun c5 => ?_)
                    · refine lv_iconst (v := nI (0)) hx hb dX0_passEvening_106 (by decide) ?_
                      refine lv_istore_n (lv' := [(3, .int (nI 0)), (1, .int (bI (anyTo (fun q => (T 5 q == 0 && decide (0 < S 4 q)) || T 5 q != S 5 q) (i)))), (2, .int (nI i)), (0, .ref (a 0))]) hx hb dX0_passEvening_107 rfl hl (by decide) rfl (fun ls hl => ?_)
                      refine lv_iload_n hx hb dX0_passEvening_108 rfl (lv_at hl 0 rfl) ?_
                      refine lv_if_eq (tgt := 122) hx hb dX0_passEvening_109 (by decide) (fun _ => ?_) (fun h => absurd (by decide) h)
                      refine lv_iload_n hx hb dX0_passEvening_122 rfl (lv_at hl 1 rfl) ?_
                      refine nv_ifne_b (tgt := 145) hx hb dX0_passEvening_123 (by decide) (fun c7 => ?_) (fun c7 => ?_)
                      · refine lv_iconst (v := nI (1)) hx hb dX0_passEvening_145 (by decide) ?_
                        refine lv_goto (tgt := 150) hx hb dX0_passEvening_146 (by decide) ?_
                        refine lv_istore_n (lv' := [(1, .int (nI 1)), (3, .int (nI 0)), (2, .int (nI i)), (0, .ref (a 0))]) hx hb dX0_passEvening_150 rfl hl (by decide) rfl (fun ls hl => ?_)
                        refine nv_iinc1 (lv' := [(2, .int (nI (i + 1))), (1, .int (nI 1)), (3, .int (nI 0)), (0, .ref (a 0))]) hx hb dX0_passEvening_151 hl (k := 2) rfl (by decide) rfl (fun ls hl => ?_)
                        refine lv_goto (tgt := 76) hx hb dX0_passEvening_154 (by decide) ?_
                        exact ih76 (T) (i + 1) (by omega) hT (by omega) (nI (1)) (nI (i + 1)) (by first | exact nv_t (any_t1 c7) | exact nv_t (any_t1 c5) | exact nv_t (any_t2 (by first | (simp [c7]; done) | (simp [c5, c7]; done))) | exact nv_f (any_f (by assumption) (or_ff (by first | (simp [c5]; done) | (simp [c7]; done)) (by simp [c7])))) rfl _ _ (va_P.re (by exact congrArg (fun z => wO (ci 0) a z w r (va_cpy (fun k => nI (S 5 k)) nb 0 0 8)) (by first | exact upF_st (by rw [nld, if_pos c5, f_4]) | exact upF_skip (by rw [nld, if_neg c5]) | exact upF_skip (by rw [nld, if_pos c5, f_4]; omega))) hP) hS ls (lv_sub hl [1, 0, 3] rfl)
                      · refine lv_iload_n hx hb dX0_passEvening_126 rfl (lv_at hl 0 rfl) ?_
                        refine lv_if_ne (tgt := 145) hx hb dX0_passEvening_127 (by decide) (fun h => absurd (by decide) h) (fun _ => ?_)
                        refine lv_aload_n hx hb dX0_passEvening_130 rfl (lv_at hl 3 rfl) ?_
                        refine va_get (D := D) (ci := 0) (v := .ref (a 6)) (C := RX0) (T := TX0) (N := 13) hx hb hts hinX0 hown hK hP 0 rfl rfl 5 (by decide) (hts (.fieldLink RX0 27 "OneShort$Orchestra" "nerve" "[I") (List.mem_of_getElem? (i := 1) rfl)) (fun _ h9 => h9) rfl dX0_passEvening_131 ?_
                        refine lv_iload_n hx hb dX0_passEvening_134 rfl (lv_at hl 2 rfl) ?_
                        have f9 := hWF12.f5 (i)
                        refine nv_iald (v := nI (T 5 (i))) hx hb hK hP 6 0 rfl rfl (by omega) (by decide) rfl dX0_passEvening_135 ?_
                        refine lv_aload_n hx hb dX0_passEvening_136 rfl (lv_at hl 3 rfl) ?_
                        refine va_get (D := D) (ci := 0) (v := .ref (a 10)) (C := RX0) (T := TX0) (N := 13) hx hb hts hinX0 hown hK hP 0 rfl rfl 12 (by decide) (hts (.fieldLink RX0 49 "OneShort$Orchestra" "nerveBefore" "[I") (List.mem_of_getElem? (i := 2) rfl)) (fun _ h9 => h9) rfl dX0_passEvening_137 ?_
                        refine lv_iload_n hx hb dX0_passEvening_140 rfl (lv_at hl 2 rfl) ?_
                        refine nv_iald (v := nI (S 5 (i))) hx hb hK hP 10 0 rfl rfl (by omega) (by decide) (cpy_nb (by omega)) dX0_passEvening_141 ?_
                        refine nv_icmp_eq (tgt := 149) hx hb (by omega) (by omega) dX0_passEvening_142 (by decide) (fun c10 => ?_) (fun c10 => ?_)
                        · refine lv_iconst (v := nI (0)) hx hb dX0_passEvening_149 (by decide) ?_
                          refine lv_istore_n (lv' := [(1, .int (nI 0)), (3, .int (nI 0)), (2, .int (nI i)), (0, .ref (a 0))]) hx hb dX0_passEvening_150 rfl hl (by decide) rfl (fun ls hl => ?_)
                          refine nv_iinc1 (lv' := [(2, .int (nI (i + 1))), (1, .int (nI 0)), (3, .int (nI 0)), (0, .ref (a 0))]) hx hb dX0_passEvening_151 hl (k := 2) rfl (by decide) rfl (fun ls hl => ?_)
                          refine lv_goto (tgt := 76) hx hb dX0_passEvening_154 (by decide) ?_
                          exact ih76 (T) (i + 1) (by omega) hT (by omega) (nI (0)) (nI (i + 1)) (by first | exact nv_t (any_t1 c10) | exact nv_t (any_t1 c7) | exact nv_t (any_t2 (by first | (simp [c10]; done) | (simp [c5, c7]; done))) | exact nv_f (any_f (by assumption) (or_ff (by first | (simp [c5]; done) | (simp [c7]; done)) (by simp [c10])))) rfl _ _ (va_P.re (by exact congrArg (fun z => wO (ci 0) a z w r (va_cpy (fun k => nI (S 5 k)) nb 0 0 8)) (by first | exact upF_st (by rw [nld, if_pos c5, f_4]) | exact upF_skip (by rw [nld, if_neg c5]) | exact upF_skip (by rw [nld, if_pos c5, f_4]; omega))) hP) hS ls (lv_sub hl [1, 0, 3] rfl)
                        · refine lv_iconst (v := nI (1)) hx hb dX0_passEvening_145 (by decide) ?_
                          refine lv_goto (tgt := 150) hx hb dX0_passEvening_146 (by decide) ?_
                          refine lv_istore_n (lv' := [(1, .int (nI 1)), (3, .int (nI 0)), (2, .int (nI i)), (0, .ref (a 0))]) hx hb dX0_passEvening_150 rfl hl (by decide) rfl (fun ls hl => ?_)
                          refine nv_iinc1 (lv' := [(2, .int (nI (i + 1))), (1, .int (nI 1)), (3, .int (nI 0)), (0, .ref (a 0))]) hx hb dX0_passEvening_151 hl (k := 2) rfl (by decide) rfl (fun ls hl => ?_)
                          refine lv_goto (tgt := 76) hx hb dX0_passEvening_154 (by decide) ?_
                          exact ih76 (T) (i + 1) (by omega) hT (by omega) (nI (1)) (nI (i + 1)) (by first | exact nv_t (any_t1 c10) | exact nv_t (any_t1 c7) | exact nv_t (any_t2 (by first | (simp [c10]; done) | (simp [c5, c7]; done))) | exact nv_f (any_f (by assumption) (or_ff (by first | (simp [c5]; done) | (simp [c7]; done)) (by simp [c10])))) rfl _ _ (va_P.re (by exact congrArg (fun z => wO (ci 0) a z w r (va_cpy (fun k => nI (S 5 k)) nb 0 0 8)) (by first | exact upF_st (by rw [nld, if_pos c5, f_4]) | exact upF_skip (by rw [nld, if_neg c5]) | exact upF_skip (by rw [nld, if_pos c5, f_4]; omega))) hP) hS ls (lv_sub hl [1, 0, 3] rfl)
                    · refine lv_aload_n hx hb dX0_passEvening_93 rfl (lv_at hl 2 rfl) ?_
                      refine va_get (D := D) (ci := 0) (v := .ref (a 5)) (C := RX0) (T := TX0) (N := 13) hx hb hts hinX0 hown hK hP 0 rfl rfl 4 (by decide) (hts (.fieldLink RX0 24 "OneShort$Orchestra" "loud" "[I") (List.mem_of_getElem? (i := 10) rfl)) (fun _ h9 => h9) rfl dX0_passEvening_94 ?_
                      refine lv_iload_n hx hb dX0_passEvening_97 rfl (lv_at hl 1 rfl) ?_
                      have f11 := hWF12.f4 (i)
                      refine nv_iald (v := nI (S 4 (i))) hx hb hK hP 5 0 rfl rfl (by omega) (by decide) (congrArg nI ((upF_at _ _ _ _).trans f_4)) dX0_passEvening_98 ?_
                      refine nv_ifle (tgt := 106) hx hb (by omega) dX0_passEvening_99 (by decide) (fun c12 => ?_) (fun c12 => ?_)
                      · refine lv_iconst (v := nI (0)) hx hb dX0_passEvening_106 (by decide) ?_
                        refine lv_istore_n (lv' := [(3, .int (nI 0)), (1, .int (bI (anyTo (fun q => (T 5 q == 0 && decide (0 < S 4 q)) || T 5 q != S 5 q) (i)))), (2, .int (nI i)), (0, .ref (a 0))]) hx hb dX0_passEvening_107 rfl hl (by decide) rfl (fun ls hl => ?_)
                        refine lv_iload_n hx hb dX0_passEvening_108 rfl (lv_at hl 0 rfl) ?_
                        refine lv_if_eq (tgt := 122) hx hb dX0_passEvening_109 (by decide) (fun _ => ?_) (fun h => absurd (by decide) h)
                        refine lv_iload_n hx hb dX0_passEvening_122 rfl (lv_at hl 1 rfl) ?_
                        refine nv_ifne_b (tgt := 145) hx hb dX0_passEvening_123 (by decide) (fun c14 => ?_) (fun c14 => ?_)
                        · refine lv_iconst (v := nI (1)) hx hb dX0_passEvening_145 (by decide) ?_
                          refine lv_goto (tgt := 150) hx hb dX0_passEvening_146 (by decide) ?_
                          refine lv_istore_n (lv' := [(1, .int (nI 1)), (3, .int (nI 0)), (2, .int (nI i)), (0, .ref (a 0))]) hx hb dX0_passEvening_150 rfl hl (by decide) rfl (fun ls hl => ?_)
                          refine nv_iinc1 (lv' := [(2, .int (nI (i + 1))), (1, .int (nI 1)), (3, .int (nI 0)), (0, .ref (a 0))]) hx hb dX0_passEvening_151 hl (k := 2) rfl (by decide) rfl (fun ls hl => ?_)
                          refine lv_goto (tgt := 76) hx hb dX0_passEvening_154 (by decide) ?_
                          exact ih76 (T) (i + 1) (by omega) hT (by omega) (nI (1)) (nI (i + 1)) (by first | exact nv_t (any_t1 c14) | exact nv_t (any_t1 c12) | exact nv_t (any_t2 (by first | (simp [c14]; done) | (simp [c5, c12]; done))) | exact nv_f (any_f (by assumption) (or_ff (by first | (simp [c5]; done) | (simp [c12]; done)) (by simp [c14])))) rfl _ _ (va_P.re (by exact congrArg (fun z => wO (ci 0) a z w r (va_cpy (fun k => nI (S 5 k)) nb 0 0 8)) (by first | exact upF_st (by rw [nld, if_pos c5, f_4]) | exact upF_skip (by rw [nld, if_neg c5]) | exact upF_skip (by rw [nld, if_pos c5, f_4]; omega))) hP) hS ls (lv_sub hl [1, 0, 3] rfl)
                        · refine lv_iload_n hx hb dX0_passEvening_126 rfl (lv_at hl 0 rfl) ?_
                          refine lv_if_ne (tgt := 145) hx hb dX0_passEvening_127 (by decide) (fun h => absurd (by decide) h) (fun _ => ?_)
                          refine lv_aload_n hx hb dX0_passEvening_130 rfl (lv_at hl 3 rfl) ?_
                          refine va_get (D := D) (ci := 0) (v := .ref (a 6)) (C := RX0) (T := TX0) (N := 13) hx hb hts hinX0 hown hK hP 0 rfl rfl 5 (by decide) (hts (.fieldLink RX0 27 "OneShort$Orchestra" "nerve" "[I") (List.mem_of_getElem? (i := 1) rfl)) (fun _ h9 => h9) rfl dX0_passEvening_131 ?_
                          refine lv_iload_n hx hb dX0_passEvening_134 rfl (lv_at hl 2 rfl) ?_
                          have f16 := hWF12.f5 (i)
                          refine nv_iald (v := nI (T 5 (i))) hx hb hK hP 6 0 rfl rfl (by omega) (by decide) rfl dX0_passEvening_135 ?_
                          refine lv_aload_n hx hb dX0_passEvening_136 rfl (lv_at hl 3 rfl) ?_
                          refine va_get (D := D) (ci := 0) (v := .ref (a 10)) (C := RX0) (T := TX0) (N := 13) hx hb hts hinX0 hown hK hP 0 rfl rfl 12 (by decide) (hts (.fieldLink RX0 49 "OneShort$Orchestra" "nerveBefore" "[I") (List.mem_of_getElem? (i := 2) rfl)) (fun _ h9 => h9) rfl dX0_passEvening_137 ?_
                          refine lv_iload_n hx hb dX0_passEvening_140 rfl (lv_at hl 2 rfl) ?_
                          refine nv_iald (v := nI (S 5 (i))) hx hb hK hP 10 0 rfl rfl (by omega) (by decide) (cpy_nb (by omega)) dX0_passEvening_141 ?_
                          refine nv_icmp_eq (tgt := 149) hx hb (by omega) (by omega) dX0_passEvening_142 (by decide) (fun c17 => ?_) (fun c17 => ?_)
                          · refine lv_iconst (v := nI (0)) hx hb dX0_passEvening_149 (by decide) ?_
                            refine lv_istore_n (lv' := [(1, .int (nI 0)), (3, .int (nI 0)), (2, .int (nI i)), (0, .ref (a 0))]) hx hb dX0_passEvening_150 rfl hl (by decide) rfl (fun ls hl => ?_)
                            refine nv_iinc1 (lv' := [(2, .int (nI (i + 1))), (1, .int (nI 0)), (3, .int (nI 0)), (0, .ref (a 0))]) hx hb dX0_passEvening_151 hl (k := 2) rfl (by decide) rfl (fun ls hl => ?_)
                            refine lv_goto (tgt := 76) hx hb dX0_passEvening_154 (by decide) ?_
                            exact ih76 (T) (i + 1) (by omega) hT (by omega) (nI (0)) (nI (i + 1)) (by first | exact nv_t (any_t1 c17) | exact nv_t (any_t1 c14) | exact nv_t (any_t2 (by first | (simp [c17]; done) | (simp [c5, c12]; done))) | exact nv_f (any_f (by assumption) (or_ff (by first | (simp [c5]; done) | (simp [c12]; done)) (by simp [c17])))) rfl _ _ (va_P.re (by exact congrArg (fun z => wO (ci 0) a z w r (va_cpy (fun k => nI (S 5 k)) nb 0 0 8)) (by first | exact upF_st (by rw [nld, if_pos c5, f_4]) | exact upF_skip (by rw [nld, if_neg c5]) | exact upF_skip (by rw [nld, if_pos c5, f_4]; omega))) hP) hS ls (lv_sub hl [1, 0, 3] rfl)
                          · refine lv_iconst (v := nI (1)) hx hb dX0_passEvening_145 (by decide) ?_
                            refine lv_goto (tgt := 150) hx hb dX0_passEvening_146 (by decide) ?_
                            refine lv_istore_n (lv' := [(1, .int (nI 1)), (3, .int (nI 0)), (2, .int (nI i)), (0, .ref (a 0))]) hx hb dX0_passEvening_150 rfl hl (by decide) rfl (fun ls hl => ?_)
                            refine nv_iinc1 (lv' := [(2, .int (nI (i + 1))), (1, .int (nI 1)), (3, .int (nI 0)), (0, .ref (a 0))]) hx hb dX0_passEvening_151 hl (k := 2) rfl (by decide) rfl (fun ls hl => ?_)
                            refine lv_goto (tgt := 76) hx hb dX0_passEvening_154 (by decide) ?_
                            exact ih76 (T) (i + 1) (by omega) hT (by omega) (nI (1)) (nI (i + 1)) (by first | exact nv_t (any_t1 c17) | exact nv_t (any_t1 c14) | exact nv_t (any_t2 (by first | (simp [c17]; done) | (simp [c5, c12]; done))) | exact nv_f (any_f (by assumption) (or_ff (by first | (simp [c5]; done) | (simp [c12]; done)) (by simp [c17])))) rfl _ _ (va_P.re (by exact congrArg (fun z => wO (ci 0) a z w r (va_cpy (fun k => nI (S 5 k)) nb 0 0 8)) (by first | exact upF_st (by rw [nld, if_pos c5, f_4]) | exact upF_skip (by rw [nld, if_neg c5]) | exact upF_skip (by rw [nld, if_pos c5, f_4]; omega))) hP) hS ls (lv_sub hl [1, 0, 3] rfl)
                      · refine lv_iconst (v := nI (1)) hx hb dX0_passEvening_102 (by decide) ?_
                        refine lv_goto (tgt := 107) hx hb dX0_passEvening_103 (by decide) ?_
                        refine lv_istore_n (lv' := [(3, .int (nI 1)), (1, .int (bI (anyTo (fun q => (T 5 q == 0 && decide (0 < S 4 q)) || T 5 q != S 5 q) (i)))), (2, .int (nI i)), (0, .ref (a 0))]) hx hb dX0_passEvening_107 rfl hl (by decide) rfl (fun ls hl => ?_)
                        refine lv_iload_n hx hb dX0_passEvening_108 rfl (lv_at hl 0 rfl) ?_
                        refine lv_if_eq (tgt := 122) hx hb dX0_passEvening_109 (by decide) (fun h => absurd h (by decide)) (fun _ => ?_)
                        refine lv_aload_n hx hb dX0_passEvening_112 rfl (lv_at hl 3 rfl) ?_
                        refine va_get (D := D) (ci := 0) (v := .ref (a 5)) (C := RX0) (T := TX0) (N := 13) hx hb hts hinX0 hown hK hP 0 rfl rfl 4 (by decide) (hts (.fieldLink RX0 24 "OneShort$Orchestra" "loud" "[I") (List.mem_of_getElem? (i := 10) rfl)) (fun _ h9 => h9) rfl dX0_passEvening_113 ?_
                        refine lv_iload_n hx hb dX0_passEvening_116 rfl (lv_at hl 2 rfl) ?_
                        refine lv_dup2_11 hx hb dX0_passEvening_117 rfl rfl ?_
                        have f19 := hWF12.f4 (i)
                        refine nv_iald (v := nI (S 4 (i))) hx hb hK hP 5 0 rfl rfl (by omega) (by decide) (congrArg nI ((upF_at _ _ _ _).trans f_4)) dX0_passEvening_118 ?_
                        refine lv_iconst (v := nI (1)) hx hb dX0_passEvening_119 (by decide) ?_
                        refine nv_isub hx hb (by omega) dX0_passEvening_120 ?_
                        refine nv_iast hx hb hK hP hD hS 5 0 rfl rfl (by omega) (by decide) dX0_passEvening_121 (fun H locs hP hD hS => ?_)
                        have hP := va_P.re (wO_ast4 (ci 0) a (upF T 4 (nld T) i) w r (va_cpy (fun k => nI (S 5 k)) nb 0 0 8) (i) ((S 4 (i) - 1))) hP
                        have hD := va_D.re (wO_ast4 (ci 0) a (upF T 4 (nld T) i) w r (va_cpy (fun k => nI (S 5 k)) nb 0 0 8) (i) ((S 4 (i) - 1))) hD
                        refine lv_iload_n hx hb dX0_passEvening_122 rfl (lv_at hl 1 rfl) ?_
                        refine nv_ifne_b (tgt := 145) hx hb dX0_passEvening_123 (by decide) (fun c20 => ?_) (fun c20 => ?_)
                        · refine lv_iconst (v := nI (1)) hx hb dX0_passEvening_145 (by decide) ?_
                          refine lv_goto (tgt := 150) hx hb dX0_passEvening_146 (by decide) ?_
                          refine lv_istore_n (lv' := [(1, .int (nI 1)), (3, .int (nI 1)), (2, .int (nI i)), (0, .ref (a 0))]) hx hb dX0_passEvening_150 rfl hl (by decide) rfl (fun ls hl => ?_)
                          refine nv_iinc1 (lv' := [(2, .int (nI (i + 1))), (1, .int (nI 1)), (3, .int (nI 1)), (0, .ref (a 0))]) hx hb dX0_passEvening_151 hl (k := 2) rfl (by decide) rfl (fun ls hl => ?_)
                          refine lv_goto (tgt := 76) hx hb dX0_passEvening_154 (by decide) ?_
                          exact ih76 (T) (i + 1) (by omega) hT (by omega) (nI (1)) (nI (i + 1)) (by first | exact nv_t (any_t1 c20) | exact nv_t (any_t1 c12) | exact nv_t (any_t2 (by first | (simp [c20]; done) | (simp [c5, c12]; done))) | exact nv_f (any_f (by assumption) (or_ff (by first | (simp [c5]; done) | (simp [c12]; done)) (by simp [c20])))) rfl _ _ (va_P.re (by exact congrArg (fun z => wO (ci 0) a z w r (va_cpy (fun k => nI (S 5 k)) nb 0 0 8)) (by first | exact upF_st (by rw [nld, if_pos c5, f_4]) | exact upF_skip (by rw [nld, if_neg c5]) | exact upF_skip (by rw [nld, if_pos c5, f_4]; omega))) hP) hS ls (lv_sub hl [1, 0, 3] rfl)
                        · refine lv_iload_n hx hb dX0_passEvening_126 rfl (lv_at hl 0 rfl) ?_
                          refine lv_if_ne (tgt := 145) hx hb dX0_passEvening_127 (by decide) (fun _ => ?_) (fun h => absurd h (by decide))
                          refine lv_iconst (v := nI (1)) hx hb dX0_passEvening_145 (by decide) ?_
                          refine lv_goto (tgt := 150) hx hb dX0_passEvening_146 (by decide) ?_
                          refine lv_istore_n (lv' := [(1, .int (nI 1)), (3, .int (nI 1)), (2, .int (nI i)), (0, .ref (a 0))]) hx hb dX0_passEvening_150 rfl hl (by decide) rfl (fun ls hl => ?_)
                          refine nv_iinc1 (lv' := [(2, .int (nI (i + 1))), (1, .int (nI 1)), (3, .int (nI 1)), (0, .ref (a 0))]) hx hb dX0_passEvening_151 hl (k := 2) rfl (by decide) rfl (fun ls hl => ?_)
                          refine lv_goto (tgt := 76) hx hb dX0_passEvening_154 (by decide) ?_
                          exact ih76 (T) (i + 1) (by omega) hT (by omega) (nI (1)) (nI (i + 1)) (by first | exact nv_t (any_t1 c20) | exact nv_t (any_t1 c12) | exact nv_t (any_t2 (by first | (simp [c20]; done) | (simp [c5, c12]; done))) | exact nv_f (any_f (by assumption) (or_ff (by first | (simp [c5]; done) | (simp [c12]; done)) (by simp [c20])))) rfl _ _ (va_P.re (by exact congrArg (fun z => wO (ci 0) a z w r (va_cpy (fun k => nI (S 5 k)) nb 0 0 8)) (by first | exact upF_st (by rw [nld, if_pos c5, f_4]) | exact upF_skip (by rw [nld, if_neg c5]) | exact upF_skip (by rw [nld, if_pos c5, f_4]; omega))) hP) hS ls (lv_sub hl [1, 0, 3] rfl)
              exact L76 _ (barTo S 12) (0) (Nat.lt_succ_self _) rfl (by omega) (nI (0)) (nI (0)) rfl rfl _ _ (va_P.re (by rw [show i = 12 by omega]; exact congrArg (fun z => wO (ci 0) a z w r (va_cpy (fun k => nI (S 5 k)) nb 0 0 8)) (upF_0 (barTo S 12) 4 (nld (barTo S 12))).symm) hP) hS ls (lv_sub hl [1, 0, 2] rfl)
            · refine lv_aload_n hx hb dX0_passEvening_61 rfl (lv_at hl 1 rfl) ?_
              refine lv_iload_n hx hb dX0_passEvening_62 rfl (lv_at hl 0 rfl) ?_
              refine mu_V (n := 1) (As := [.int (nI i)]) (rest := []) ⟨hx, hb, hml, hown, hts⟩ (c_X0_passBar l D ci G ka a (barTo S i) w r (va_cpy (fun k => nI (S 5 k)) nb 0 0 8) hI hG (i) hWFi (by omega) (fun q hq => by rw [f_7] at hq; rw [bWrit_cong (fun a b h => barTo_ne b h i)]; exact h_w q (by omega)) (fun q hq => by rw [f_7] at hq; rw [reachS_cong (fun a b h => barTo_ne b h i)]; exact h_r q (by omega))) gX0_passEvening_X0_passBar rfl ⟨rfl, rfl⟩ (by decide +kernel) rfl ⟨Nat.le_of_ble_eq_true rfl, Nat.le_of_ble_eq_true rfl⟩ hE (en_S hGA hs0 hS) hK hP (ci := 0) (q0 := 0) rfl rfl hl.1 rfl (Nat.le_of_ble_eq_true rfl) dX0_passEvening_63 ⟨Nat.zero_le _, Nat.zero_le _⟩ hS (fun _ h => h) (fun H1 locs hz hfr hB hS => ?_)
              have hP := hB
              generalize H1 = H at hP hS ⊢
              have hD : va_D (aO a) (wO (ci 0) a (barS (barTo S i) (i)) w r (va_cpy (fun k => nI (S 5 k)) nb 0 0 8)) := wO_D hI _ _ _ _
              refine nv_iinc1 (lv' := [(1, .int (nI (i + 1))), (0, .ref (a 0))]) hx hb dX0_passEvening_66 hl (k := 0) rfl (by decide) rfl (fun ls hl => ?_)
              refine lv_goto (tgt := 55) hx hb dX0_passEvening_69 (by decide) ?_
              exact ih55 (i + 1) (by omega) (by omega) (nI (i + 1)) rfl _ _ (va_P.re (by rfl) hP) hS ls (lv_sub hl [0, 1] rfl)
        exact L55 _ (0) (Nat.lt_succ_self _) (by omega) (nI (0)) rfl _ _ (va_P.re (by rfl) hP) hS ls (lv_sub hl [0, 1] rfl)
      · refine lv_aload_n hx hb dX0_passEvening_25 rfl (lv_at hl 1 rfl) ?_
        refine va_get (D := D) (ci := 0) (v := .ref (a 8)) (C := RX0) (T := TX0) (N := 13) hx hb hts hinX0 hown hK hP 0 rfl rfl 10 (by decide) (hts (.fieldLink RX0 43 "OneShort$Orchestra" "written" "[I") (List.mem_of_getElem? (i := 8) rfl)) (fun _ h9 => h9) rfl dX0_passEvening_26 ?_
        refine lv_iload_n hx hb dX0_passEvening_29 rfl (lv_at hl 0 rfl) ?_
        refine lv_aload_n hx hb dX0_passEvening_30 rfl (lv_at hl 1 rfl) ?_
        refine lv_iload_n hx hb dX0_passEvening_31 rfl (lv_at hl 0 rfl) ?_
        refine ro_V (n := 1) (As := [.int (nI i)]) (rest := [.int (nI i), .ref (a 8)]) ⟨hx, hb, hml, hown, hts⟩ (c_X0_barsWritten l D ci G ka a S w r (va_cpy (fun k => nI (S 5 k)) nb 0 0 8) (i) hWF (by omega)) gX0_passEvening_X0_barsWritten rfl ⟨rfl, rfl⟩ (by decide +kernel) rfl ⟨Nat.le_of_ble_eq_true rfl, Nat.le_of_ble_eq_true rfl⟩ hE (en_S hGA hs0 hS) hK hP (ci := 0) (q0 := 0) rfl rfl hl.1 rfl (Nat.le_of_ble_eq_true rfl) dX0_passEvening_32 ⟨Nat.zero_le _, Nat.zero_le _⟩ ?_
        refine nv_iast hx hb hK hP hD hS 8 0 rfl rfl (by omega) (by decide) dX0_passEvening_35 (fun H locs hP hD hS => ?_)
        have hP := va_P.re (wO_ast7 (ci 0) a S w r (va_cpy (fun k => nI (S 5 k)) nb 0 0 8) (i) (nI (bWrit S (i)))) hP
        have hD := va_D.re (wO_ast7 (ci 0) a S w r (va_cpy (fun k => nI (S 5 k)) nb 0 0 8) (i) (nI (bWrit S (i)))) hD
        refine lv_aload_n hx hb dX0_passEvening_36 rfl (lv_at hl 1 rfl) ?_
        refine va_get (D := D) (ci := 0) (v := .ref (a 9)) (C := RX0) (T := TX0) (N := 13) hx hb hts hinX0 hown hK hP 0 rfl rfl 11 (by decide) (hts (.fieldLink RX0 46 "OneShort$Orchestra" "reach" "[I") (List.mem_of_getElem? (i := 9) rfl)) (fun _ h9 => h9) rfl dX0_passEvening_37 ?_
        refine lv_iload_n hx hb dX0_passEvening_40 rfl (lv_at hl 0 rfl) ?_
        refine lv_aload_n hx hb dX0_passEvening_41 rfl (lv_at hl 1 rfl) ?_
        refine lv_iload_n hx hb dX0_passEvening_42 rfl (lv_at hl 0 rfl) ?_
        refine ro_V (n := 1) (As := [.int (nI i)]) (rest := [.int (nI i), .ref (a 9)]) ⟨hx, hb, hml, hown, hts⟩ (c_X0_reaching l D ci G ka a S (upd w (i) (nI (bWrit S (i)))) r (va_cpy (fun k => nI (S 5 k)) nb 0 0 8) (i) hWF (by omega)) gX0_passEvening_X0_reaching rfl ⟨rfl, rfl⟩ (by decide +kernel) rfl ⟨Nat.le_of_ble_eq_true rfl, Nat.le_of_ble_eq_true rfl⟩ hE (en_S hGA hs0 hS) hK hP (ci := 0) (q0 := 0) rfl rfl hl.1 rfl (Nat.le_of_ble_eq_true rfl) dX0_passEvening_43 ⟨Nat.zero_le _, Nat.zero_le _⟩ ?_
        have f22 := reachS_lt hWF ((i))
        refine nv_iast hx hb hK hP hD hS 9 0 rfl rfl (by omega) (by decide) dX0_passEvening_46 (fun H locs hP hD hS => ?_)
        have hP := va_P.re (wO_ast8 (ci 0) a S (upd w (i) (nI (bWrit S (i)))) r (va_cpy (fun k => nI (S 5 k)) nb 0 0 8) (i) (nI (reachS S (i)))) hP
        have hD := va_D.re (wO_ast8 (ci 0) a S (upd w (i) (nI (bWrit S (i)))) r (va_cpy (fun k => nI (S 5 k)) nb 0 0 8) (i) (nI (reachS S (i)))) hD
        refine nv_iinc1 (lv' := [(1, .int (nI (i + 1))), (0, .ref (a 0))]) hx hb dX0_passEvening_47 hl (k := 0) rfl (by decide) rfl (fun ls hl => ?_)
        refine lv_goto (tgt := 17) hx hb dX0_passEvening_50 (by decide) ?_
        exact ih17 (i + 1) (upd w (i) (nI (bWrit S (i)))) (upd r (i) (nI (reachS S (i)))) (by omega) (by omega) (upd_all h_w rfl) (upd_all h_r rfl) (nI (i + 1)) rfl _ _ hP hS ls (lv_sub hl [0, 1] rfl)
  exact L17 _ (0) (w) (r) (Nat.lt_succ_self _) (by omega) (fun _ h => absurd h (Nat.not_lt_zero _)) (fun _ h => absurd h (Nat.not_lt_zero _)) (nI (0)) rfl _ _ hP hS ls (lv_sub hl [0, 1] rfl)

set_option maxHeartbeats 4000000 in
set_option maxRecDepth 100000 in
/-- X0_passEvenings -/
theorem c_X0_passEvenings (l : Launch) (D : va_G) (ci : Nat → ClassId) (G : Nat → Prop) (ka : Nat) (a : Nat → Nat) (S : OS) (w r nb : Nat → Int32) (hI : injA a 11) (hG : ∀ k, k < 11 → G (a k)) (k : Nat) (hWF : WF S) (h_k : k ≤ 40) : Met l yX0_passEvenings wsX0_passEvenings ({ frames := 4, cells := 0, slots := 0, locals := 108 } : Room) (va_Pc [.ref (a 0), .int (nI k)] (ro_B D (tyL ci) (wO (ci 0) a S w r nb) (en D (ci 0) G ka))) (mu_Q (aO a) (none) (fun H => ∃ w r nb, va_P D vwCl (wO (ci 0) a (evCn S k) w r nb) H)) 0 0 (aO a) := by
  refine mu_Met (cc := cX0_passEvenings) (maxL := 3) (ret := none) [(0, .ref (a 0)), (1, .int (nI k))] (wO_D hI S w r nb) (by decide) rfl (Nat.le_of_ble_eq_true rfl) rfl ?_
  intro p e s m below meth c H locs hx hb hml hr hlocks hts hown hP hK hs0 hD hS ls hl
  have hown : s.vm.findClass RX0 = some m.cls := hown
  have hE := hE_en D (ci 0) G ka
  have f_n := hWF.n
  have hGA := aO_G hG
  refine lv_iconst (v := nI (0)) hx hb dX0_passEvenings_0 (by decide) ?_
  refine lv_istore_n (lv' := [(2, .int (nI 0)), (0, .ref (a 0)), (1, .int (nI k))]) hx hb dX0_passEvenings_1 rfl hl (by decide) rfl (fun ls hl => ?_)
  have L2 : ∀ (k2 : Nat) (i : Nat) (w : Nat → Int32) (r : Nat → Int32) (nb : Nat → Int32), k - i < k2 → (i ≤ k) → ∀ (x2 : Int32), x2 = nI (i) → ∀ (H : Heap) (locs : List Loc), va_P D vwCl (wO (ci 0) a (evCn S i) w r nb) H → va_S (aO a) s.heap H locs → ∀ ls : Array Slot, lv_has ls 3 [(2, .int (x2)), (0, .ref (a 0)), (1, .int (nI k))] → W p l e (headSpec wsX0_passEvenings ({ frames := 4, cells := 0, slots := 0, locals := 108 } : Room)).room s m ([.ref (a 0), .int (nI k)] : List Value).toArray below meth c H locs 0 0 (MQ below (mu_Q (aO a) (none) (fun H => ∃ w r nb, va_P D vwCl (wO (ci 0) a (evCn S k) w r nb) H)) ([.ref (a 0), .int (nI k)] : List Value).toArray s 0 0 (aO a)) (F0 m 2 ls []) := by
    intro k2
    induction k2 with
    | zero => intro i w r nb h0; exact absurd h0 (Nat.not_lt_zero _)
    | succ k2 ih2 =>
      intro i w r nb hk2 h_i x2 e2  H locs hP hS ls hl
      subst e2
      have hD : va_D (aO a) (wO (ci 0) a (evCn S i) w r nb) := wO_D hI _ _ _ _
      have hWFi := WF_evCn hWF i
      refine lv_iload_n hx hb dX0_passEvenings_2 rfl (lv_at hl 0 rfl) ?_
      refine lv_iload_n hx hb dX0_passEvenings_3 rfl (lv_at hl 2 rfl) ?_
      refine nv_icmp_ge (tgt := 18) hx hb (by omega) (by omega) dX0_passEvenings_4 (by decide) (fun c1 => ?_) (fun c1 => ?_)
      · exact mu_vret hx hb hr hlocks hS (⟨_, _, _, (va_P.re (by rw [show k = i by omega]) hP)⟩) dX0_passEvenings_18
      · refine lv_aload_n hx hb dX0_passEvenings_7 rfl (lv_at hl 1 rfl) ?_
        refine mu_V (n := 0) (As := []) (rest := []) ⟨hx, hb, hml, hown, hts⟩ (c_X0_passEvening l D ci G ka a (evCn S i) w r nb hI hG  hWFi) gX0_passEvenings_X0_passEvening rfl ⟨rfl, rfl⟩ (by decide +kernel) rfl ⟨Nat.le_of_ble_eq_true rfl, Nat.le_of_ble_eq_true rfl⟩ hE (en_S hGA hs0 hS) hK hP (ci := 0) (q0 := 0) rfl rfl hl.1 rfl (Nat.le_of_ble_eq_true rfl) dX0_passEvenings_8 ⟨Nat.zero_le _, Nat.zero_le _⟩ hS (fun _ h => h) (fun H1 locs hz hfr hB hS => ?_)
        obtain ⟨w, r, nb, hP⟩ := hB
        generalize H1 = H at hP hS ⊢
        have hD : va_D (aO a) (wO (ci 0) a (eveC (evCn S i)) w r nb) := wO_D hI _ _ _ _
        refine lv_pop hx hb dX0_passEvenings_11 rfl ?_
        refine nv_iinc1 (lv' := [(2, .int (nI (i + 1))), (0, .ref (a 0)), (1, .int (nI k))]) hx hb dX0_passEvenings_12 hl (k := 0) rfl (by decide) rfl (fun ls hl => ?_)
        refine lv_goto (tgt := 2) hx hb dX0_passEvenings_15 (by decide) ?_
        exact ih2 (i + 1) (w) (r) (nb) (by omega) (by omega) (nI (i + 1)) rfl _ _ (va_P.re (by rfl) hP) hS ls (lv_sub hl [0, 1, 2] rfl)
  exact L2 _ (0) (w) (r) (nb) (Nat.lt_succ_self _) (by omega) (nI (0)) rfl _ _ (va_P.re (by rfl) hP) hS ls (lv_sub hl [0, 1, 2] rfl)
