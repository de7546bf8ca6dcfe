/-! walks laid by program -/
set_option maxHeartbeats 4000000 in
set_option maxRecDepth 100000 in
/-- X3_bravestAs -/
theorem c_X3_bravestAs_1 (l : Launch) (D : va_G) (ci : Nat → ClassId) (G : Nat → Prop) (ka : Nat) (ad : Nat → Nat) (X : AS) (T : OS) (tq la tt : Nat → Int32) (z : Nat → Nat → Int32) (hI : injA ad 48) (hG : ∀ k, k < 48 → G (ad k)) (q n : Nat) (hWX : WFX X) (h_q : q < 8) (h_n : n ≤ 20) : Met l yX3_bravestAs wsX3_bravestAs ({ frames := 5, cells := 0, slots := 0, locals := 130 } : Room) (va_Pc [.ref (ad 0), .ref (ad 18), .int (nI q), .int (nI 7), .int (nI n)] (ro_B D (tyL ci) (wX ci ad X T tq la tt z) (en D (ci 0) G ka))) (mu_Q (aX ad) (some (.int ((((nI (argTo (brave X.1 1 q n) 7).1, X) : Int32 × AS)).1))) (fun H => ∃ T tq la tt z, va_P D vwCl (wX ci ad ((((nI (argTo (brave X.1 1 q n) 7).1, X) : Int32 × AS)).2) T tq la tt z) H)) 0 0 (aX ad) := by
  refine mu_Met (cc := cX3_bravestAs) (maxL := 8) (ret := (some .int)) [(0, .ref (ad 0)), (1, .ref (ad 18)), (2, .int (nI q)), (3, .int (nI 7)), (4, .int (nI n))] (wX_D hI) (by decide) rfl (Nat.le_of_ble_eq_true rfl) rfl ?_
  intro p e s m below meth c H locs hx hb hml hr hlocks hts hown hP hK hs0 hD hS ls hl
  have hown : s.vm.findClass RX3 = some m.cls := hown
  have hinX0 : ∀ w ∈ wsX00, w ∈ wsX3_bravestAs := by decide +kernel
  have hinX3 : ∀ w ∈ wsX30, w ∈ wsX3_bravestAs := by decide +kernel
  have hE := hE_en D (ci 0) G ka
  have hWF := hWX.w
  have f_n := hWF.n
  have f_e := hWX.e
  have f_tl := hWX.t
  have hGA := aX_G hG
  have hWK := hWX.k
  refine lv_iconst (v := nI (0)) hx hb dX3_bravestAs_0 (by decide) ?_
  refine lv_istore (lv' := [(5, .int (nI 0)), (0, .ref (ad 0)), (1, .ref (ad 18)), (2, .int (nI q)), (3, .int (nI 7)), (4, .int (nI n))]) hx hb dX3_bravestAs_1 hl (by decide) rfl (fun ls hl => ?_)
  refine lv_iconst (v := -1) hx hb dX3_bravestAs_3 (by decide) ?_
  refine lv_istore (lv' := [(6, .int (-1)), (5, .int (nI 0)), (0, .ref (ad 0)), (1, .ref (ad 18)), (2, .int (nI q)), (3, .int (nI 7)), (4, .int (nI n))]) hx hb dX3_bravestAs_4 hl (by decide) rfl (fun ls hl => ?_)
  refine lv_iconst (v := nI (0)) hx hb dX3_bravestAs_6 (by decide) ?_
  refine lv_istore (lv' := [(7, .int (nI 0)), (6, .int (-1)), (5, .int (nI 0)), (0, .ref (ad 0)), (1, .ref (ad 18)), (2, .int (nI q)), (3, .int (nI 7)), (4, .int (nI n))]) hx hb dX3_bravestAs_7 hl (by decide) rfl (fun ls hl => ?_)
  have L9 : ∀ (k9 : Nat) (i : Nat), 7 - i < k9 → (i ≤ 7) → ∀ (x5 x6 x7 : Int32), x5 = nI ((argTo (brave X.1 1 q n) (i)).1) → x6 = nI ((argTo (brave X.1 1 q n) (i)).2) - nI (1) → x7 = nI (i) → ∀ (T : OS) (z : Nat → Nat → Int32), ∀ (H : Heap) (locs : List Loc), va_P D vwCl (wX ci ad X T tq la tt z) H → va_S (aX ad) s.heap H locs → ∀ ls : Array Slot, lv_has ls 8 [(5, .int (x5)), (6, .int (x6)), (7, .int (x7)), (0, .ref (ad 0)), (1, .ref (ad 18)), (2, .int (nI q)), (3, .int (nI 7)), (4, .int (nI n))] → W p l e (headSpec wsX3_bravestAs ({ frames := 5, cells := 0, slots := 0, locals := 130 } : Room)).room s m ([.ref (ad 0), .ref (ad 18), .int (nI q), .int (nI 7), .int (nI n)] : List Value).toArray below meth c H locs 0 0 (MQ below (mu_Q (aX ad) (some (.int ((((nI (argTo (brave X.1 1 q n) 7).1, X) : Int32 × AS)).1))) (fun H => ∃ T tq la tt z, va_P D vwCl (wX ci ad ((((nI (argTo (brave X.1 1 q n) 7).1, X) : Int32 × AS)).2) T tq la tt z) H)) ([.ref (ad 0), .ref (ad 18), .int (nI q), .int (nI 7), .int (nI n)] : List Value).toArray s 0 0 (aX ad)) (F0 m 9 ls []) := by
    intro k9
    induction k9 with
    | zero => intro i h0; exact absurd h0 (Nat.not_lt_zero _)
    | succ k9 ih9 =>
      intro i hk9 h_i x5 x6 x7 e5 e6 e7 T z H locs hP hS ls hl
      subst e5
      subst e6
      subst e7
      have hD : va_D (aX ad) (wX ci ad X T tq la tt z) := wX_D hI
      have f_a : (argTo (brave X.1 1 q n) i).2 ≤ 100 := arg_le i (fun v hv => brave_lt (e := 7) hWF (fun v hv => WF_st1 hWF q hv) v (by omega))
      have f_b : i < 7 → evCn (st X.1 1 q i) n 5 q < 100 := fun h => (WF_evCn (WF_st1 hWF q h) n).f5 q
      refine lv_iload hx hb dX3_bravestAs_9 (lv_at hl 2 rfl) ?_
      refine lv_iload_n hx hb dX3_bravestAs_11 rfl (lv_at hl 6 rfl) ?_
      refine nv_icmp_ge (tgt := 75) hx hb (by omega) (by omega) dX3_bravestAs_12 (by decide) (fun c1 => ?_) (fun c1 => ?_)
      · refine lv_iload hx hb dX3_bravestAs_75 (lv_at hl 0 rfl) ?_
        have hp : ((nI (argTo (brave X.1 1 q n) 7).1, X) : Int32 × AS) = (nI ((argTo (brave X.1 1 q n) (i)).1), X) := by rw [show i = 7 by omega]
        refine nv_cv (show nI ((argTo (brave X.1 1 q n) (i)).1) = (((nI (argTo (brave X.1 1 q n) 7).1, X) : Int32 × AS)).1 from by rw [hp]) ?_
        exact mu_iret hx hb hr hlocks hS ((by rw [hp]; exact ⟨_, _, _, _, _, hP⟩)) dX3_bravestAs_77
      · refine lv_aload_n hx hb dX3_bravestAs_15 rfl (lv_at hl 3 rfl) ?_
        refine va_get (D := D) (ci := 3) (v := .ref (ad 16)) (C := RX3) (T := TX3) (N := 9) hx hb hts hinX3 hown hK hP 0 rfl rfl 1 (by decide) (hts (.fieldLink RX3 16 "OneShort" "trial" "LOneShort$Orchestra;") (List.mem_of_getElem? (i := 1) rfl)) (fun _ h9 => h9) rfl dX3_bravestAs_16 ?_
        refine lv_aload_n hx hb dX3_bravestAs_19 rfl (lv_at hl 3 rfl) ?_
        refine va_get (D := D) (ci := 3) (v := .ref (ad 5)) (C := RX3) (T := TX3) (N := 9) hx hb hts hinX3 hown hK hP 0 rfl rfl 0 (by decide) (hts (.fieldLink RX3 10 "OneShort" "orchestra" "LOneShort$Orchestra;") (List.mem_of_getElem? (i := 2) rfl)) (fun _ h9 => h9) rfl dX3_bravestAs_20 ?_
        refine mu_V (n := 1) (As := [.ref (ad 5)]) (rest := []) ⟨hx, hb, hml, hown, hts⟩ (c_X0_become l D ci G ka (sh ad 16) T (z 3) (z 4) (z 5) (sh ad 5) X.1 (z 0) (z 1) (z 2) (wX_D2 hI (by decide) (by decide) (by decide) _ _ _ _ _ _ _ _) (aO2_G (G_sh hG (by decide)) (G_sh hG (by decide)))  ) gX3_bravestAs_X0_become rfl ⟨rfl, rfl⟩ (by decide +kernel) rfl ⟨Nat.le_of_ble_eq_true rfl, Nat.le_of_ble_eq_true rfl⟩ hE (en_S hGA hs0 hS) hK (va_P.app (wX_s16 hP) (wX_s5 hP)) (ci := 0) (q0 := 0) rfl rfl hl.1 rfl (Nat.le_of_ble_eq_true rfl) dX3_bravestAs_23 ⟨Nat.zero_le _, Nat.zero_le _⟩ hS (fun q h => h.elim (fun h => aR_X (by decide) q (aO_sh q h)) (fun h => aR_X (by decide) q (aO_sh q h))) (fun H1 locs hz hfr hB hS => ?_)
        have hP := wX_j16_5 hI hP hfr hB
        generalize H1 = H at hP hS ⊢
        have hD : va_D (aX ad) (wX ci ad X X.1 tq la tt z) := wX_D hI
        refine lv_aload_n hx hb dX3_bravestAs_26 rfl (lv_at hl 4 rfl) ?_
        refine lv_iload_n hx hb dX3_bravestAs_27 rfl (lv_at hl 5 rfl) ?_
        refine lv_iload hx hb dX3_bravestAs_28 (lv_at hl 2 rfl) ?_
        refine nv_iast hx hb hK hP hD hS 18 0 rfl rfl (by omega) (by decide) dX3_bravestAs_30 (fun H locs hP hD hS => ?_)
        have hP : va_P D vwCl (wX ci ad X (st X.1 1 (q) (i)) tq la tt z) H := va_P.re (wX_t1 ci ad X X.1 tq la tt z (q) (i)) hP
        have hD : va_D (aX ad) (wX ci ad X (st X.1 1 (q) (i)) tq la tt z) := wX_D hI
        refine lv_aload_n hx hb dX3_bravestAs_31 rfl (lv_at hl 3 rfl) ?_
        refine va_get (D := D) (ci := 3) (v := .ref (ad 16)) (C := RX3) (T := TX3) (N := 9) hx hb hts hinX3 hown hK hP 0 rfl rfl 1 (by decide) (hts (.fieldLink RX3 16 "OneShort" "trial" "LOneShort$Orchestra;") (List.mem_of_getElem? (i := 1) rfl)) (fun _ h9 => h9) rfl dX3_bravestAs_32 ?_
        refine lv_iload hx hb dX3_bravestAs_35 (lv_at hl 7 rfl) ?_
        refine mu_V (n := 1) (As := [.int (nI n)]) (rest := []) ⟨hx, hb, hml, hown, hts⟩ (c_X0_passEvenings l D ci G ka (sh ad 16) (st X.1 1 (q) (i)) (z 3) (z 4) (z 5) (injA_sh hI (by decide)) (G_sh hG (by decide)) (n) (WF_st1 hWF q (by omega)) (by omega)) gX3_bravestAs_X0_passEvenings rfl ⟨rfl, rfl⟩ (by decide +kernel) rfl ⟨Nat.le_of_ble_eq_true rfl, Nat.le_of_ble_eq_true rfl⟩ hE (en_S hGA hs0 hS) hK (wX_s16 hP) (ci := 0) (q0 := 0) rfl rfl hl.1 rfl (Nat.le_of_ble_eq_true rfl) dX3_bravestAs_37 ⟨Nat.zero_le _, Nat.zero_le _⟩ hS (fun q h => aR_X (by decide) q (aO_sh q h)) (fun H1 locs hz hfr hB hS => ?_)
        obtain ⟨w9, r9, nb9, hB⟩ := hB
        have hP := wX_j16 hI hP hfr hB
        obtain ⟨z, hP⟩ : ∃ z, va_P D vwCl (wX ci ad X (evCn (st X.1 1 (q) (i)) n) tq la tt z) H1 := ⟨_, hP⟩
        generalize H1 = H at hP hS ⊢
        have hD : va_D (aX ad) (wX ci ad X (evCn (st X.1 1 (q) (i)) n) tq la tt z) := wX_D hI
        refine lv_aload_n hx hb dX3_bravestAs_40 rfl (lv_at hl 3 rfl) ?_
        refine va_get (D := D) (ci := 3) (v := .ref (ad 16)) (C := RX3) (T := TX3) (N := 9) hx hb hts hinX3 hown hK hP 0 rfl rfl 1 (by decide) (hts (.fieldLink RX3 16 "OneShort" "trial" "LOneShort$Orchestra;") (List.mem_of_getElem? (i := 1) rfl)) (fun _ h9 => h9) rfl dX3_bravestAs_41 ?_
        refine va_get (D := D) (ci := 0) (v := .ref (ad 22)) (C := RX0) (T := TX0) (N := 13) hx hb hts hinX0 hown hK hP 16 rfl rfl 5 (by decide) (hts (.fieldLink RX3 96 "OneShort$Orchestra" "nerve" "[I") (List.mem_of_getElem? (i := 3) rfl)) (fun _ h9 => h9) rfl dX3_bravestAs_44 ?_
        refine lv_iload_n hx hb dX3_bravestAs_47 rfl (lv_at hl 5 rfl) ?_
        refine nv_iald (v := nI ((evCn (st X.1 1 (q) (i)) n) 5 (q))) hx hb hK hP 22 0 rfl rfl (by omega) (by decide) rfl dX3_bravestAs_48 ?_
        refine lv_iload hx hb dX3_bravestAs_49 (lv_at hl 1 rfl) ?_
        refine nv_icmp_le_D (tgt := 69) hx hb (by omega) (by omega) dX3_bravestAs_51 (by decide) (fun c2 => ?_) (fun c2 => ?_)
        · refine nv_iinc1 (lv' := [(7, .int (nI (i + 1))), (5, .int (nI ((argTo (brave X.1 1 q n) (i)).1))), (6, .int (nI ((argTo (brave X.1 1 q n) (i)).2) - nI (1))), (0, .ref (ad 0)), (1, .ref (ad 18)), (2, .int (nI q)), (3, .int (nI 7)), (4, .int (nI n))]) hx hb dX3_bravestAs_69 hl (k := 2) rfl (by decide) rfl (fun ls hl => ?_)
          refine lv_goto (tgt := 9) hx hb dX3_bravestAs_72 (by decide) ?_
          exact ih9 (i + 1) (by omega) (by omega) (nI ((argTo (brave X.1 1 q n) (i)).1)) (nI ((argTo (brave X.1 1 q n) (i)).2) - nI (1)) (nI (i + 1)) (nv_e (by first | rw [arg_t c2] | rw [arg_f c2])) (by first | (rw [arg_t c2]; exact (nI_pred _).symm) | rw [arg_f c2]) rfl (evCn (st X.1 1 (q) (i)) n) (z) _ _ hP hS ls (lv_sub hl [1, 2, 0, 3, 4, 5, 6, 7] rfl)
        · refine lv_aload_n hx hb dX3_bravestAs_54 rfl (lv_at hl 3 rfl) ?_
          refine va_get (D := D) (ci := 3) (v := .ref (ad 16)) (C := RX3) (T := TX3) (N := 9) hx hb hts hinX3 hown hK hP 0 rfl rfl 1 (by decide) (hts (.fieldLink RX3 16 "OneShort" "trial" "LOneShort$Orchestra;") (List.mem_of_getElem? (i := 1) rfl)) (fun _ h9 => h9) rfl dX3_bravestAs_55 ?_
          refine va_get (D := D) (ci := 0) (v := .ref (ad 22)) (C := RX0) (T := TX0) (N := 13) hx hb hts hinX0 hown hK hP 16 rfl rfl 5 (by decide) (hts (.fieldLink RX3 96 "OneShort$Orchestra" "nerve" "[I") (List.mem_of_getElem? (i := 3) rfl)) (fun _ h9 => h9) rfl dX3_bravestAs_58 ?_
          refine lv_iload_n hx hb dX3_bravestAs_61 rfl (lv_at hl 5 rfl) ?_
          refine nv_iald (v := nI ((evCn (st X.1 1 (q) (i)) n) 5 (q))) hx hb hK hP 22 0 rfl rfl (by omega) (by decide) rfl dX3_bravestAs_62 ?_
          refine lv_istore (lv' := [(6, .int (nI ((evCn (st X.1 1 (q) (i)) n) 5 (q)))), (5, .int (nI ((argTo (brave X.1 1 q n) (i)).1))), (7, .int (nI i)), (0, .ref (ad 0)), (1, .ref (ad 18)), (2, .int (nI q)), (3, .int (nI 7)), (4, .int (nI n))]) hx hb dX3_bravestAs_63 hl (by decide) rfl (fun ls hl => ?_)
          refine lv_iload hx hb dX3_bravestAs_65 (lv_at hl 2 rfl) ?_
          refine lv_istore (lv' := [(5, .int (nI i)), (6, .int (nI ((evCn (st X.1 1 (q) (i)) n) 5 (q)))), (7, .int (nI i)), (0, .ref (ad 0)), (1, .ref (ad 18)), (2, .int (nI q)), (3, .int (nI 7)), (4, .int (nI n))]) hx hb dX3_bravestAs_67 hl (by decide) rfl (fun ls hl => ?_)
          refine nv_iinc1 (lv' := [(7, .int (nI (i + 1))), (5, .int (nI i)), (6, .int (nI ((evCn (st X.1 1 (q) (i)) n) 5 (q)))), (0, .ref (ad 0)), (1, .ref (ad 18)), (2, .int (nI q)), (3, .int (nI 7)), (4, .int (nI n))]) hx hb dX3_bravestAs_69 hl (k := 2) rfl (by decide) rfl (fun ls hl => ?_)
          refine lv_goto (tgt := 9) hx hb dX3_bravestAs_72 (by decide) ?_
          exact ih9 (i + 1) (by omega) (by omega) (nI (i)) (nI ((evCn (st X.1 1 (q) (i)) n) 5 (q))) (nI (i + 1)) (nv_e (by first | rw [arg_t c2] | rw [arg_f c2])) (by first | (rw [arg_t c2]; exact (nI_pred _).symm) | rw [arg_f c2]) rfl (evCn (st X.1 1 (q) (i)) n) (z) _ _ hP hS ls (lv_sub hl [1, 2, 0, 3, 4, 5, 6, 7] rfl)
  exact L9 _ (0) (Nat.lt_succ_self _) (by omega) (nI (0)) (-1) (nI (0)) rfl (by rfl) rfl (T) (z) _ _ hP hS ls (lv_sub hl [2, 1, 0, 3, 4, 5, 6, 7] rfl)

set_option maxHeartbeats 4000000 in
set_option maxRecDepth 100000 in
/-- X3_bravestAs -/
theorem c_X3_bravestAs_2 (l : Launch) (D : va_G) (ci : Nat → ClassId) (G : Nat → Prop) (ka : Nat) (ad : Nat → Nat) (X : AS) (T : OS) (tq la tt : Nat → Int32) (z : Nat → Nat → Int32) (hI : injA ad 48) (hG : ∀ k, k < 48 → G (ad k)) (q n : Nat) (hWX : WFX X) (h_q : q < 8) (h_n : n ≤ 20) : Met l yX3_bravestAs wsX3_bravestAs ({ frames := 5, cells := 0, slots := 0, locals := 130 } : Room) (va_Pc [.ref (ad 0), .ref (ad 19), .int (nI q), .int (nI 16), .int (nI n)] (ro_B D (tyL ci) (wX ci ad X T tq la tt z) (en D (ci 0) G ka))) (mu_Q (aX ad) (some (.int ((((nI (argTo (brave X.1 2 q n) 16).1, X) : Int32 × AS)).1))) (fun H => ∃ T tq la tt z, va_P D vwCl (wX ci ad ((((nI (argTo (brave X.1 2 q n) 16).1, X) : Int32 × AS)).2) T tq la tt z) H)) 0 0 (aX ad) := by
  refine mu_Met (cc := cX3_bravestAs) (maxL := 8) (ret := (some .int)) [(0, .ref (ad 0)), (1, .ref (ad 19)), (2, .int (nI q)), (3, .int (nI 16)), (4, .int (nI n))] (wX_D hI) (by decide) rfl (Nat.le_of_ble_eq_true rfl) rfl ?_
  intro p e s m below meth c H locs hx hb hml hr hlocks hts hown hP hK hs0 hD hS ls hl
  have hown : s.vm.findClass RX3 = some m.cls := hown
  have hinX0 : ∀ w ∈ wsX00, w ∈ wsX3_bravestAs := by decide +kernel
  have hinX3 : ∀ w ∈ wsX30, w ∈ wsX3_bravestAs := by decide +kernel
  have hE := hE_en D (ci 0) G ka
  have hWF := hWX.w
  have f_n := hWF.n
  have f_e := hWX.e
  have f_tl := hWX.t
  have hGA := aX_G hG
  have hWK := hWX.k
  refine lv_iconst (v := nI (0)) hx hb dX3_bravestAs_0 (by decide) ?_
  refine lv_istore (lv' := [(5, .int (nI 0)), (0, .ref (ad 0)), (1, .ref (ad 19)), (2, .int (nI q)), (3, .int (nI 16)), (4, .int (nI n))]) hx hb dX3_bravestAs_1 hl (by decide) rfl (fun ls hl => ?_)
  refine lv_iconst (v := -1) hx hb dX3_bravestAs_3 (by decide) ?_
  refine lv_istore (lv' := [(6, .int (-1)), (5, .int (nI 0)), (0, .ref (ad 0)), (1, .ref (ad 19)), (2, .int (nI q)), (3, .int (nI 16)), (4, .int (nI n))]) hx hb dX3_bravestAs_4 hl (by decide) rfl (fun ls hl => ?_)
  refine lv_iconst (v := nI (0)) hx hb dX3_bravestAs_6 (by decide) ?_
  refine lv_istore (lv' := [(7, .int (nI 0)), (6, .int (-1)), (5, .int (nI 0)), (0, .ref (ad 0)), (1, .ref (ad 19)), (2, .int (nI q)), (3, .int (nI 16)), (4, .int (nI n))]) hx hb dX3_bravestAs_7 hl (by decide) rfl (fun ls hl => ?_)
  have L9 : ∀ (k9 : Nat) (i : Nat), 16 - i < k9 → (i ≤ 16) → ∀ (x5 x6 x7 : Int32), x5 = nI ((argTo (brave X.1 2 q n) (i)).1) → x6 = nI ((argTo (brave X.1 2 q n) (i)).2) - nI (1) → x7 = nI (i) → ∀ (T : OS) (z : Nat → Nat → Int32), ∀ (H : Heap) (locs : List Loc), va_P D vwCl (wX ci ad X T tq la tt z) H → va_S (aX ad) s.heap H locs → ∀ ls : Array Slot, lv_has ls 8 [(5, .int (x5)), (6, .int (x6)), (7, .int (x7)), (0, .ref (ad 0)), (1, .ref (ad 19)), (2, .int (nI q)), (3, .int (nI 16)), (4, .int (nI n))] → W p l e (headSpec wsX3_bravestAs ({ frames := 5, cells := 0, slots := 0, locals := 130 } : Room)).room s m ([.ref (ad 0), .ref (ad 19), .int (nI q), .int (nI 16), .int (nI n)] : List Value).toArray below meth c H locs 0 0 (MQ below (mu_Q (aX ad) (some (.int ((((nI (argTo (brave X.1 2 q n) 16).1, X) : Int32 × AS)).1))) (fun H => ∃ T tq la tt z, va_P D vwCl (wX ci ad ((((nI (argTo (brave X.1 2 q n) 16).1, X) : Int32 × AS)).2) T tq la tt z) H)) ([.ref (ad 0), .ref (ad 19), .int (nI q), .int (nI 16), .int (nI n)] : List Value).toArray s 0 0 (aX ad)) (F0 m 9 ls []) := by
    intro k9
    induction k9 with
    | zero => intro i h0; exact absurd h0 (Nat.not_lt_zero _)
    | succ k9 ih9 =>
      intro i hk9 h_i x5 x6 x7 e5 e6 e7 T z H locs hP hS ls hl
      subst e5
      subst e6
      subst e7
      have hD : va_D (aX ad) (wX ci ad X T tq la tt z) := wX_D hI
      have f_a : (argTo (brave X.1 2 q n) i).2 ≤ 100 := arg_le i (fun v hv => brave_lt (e := 16) hWF (fun v hv => WF_st2 hWF q hv) v (by omega))
      have f_b : i < 16 → evCn (st X.1 2 q i) n 5 q < 100 := fun h => (WF_evCn (WF_st2 hWF q h) n).f5 q
      refine lv_iload hx hb dX3_bravestAs_9 (lv_at hl 2 rfl) ?_
      refine lv_iload_n hx hb dX3_bravestAs_11 rfl (lv_at hl 6 rfl) ?_
      refine nv_icmp_ge (tgt := 75) hx hb (by omega) (by omega) dX3_bravestAs_12 (by decide) (fun c1 => ?_) (fun c1 => ?_)
      · refine lv_iload hx hb dX3_bravestAs_75 (lv_at hl 0 rfl) ?_
        have hp : ((nI (argTo (brave X.1 2 q n) 16).1, X) : Int32 × AS) = (nI ((argTo (brave X.1 2 q n) (i)).1), X) := by rw [show i = 16 by omega]
        refine nv_cv (show nI ((argTo (brave X.1 2 q n) (i)).1) = (((nI (argTo (brave X.1 2 q n) 16).1, X) : Int32 × AS)).1 from by rw [hp]) ?_
        exact mu_iret hx hb hr hlocks hS ((by rw [hp]; exact ⟨_, _, _, _, _, hP⟩)) dX3_bravestAs_77
      · refine lv_aload_n hx hb dX3_bravestAs_15 rfl (lv_at hl 3 rfl) ?_
        refine va_get (D := D) (ci := 3) (v := .ref (ad 16)) (C := RX3) (T := TX3) (N := 9) hx hb hts hinX3 hown hK hP 0 rfl rfl 1 (by decide) (hts (.fieldLink RX3 16 "OneShort" "trial" "LOneShort$Orchestra;") (List.mem_of_getElem? (i := 1) rfl)) (fun _ h9 => h9) rfl dX3_bravestAs_16 ?_
        refine lv_aload_n hx hb dX3_bravestAs_19 rfl (lv_at hl 3 rfl) ?_
        refine va_get (D := D) (ci := 3) (v := .ref (ad 5)) (C := RX3) (T := TX3) (N := 9) hx hb hts hinX3 hown hK hP 0 rfl rfl 0 (by decide) (hts (.fieldLink RX3 10 "OneShort" "orchestra" "LOneShort$Orchestra;") (List.mem_of_getElem? (i := 2) rfl)) (fun _ h9 => h9) rfl dX3_bravestAs_20 ?_
        refine mu_V (n := 1) (As := [.ref (ad 5)]) (rest := []) ⟨hx, hb, hml, hown, hts⟩ (c_X0_become l D ci G ka (sh ad 16) T (z 3) (z 4) (z 5) (sh ad 5) X.1 (z 0) (z 1) (z 2) (wX_D2 hI (by decide) (by decide) (by decide) _ _ _ _ _ _ _ _) (aO2_G (G_sh hG (by decide)) (G_sh hG (by decide)))  ) gX3_bravestAs_X0_become rfl ⟨rfl, rfl⟩ (by decide +kernel) rfl ⟨Nat.le_of_ble_eq_true rfl, Nat.le_of_ble_eq_true rfl⟩ hE (en_S hGA hs0 hS) hK (va_P.app (wX_s16 hP) (wX_s5 hP)) (ci := 0) (q0 := 0) rfl rfl hl.1 rfl (Nat.le_of_ble_eq_true rfl) dX3_bravestAs_23 ⟨Nat.zero_le _, Nat.zero_le _⟩ hS (fun q h => h.elim (fun h => aR_X (by decide) q (aO_sh q h)) (fun h => aR_X (by decide) q (aO_sh q h))) (fun H1 locs hz hfr hB hS => ?_)
        have hP := wX_j16_5 hI hP hfr hB
        generalize H1 = H at hP hS ⊢
        have hD : va_D (aX ad) (wX ci ad X X.1 tq la tt z) := wX_D hI
        refine lv_aload_n hx hb dX3_bravestAs_26 rfl (lv_at hl 4 rfl) ?_
        refine lv_iload_n hx hb dX3_bravestAs_27 rfl (lv_at hl 5 rfl) ?_
        refine lv_iload hx hb dX3_bravestAs_28 (lv_at hl 2 rfl) ?_
        refine nv_iast hx hb hK hP hD hS 19 0 rfl rfl (by omega) (by decide) dX3_bravestAs_30 (fun H locs hP hD hS => ?_)
        have hP : va_P D vwCl (wX ci ad X (st X.1 2 (q) (i)) tq la tt z) H := va_P.re (wX_t2 ci ad X X.1 tq la tt z (q) (i)) hP
        have hD : va_D (aX ad) (wX ci ad X (st X.1 2 (q) (i)) tq la tt z) := wX_D hI
        refine lv_aload_n hx hb dX3_bravestAs_31 rfl (lv_at hl 3 rfl) ?_
        refine va_get (D := D) (ci := 3) (v := .ref (ad 16)) (C := RX3) (T := TX3) (N := 9) hx hb hts hinX3 hown hK hP 0 rfl rfl 1 (by decide) (hts (.fieldLink RX3 16 "OneShort" "trial" "LOneShort$Orchestra;") (List.mem_of_getElem? (i := 1) rfl)) (fun _ h9 => h9) rfl dX3_bravestAs_32 ?_
        refine lv_iload hx hb dX3_bravestAs_35 (lv_at hl 7 rfl) ?_
        refine mu_V (n := 1) (As := [.int (nI n)]) (rest := []) ⟨hx, hb, hml, hown, hts⟩ (c_X0_passEvenings l D ci G ka (sh ad 16) (st X.1 2 (q) (i)) (z 3) (z 4) (z 5) (injA_sh hI (by decide)) (G_sh hG (by decide)) (n) (WF_st2 hWF q (by omega)) (by omega)) gX3_bravestAs_X0_passEvenings rfl ⟨rfl, rfl⟩ (by decide +kernel) rfl ⟨Nat.le_of_ble_eq_true rfl, Nat.le_of_ble_eq_true rfl⟩ hE (en_S hGA hs0 hS) hK (wX_s16 hP) (ci := 0) (q0 := 0) rfl rfl hl.1 rfl (Nat.le_of_ble_eq_true rfl) dX3_bravestAs_37 ⟨Nat.zero_le _, Nat.zero_le _⟩ hS (fun q h => aR_X (by decide) q (aO_sh q h)) (fun H1 locs hz hfr hB hS => ?_)
        obtain ⟨w9, r9, nb9, hB⟩ := hB
        have hP := wX_j16 hI hP hfr hB
        obtain ⟨z, hP⟩ : ∃ z, va_P D vwCl (wX ci ad X (evCn (st X.1 2 (q) (i)) n) tq la tt z) H1 := ⟨_, hP⟩
        generalize H1 = H at hP hS ⊢
        have hD : va_D (aX ad) (wX ci ad X (evCn (st X.1 2 (q) (i)) n) tq la tt z) := wX_D hI
        refine lv_aload_n hx hb dX3_bravestAs_40 rfl (lv_at hl 3 rfl) ?_
        refine va_get (D := D) (ci := 3) (v := .ref (ad 16)) (C := RX3) (T := TX3) (N := 9) hx hb hts hinX3 hown hK hP 0 rfl rfl 1 (by decide) (hts (.fieldLink RX3 16 "OneShort" "trial" "LOneShort$Orchestra;") (List.mem_of_getElem? (i := 1) rfl)) (fun _ h9 => h9) rfl dX3_bravestAs_41 ?_
        refine va_get (D := D) (ci := 0) (v := .ref (ad 22)) (C := RX0) (T := TX0) (N := 13) hx hb hts hinX0 hown hK hP 16 rfl rfl 5 (by decide) (hts (.fieldLink RX3 96 "OneShort$Orchestra" "nerve" "[I") (List.mem_of_getElem? (i := 3) rfl)) (fun _ h9 => h9) rfl dX3_bravestAs_44 ?_
        refine lv_iload_n hx hb dX3_bravestAs_47 rfl (lv_at hl 5 rfl) ?_
        refine nv_iald (v := nI ((evCn (st X.1 2 (q) (i)) n) 5 (q))) hx hb hK hP 22 0 rfl rfl (by omega) (by decide) rfl dX3_bravestAs_48 ?_
        refine lv_iload hx hb dX3_bravestAs_49 (lv_at hl 1 rfl) ?_
        refine nv_icmp_le_D (tgt := 69) hx hb (by omega) (by omega) dX3_bravestAs_51 (by decide) (fun c2 => ?_) (fun c2 => ?_)
        · refine nv_iinc1 (lv' := [(7, .int (nI (i + 1))), (5, .int (nI ((argTo (brave X.1 2 q n) (i)).1))), (6, .int (nI ((argTo (brave X.1 2 q n) (i)).2) - nI (1))), (0, .ref (ad 0)), (1, .ref (ad 19)), (2, .int (nI q)), (3, .int (nI 16)), (4, .int (nI n))]) hx hb dX3_bravestAs_69 hl (k := 2) rfl (by decide) rfl (fun ls hl => ?_)
          refine lv_goto (tgt := 9) hx hb dX3_bravestAs_72 (by decide) ?_
          exact ih9 (i + 1) (by omega) (by omega) (nI ((argTo (brave X.1 2 q n) (i)).1)) (nI ((argTo (brave X.1 2 q n) (i)).2) - nI (1)) (nI (i + 1)) (nv_e (by first | rw [arg_t c2] | rw [arg_f c2])) (by first | (rw [arg_t c2]; exact (nI_pred _).symm) | rw [arg_f c2]) rfl (evCn (st X.1 2 (q) (i)) n) (z) _ _ hP hS ls (lv_sub hl [1, 2, 0, 3, 4, 5, 6, 7] rfl)
        · refine lv_aload_n hx hb dX3_bravestAs_54 rfl (lv_at hl 3 rfl) ?_
          refine va_get (D := D) (ci := 3) (v := .ref (ad 16)) (C := RX3) (T := TX3) (N := 9) hx hb hts hinX3 hown hK hP 0 rfl rfl 1 (by decide) (hts (.fieldLink RX3 16 "OneShort" "trial" "LOneShort$Orchestra;") (List.mem_of_getElem? (i := 1) rfl)) (fun _ h9 => h9) rfl dX3_bravestAs_55 ?_
          refine va_get (D := D) (ci := 0) (v := .ref (ad 22)) (C := RX0) (T := TX0) (N := 13) hx hb hts hinX0 hown hK hP 16 rfl rfl 5 (by decide) (hts (.fieldLink RX3 96 "OneShort$Orchestra" "nerve" "[I") (List.mem_of_getElem? (i := 3) rfl)) (fun _ h9 => h9) rfl dX3_bravestAs_58 ?_
          refine lv_iload_n hx hb dX3_bravestAs_61 rfl (lv_at hl 5 rfl) ?_
          refine nv_iald (v := nI ((evCn (st X.1 2 (q) (i)) n) 5 (q))) hx hb hK hP 22 0 rfl rfl (by omega) (by decide) rfl dX3_bravestAs_62 ?_
          refine lv_istore (lv' := [(6, .int (nI ((evCn (st X.1 2 (q) (i)) n) 5 (q)))), (5, .int (nI ((argTo (brave X.1 2 q n) (i)).1))), (7, .int (nI i)), (0, .ref (ad 0)), (1, .ref (ad 19)), (2, .int (nI q)), (3, .int (nI 16)), (4, .int (nI n))]) hx hb dX3_bravestAs_63 hl (by decide) rfl (fun ls hl => ?_)
          refine lv_iload hx hb dX3_bravestAs_65 (lv_at hl 2 rfl) ?_
          refine lv_istore (lv' := [(5, .int (nI i)), (6, .int (nI ((evCn (st X.1 2 (q) (i)) n) 5 (q)))), (7, .int (nI i)), (0, .ref (ad 0)), (1, .ref (ad 19)), (2, .int (nI q)), (3, .int (nI 16)), (4, .int (nI n))]) hx hb dX3_bravestAs_67 hl (by decide) rfl (fun ls hl => ?_)
          refine nv_iinc1 (lv' := [(7, .int (nI (i + 1))), (5, .int (nI i)), (6, .int (nI ((evCn (st X.1 2 (q) (i)) n) 5 (q)))), (0, .ref (ad 0)), (1, .ref (ad 19)), (2, .int (nI q)), (3, .int (nI 16)), (4, .int (nI n))]) hx hb dX3_bravestAs_69 hl (k := 2) rfl (by decide) rfl (fun ls hl => ?_)
          refine lv_goto (tgt := 9) hx hb dX3_bravestAs_72 (by decide) ?_
          exact ih9 (i + 1) (by omega) (by omega) (nI (i)) (nI ((evCn (st X.1 2 (q) (i)) n) 5 (q))) (nI (i + 1)) (nv_e (by first | rw [arg_t c2] | rw [arg_f c2])) (by first | (rw [arg_t c2]; exact (nI_pred _).symm) | rw [arg_f c2]) rfl (evCn (st X.1 2 (q) (i)) n) (z) _ _ hP hS ls (lv_sub hl [1, 2, 0, 3, 4, 5, 6, 7] rfl)
  exact L9 _ (0) (Nat.lt_succ_self _) (by omega) (nI (0)) (-1) (nI (0)) rfl (by rfl) rfl (T) (z) _ _ hP hS ls (lv_sub hl [2, 1, 0, 3, 4, 5, 6, 7] rfl)

set_option maxHeartbeats 4000000 in
set_option maxRecDepth 100000 in
/-- X3_kindFor -/
theorem c_X3_kindFor (l : Launch) (D : va_G) (ci : Nat → ClassId) (G : Nat → Prop) (ka : Nat) (ad : Nat → Nat) (X : AS) (T : OS) (tq la tt : Nat → Int32) (z : Nat → Nat → Int32) (hI : injA ad 48) (hG : ∀ k, k < 48 → G (ad k)) (q n : Int32) (hWX : WFX X) : Met l yX3_kindFor wsX3_kindFor ({ frames := 6, cells := 0, slots := 0, locals := 157 } : Room) (va_Pc [.ref (ad 0), .int (q), .int (n)] (ro_B D (tyL ci) (wX ci ad X T tq la tt z) (en D (ci 0) G ka))) (mu_Q (aX ad) (some (.int ((p_kindFor X q n).1))) (fun H => ∃ T tq la tt z, va_P D vwCl (wX ci ad ((p_kindFor X q n).2) T tq la tt z) H)) 0 0 (aX ad) := by
  refine mu_Met (cc := cX3_kindFor) (maxL := 3) (ret := (some .int)) [(0, .ref (ad 0)), (1, .int (q)), (2, .int (n))] (wX_D hI) (by decide) rfl (Nat.le_of_ble_eq_true rfl) rfl ?_
  intro p e s m below meth c H locs hx hb hml hr hlocks hts hown hP hK hs0 hD hS ls hl
  have hown : s.vm.findClass RX3 = some m.cls := hown
  have hinX0 : ∀ w ∈ wsX00, w ∈ wsX3_kindFor := by decide +kernel
  have hinX3 : ∀ w ∈ wsX30, w ∈ wsX3_kindFor := by decide +kernel
  have hE := hE_en D (ci 0) G ka
  have hWF := hWX.w
  have f_n := hWF.n
  have f_e := hWX.e
  have f_tl := hWX.t
  have hGA := aX_G hG
  have hWK := hWX.k
  refine lv_aload_n hx hb dX3_kindFor_0 rfl (lv_at hl 0 rfl) ?_
  refine lv_iload_n hx hb dX3_kindFor_1 rfl (lv_at hl 1 rfl) ?_
  refine ro_V (n := 1) (As := [.int (q)]) (rest := []) ⟨hx, hb, hml, hown, hts⟩ (c_X3_isPlayer l D ci G ka ad X T tq la tt z (q) hWX) gX3_kindFor_X3_isPlayer rfl ⟨rfl, rfl⟩ (by decide +kernel) rfl ⟨Nat.le_of_ble_eq_true rfl, Nat.le_of_ble_eq_true rfl⟩ hE (en_S hGA hs0 hS) hK hP (ci := 3) (q0 := 0) rfl rfl hl.1 rfl (Nat.le_of_ble_eq_true rfl) dX3_kindFor_2 ⟨Nat.zero_le _, Nat.zero_le _⟩ ?_
  refine nv_ifeq_b (tgt := 18) hx hb dX3_kindFor_5 (by decide) (fun c1 => ?_) (fun c1 => ?_)
  · refine lv_aload_n hx hb dX3_kindFor_18 rfl (lv_at hl 0 rfl) ?_
    refine lv_iconst (v := nI (0)) hx hb dX3_kindFor_19 (by decide) ?_
    refine mu_V (n := 1) (As := [.int (nI 0)]) (rest := []) ⟨hx, hb, hml, hown, hts⟩ (c_X3_finding l D ci G ka ad X T tq la tt z hI hG (0) hWX (by omega)) gX3_kindFor_X3_finding rfl ⟨rfl, rfl⟩ (by decide +kernel) rfl ⟨Nat.le_of_ble_eq_true rfl, Nat.le_of_ble_eq_true rfl⟩ hE (en_S hGA hs0 hS) hK hP (ci := 3) (q0 := 0) rfl rfl hl.1 rfl (Nat.le_of_ble_eq_true rfl) dX3_kindFor_20 ⟨Nat.zero_le _, Nat.zero_le _⟩ hS (fun _ h => h) (fun H1 locs hz hfr hB hS => ?_)
    obtain ⟨T, tq, la, tt, z, hP⟩ := hB
    generalize H1 = H at hP hS ⊢
    have hD : va_D (aX ad) (wX ci ad (toF X (inc X.2.2.2.1 0)) T tq la tt z) := wX_D hI
    have hp : p_kindFor X q n = (fnd 0, toF X (inc X.2.2.2.1 0)) := by first | (simp [p_kindFor, bk, fl_eq, inP, c1]; done) | (simp [p_kindFor, bk, fl_eq, inP, c1] <;> omega)
    refine nv_cv (show fnd 0 = (p_kindFor X q n).1 from by rw [hp]) ?_
    exact mu_iret hx hb hr hlocks hS ((by rw [hp]; exact ⟨_, _, _, _, _, hP⟩)) dX3_kindFor_23
  · obtain ⟨qn, h_qn, rfl⟩ := in_ex c1 (by omega)
    have t_qn : tn (nI qn) = qn := tn_nI (by omega)
    refine lv_iload_n hx hb dX3_kindFor_8 rfl (lv_at hl 2 rfl) ?_
    refine lv_if_lt (tgt := 18) hx hb dX3_kindFor_9 (by decide) (fun c2 => ?_) (fun c2 => ?_)
    · have i3 : ∀ u9, inN n u9 = false := fun u9 => in_f0 c2
      refine lv_aload_n hx hb dX3_kindFor_18 rfl (lv_at hl 0 rfl) ?_
      refine lv_iconst (v := nI (0)) hx hb dX3_kindFor_19 (by decide) ?_
      refine mu_V (n := 1) (As := [.int (nI 0)]) (rest := []) ⟨hx, hb, hml, hown, hts⟩ (c_X3_finding l D ci G ka ad X T tq la tt z hI hG (0) hWX (by omega)) gX3_kindFor_X3_finding rfl ⟨rfl, rfl⟩ (by decide +kernel) rfl ⟨Nat.le_of_ble_eq_true rfl, Nat.le_of_ble_eq_true rfl⟩ hE (en_S hGA hs0 hS) hK hP (ci := 3) (q0 := 0) rfl rfl hl.1 rfl (Nat.le_of_ble_eq_true rfl) dX3_kindFor_20 ⟨Nat.zero_le _, Nat.zero_le _⟩ hS (fun _ h => h) (fun H1 locs hz hfr hB hS => ?_)
      obtain ⟨T, tq, la, tt, z, hP⟩ := hB
      generalize H1 = H at hP hS ⊢
      have hD : va_D (aX ad) (wX ci ad (toF X (inc X.2.2.2.1 0)) T tq la tt z) := wX_D hI
      have hp : p_kindFor X (nI qn) n = (fnd 0, toF X (inc X.2.2.2.1 0)) := by first | (simp [p_kindFor, bk, fl_eq, inP, c1, c2, t_qn, i3]; done) | (simp [p_kindFor, bk, fl_eq, inP, c1, c2, t_qn, i3] <;> omega)
      refine nv_cv (show fnd 0 = (p_kindFor X (nI qn) n).1 from by rw [hp]) ?_
      exact mu_iret hx hb hr hlocks hS ((by rw [hp]; exact ⟨_, _, _, _, _, hP⟩)) dX3_kindFor_23
    · refine lv_iload_n hx hb dX3_kindFor_12 rfl (lv_at hl 2 rfl) ?_
      refine lv_bipush (v := nI (20)) hx hb dX3_kindFor_13 (by decide) ?_
      refine lv_icmp_le (tgt := 24) hx hb dX3_kindFor_15 (by decide) (fun c4 => ?_) (fun c4 => ?_)
      · have i5 : inN n 21 = true := in_t3 (by omega) c2 c4
        obtain ⟨nn, h_nn, rfl⟩ := in_ex i5 (by omega)
        have t_nn : tn (nI nn) = nn := tn_nI (by omega)
        refine lv_aload_n hx hb dX3_kindFor_24 rfl (lv_at hl 0 rfl) ?_
        refine lv_aload_n hx hb dX3_kindFor_25 rfl (lv_at hl 0 rfl) ?_
        refine va_get (D := D) (ci := 3) (v := .ref (ad 16)) (C := RX3) (T := TX3) (N := 9) hx hb hts hinX3 hown hK hP 0 rfl rfl 1 (by decide) (hts (.fieldLink RX3 16 "OneShort" "trial" "LOneShort$Orchestra;") (List.mem_of_getElem? (i := 1) rfl)) (fun _ h9 => h9) rfl dX3_kindFor_26 ?_
        refine va_get (D := D) (ci := 0) (v := .ref (ad 18)) (C := RX0) (T := TX0) (N := 13) hx hb hts hinX0 hown hK hP 16 rfl rfl 1 (by decide) (hts (.fieldLink RX3 84 "OneShort$Orchestra" "kind" "[I") (List.mem_of_getElem? (i := 2) rfl)) (fun _ h9 => h9) rfl dX3_kindFor_29 ?_
        refine lv_iload_n hx hb dX3_kindFor_32 rfl (lv_at hl 1 rfl) ?_
        refine lv_bipush (v := nI (7)) hx hb dX3_kindFor_33 (by decide) ?_
        refine lv_iload_n hx hb dX3_kindFor_35 rfl (lv_at hl 2 rfl) ?_
        refine mu_V (n := 4) (As := [.ref (ad 18), .int (nI qn), .int (nI 7), .int (nI nn)]) (rest := []) ⟨hx, hb, hml, hown, hts⟩ (c_X3_bravestAs_1 l D ci G ka ad X T tq la tt z hI hG (qn) (nn) hWX (by omega) (by omega)) gX3_kindFor_X3_bravestAs rfl ⟨rfl, rfl⟩ (by decide +kernel) rfl ⟨Nat.le_of_ble_eq_true rfl, Nat.le_of_ble_eq_true rfl⟩ hE (en_S hGA hs0 hS) hK hP (ci := 3) (q0 := 0) rfl rfl hl.1 rfl (Nat.le_of_ble_eq_true rfl) dX3_kindFor_36 ⟨Nat.zero_le _, Nat.zero_le _⟩ hS (fun _ h => h) (fun H1 locs hz hfr hB hS => ?_)
        obtain ⟨T, tq, la, tt, z, hP⟩ := hB
        generalize H1 = H at hP hS ⊢
        have hD : va_D (aX ad) (wX ci ad ((((nI (argTo (brave X.1 1 qn nn) 7).1, X) : Int32 × AS)).2) T tq la tt z) := wX_D hI
        have hp : p_kindFor X (nI qn) (nI nn) = ((((nI (argTo (brave X.1 1 qn nn) 7).1, X) : Int32 × AS)).1, (((nI (argTo (brave X.1 1 qn nn) 7).1, X) : Int32 × AS)).2) := by first | (simp [p_kindFor, bk, fl_eq, inP, c1, c2, c4, t_qn, i5, t_nn]; done) | (simp [p_kindFor, bk, fl_eq, inP, c1, c2, c4, t_qn, i5, t_nn] <;> omega)
        refine nv_cv (show (((nI (argTo (brave X.1 1 qn nn) 7).1, X) : Int32 × AS)).1 = (p_kindFor X (nI qn) (nI nn)).1 from by rw [hp]) ?_
        exact mu_iret hx hb hr hlocks hS ((by rw [hp]; exact ⟨_, _, _, _, _, hP⟩)) dX3_kindFor_39
      · have i6 : inN n 21 = false := in_f3 (by omega) c4
        refine lv_aload_n hx hb dX3_kindFor_18 rfl (lv_at hl 0 rfl) ?_
        refine lv_iconst (v := nI (0)) hx hb dX3_kindFor_19 (by decide) ?_
        refine mu_V (n := 1) (As := [.int (nI 0)]) (rest := []) ⟨hx, hb, hml, hown, hts⟩ (c_X3_finding l D ci G ka ad X T tq la tt z hI hG (0) hWX (by omega)) gX3_kindFor_X3_finding rfl ⟨rfl, rfl⟩ (by decide +kernel) rfl ⟨Nat.le_of_ble_eq_true rfl, Nat.le_of_ble_eq_true rfl⟩ hE (en_S hGA hs0 hS) hK hP (ci := 3) (q0 := 0) rfl rfl hl.1 rfl (Nat.le_of_ble_eq_true rfl) dX3_kindFor_20 ⟨Nat.zero_le _, Nat.zero_le _⟩ hS (fun _ h => h) (fun H1 locs hz hfr hB hS => ?_)
        obtain ⟨T, tq, la, tt, z, hP⟩ := hB
        generalize H1 = H at hP hS ⊢
        have hD : va_D (aX ad) (wX ci ad (toF X (inc X.2.2.2.1 0)) T tq la tt z) := wX_D hI
        have hp : p_kindFor X (nI qn) n = (fnd 0, toF X (inc X.2.2.2.1 0)) := by first | (simp [p_kindFor, bk, fl_eq, inP, c1, c2, c4, t_qn, i6]; done) | (simp [p_kindFor, bk, fl_eq, inP, c1, c2, c4, t_qn, i6] <;> omega)
        refine nv_cv (show fnd 0 = (p_kindFor X (nI qn) n).1 from by rw [hp]) ?_
        exact mu_iret hx hb hr hlocks hS ((by rw [hp]; exact ⟨_, _, _, _, _, hP⟩)) dX3_kindFor_23

set_option maxHeartbeats 4000000 in
set_option maxRecDepth 100000 in
/-- X3_seatFor -/
theorem c_X3_seatFor (l : Launch) (D : va_G) (ci : Nat → ClassId) (G : Nat → Prop) (ka : Nat) (ad : Nat → Nat) (X : AS) (T : OS) (tq la tt : Nat → Int32) (z : Nat → Nat → Int32) (hI : injA ad 48) (hG : ∀ k, k < 48 → G (ad k)) (q n : Int32) (hWX : WFX X) : Met l yX3_seatFor wsX3_seatFor ({ frames := 6, cells := 0, slots := 0, locals := 157 } : Room) (va_Pc [.ref (ad 0), .int (q), .int (n)] (ro_B D (tyL ci) (wX ci ad X T tq la tt z) (en D (ci 0) G ka))) (mu_Q (aX ad) (some (.int ((p_seatFor X q n).1))) (fun H => ∃ T tq la tt z, va_P D vwCl (wX ci ad ((p_seatFor X q n).2) T tq la tt z) H)) 0 0 (aX ad) := by
  refine mu_Met (cc := cX3_seatFor) (maxL := 3) (ret := (some .int)) [(0, .ref (ad 0)), (1, .int (q)), (2, .int (n))] (wX_D hI) (by decide) rfl (Nat.le_of_ble_eq_true rfl) rfl ?_
  intro p e s m below meth c H locs hx hb hml hr hlocks hts hown hP hK hs0 hD hS ls hl
  have hown : s.vm.findClass RX3 = some m.cls := hown
  have hinX0 : ∀ w ∈ wsX00, w ∈ wsX3_seatFor := by decide +kernel
  have hinX3 : ∀ w ∈ wsX30, w ∈ wsX3_seatFor := by decide +kernel
  have hE := hE_en D (ci 0) G ka
  have hWF := hWX.w
  have f_n := hWF.n
  have f_e := hWX.e
  have f_tl := hWX.t
  have hGA := aX_G hG
  have hWK := hWX.k
  refine lv_aload_n hx hb dX3_seatFor_0 rfl (lv_at hl 0 rfl) ?_
  refine lv_iload_n hx hb dX3_seatFor_1 rfl (lv_at hl 1 rfl) ?_
  refine ro_V (n := 1) (As := [.int (q)]) (rest := []) ⟨hx, hb, hml, hown, hts⟩ (c_X3_isPlayer l D ci G ka ad X T tq la tt z (q) hWX) gX3_seatFor_X3_isPlayer rfl ⟨rfl, rfl⟩ (by decide +kernel) rfl ⟨Nat.le_of_ble_eq_true rfl, Nat.le_of_ble_eq_true rfl⟩ hE (en_S hGA hs0 hS) hK hP (ci := 3) (q0 := 0) rfl rfl hl.1 rfl (Nat.le_of_ble_eq_true rfl) dX3_seatFor_2 ⟨Nat.zero_le _, Nat.zero_le _⟩ ?_
  refine nv_ifeq_b (tgt := 18) hx hb dX3_seatFor_5 (by decide) (fun c1 => ?_) (fun c1 => ?_)
  · refine lv_aload_n hx hb dX3_seatFor_18 rfl (lv_at hl 0 rfl) ?_
    refine lv_iconst (v := nI (0)) hx hb dX3_seatFor_19 (by decide) ?_
    refine mu_V (n := 1) (As := [.int (nI 0)]) (rest := []) ⟨hx, hb, hml, hown, hts⟩ (c_X3_finding l D ci G ka ad X T tq la tt z hI hG (0) hWX (by omega)) gX3_seatFor_X3_finding rfl ⟨rfl, rfl⟩ (by decide +kernel) rfl ⟨Nat.le_of_ble_eq_true rfl, Nat.le_of_ble_eq_true rfl⟩ hE (en_S hGA hs0 hS) hK hP (ci := 3) (q0 := 0) rfl rfl hl.1 rfl (Nat.le_of_ble_eq_true rfl) dX3_seatFor_20 ⟨Nat.zero_le _, Nat.zero_le _⟩ hS (fun _ h => h) (fun H1 locs hz hfr hB hS => ?_)
    obtain ⟨T, tq, la, tt, z, hP⟩ := hB
    generalize H1 = H at hP hS ⊢
    have hD : va_D (aX ad) (wX ci ad (toF X (inc X.2.2.2.1 0)) T tq la tt z) := wX_D hI
    have hp : p_seatFor X q n = (fnd 0, toF X (inc X.2.2.2.1 0)) := by first | (simp [p_seatFor, bk, fl_eq, inP, c1]; done) | (simp [p_seatFor, bk, fl_eq, inP, c1] <;> omega)
    refine nv_cv (show fnd 0 = (p_seatFor X q n).1 from by rw [hp]) ?_
    exact mu_iret hx hb hr hlocks hS ((by rw [hp]; exact ⟨_, _, _, _, _, hP⟩)) dX3_seatFor_23
  · obtain ⟨qn, h_qn, rfl⟩ := in_ex c1 (by omega)
    have t_qn : tn (nI qn) = qn := tn_nI (by omega)
    refine lv_iload_n hx hb dX3_seatFor_8 rfl (lv_at hl 2 rfl) ?_
    refine lv_if_lt (tgt := 18) hx hb dX3_seatFor_9 (by decide) (fun c2 => ?_) (fun c2 => ?_)
    · have i3 : ∀ u9, inN n u9 = false := fun u9 => in_f0 c2
      refine lv_aload_n hx hb dX3_seatFor_18 rfl (lv_at hl 0 rfl) ?_
      refine lv_iconst (v := nI (0)) hx hb dX3_seatFor_19 (by decide) ?_
      refine mu_V (n := 1) (As := [.int (nI 0)]) (rest := []) ⟨hx, hb, hml, hown, hts⟩ (c_X3_finding l D ci G ka ad X T tq la tt z hI hG (0) hWX (by omega)) gX3_seatFor_X3_finding rfl ⟨rfl, rfl⟩ (by decide +kernel) rfl ⟨Nat.le_of_ble_eq_true rfl, Nat.le_of_ble_eq_true rfl⟩ hE (en_S hGA hs0 hS) hK hP (ci := 3) (q0 := 0) rfl rfl hl.1 rfl (Nat.le_of_ble_eq_true rfl) dX3_seatFor_20 ⟨Nat.zero_le _, Nat.zero_le _⟩ hS (fun _ h => h) (fun H1 locs hz hfr hB hS => ?_)
      obtain ⟨T, tq, la, tt, z, hP⟩ := hB
      generalize H1 = H at hP hS ⊢
      have hD : va_D (aX ad) (wX ci ad (toF X (inc X.2.2.2.1 0)) T tq la tt z) := wX_D hI
      have hp : p_seatFor X (nI qn) n = (fnd 0, toF X (inc X.2.2.2.1 0)) := by first | (simp [p_seatFor, bk, fl_eq, inP, c1, c2, t_qn, i3]; done) | (simp [p_seatFor, bk, fl_eq, inP, c1, c2, t_qn, i3] <;> omega)
      refine nv_cv (show fnd 0 = (p_seatFor X (nI qn) n).1 from by rw [hp]) ?_
      exact mu_iret hx hb hr hlocks hS ((by rw [hp]; exact ⟨_, _, _, _, _, hP⟩)) dX3_seatFor_23
    · refine lv_iload_n hx hb dX3_seatFor_12 rfl (lv_at hl 2 rfl) ?_
      refine lv_bipush (v := nI (20)) hx hb dX3_seatFor_13 (by decide) ?_
      refine lv_icmp_le (tgt := 24) hx hb dX3_seatFor_15 (by decide) (fun c4 => ?_) (fun c4 => ?_)
      · have i5 : inN n 21 = true := in_t3 (by omega) c2 c4
        obtain ⟨nn, h_nn, rfl⟩ := in_ex i5 (by omega)
        have t_nn : tn (nI nn) = nn := tn_nI (by omega)
        refine lv_aload_n hx hb dX3_seatFor_24 rfl (lv_at hl 0 rfl) ?_
        refine lv_aload_n hx hb dX3_seatFor_25 rfl (lv_at hl 0 rfl) ?_
        refine va_get (D := D) (ci := 3) (v := .ref (ad 16)) (C := RX3) (T := TX3) (N := 9) hx hb hts hinX3 hown hK hP 0 rfl rfl 1 (by decide) (hts (.fieldLink RX3 16 "OneShort" "trial" "LOneShort$Orchestra;") (List.mem_of_getElem? (i := 1) rfl)) (fun _ h9 => h9) rfl dX3_seatFor_26 ?_
        refine va_get (D := D) (ci := 0) (v := .ref (ad 19)) (C := RX0) (T := TX0) (N := 13) hx hb hts hinX0 hown hK hP 16 rfl rfl 2 (by decide) (hts (.fieldLink RX3 87 "OneShort$Orchestra" "seat" "[I") (List.mem_of_getElem? (i := 2) rfl)) (fun _ h9 => h9) rfl dX3_seatFor_29 ?_
        refine lv_iload_n hx hb dX3_seatFor_32 rfl (lv_at hl 1 rfl) ?_
        refine lv_bipush (v := nI (16)) hx hb dX3_seatFor_33 (by decide) ?_
        refine lv_iload_n hx hb dX3_seatFor_35 rfl (lv_at hl 2 rfl) ?_
        refine mu_V (n := 4) (As := [.ref (ad 19), .int (nI qn), .int (nI 16), .int (nI nn)]) (rest := []) ⟨hx, hb, hml, hown, hts⟩ (c_X3_bravestAs_2 l D ci G ka ad X T tq la tt z hI hG (qn) (nn) hWX (by omega) (by omega)) gX3_seatFor_X3_bravestAs rfl ⟨rfl, rfl⟩ (by decide +kernel) rfl ⟨Nat.le_of_ble_eq_true rfl, Nat.le_of_ble_eq_true rfl⟩ hE (en_S hGA hs0 hS) hK hP (ci := 3) (q0 := 0) rfl rfl hl.1 rfl (Nat.le_of_ble_eq_true rfl) dX3_seatFor_36 ⟨Nat.zero_le _, Nat.zero_le _⟩ hS (fun _ h => h) (fun H1 locs hz hfr hB hS => ?_)
        obtain ⟨T, tq, la, tt, z, hP⟩ := hB
        generalize H1 = H at hP hS ⊢
        have hD : va_D (aX ad) (wX ci ad ((((nI (argTo (brave X.1 2 qn nn) 16).1, X) : Int32 × AS)).2) T tq la tt z) := wX_D hI
        have hp : p_seatFor X (nI qn) (nI nn) = ((((nI (argTo (brave X.1 2 qn nn) 16).1, X) : Int32 × AS)).1, (((nI (argTo (brave X.1 2 qn nn) 16).1, X) : Int32 × AS)).2) := by first | (simp [p_seatFor, bk, fl_eq, inP, c1, c2, c4, t_qn, i5, t_nn]; done) | (simp [p_seatFor, bk, fl_eq, inP, c1, c2, c4, t_qn, i5, t_nn] <;> omega)
        refine nv_cv (show (((nI (argTo (brave X.1 2 qn nn) 16).1, X) : Int32 × AS)).1 = (p_seatFor X (nI qn) (nI nn)).1 from by rw [hp]) ?_
        exact mu_iret hx hb hr hlocks hS ((by rw [hp]; exact ⟨_, _, _, _, _, hP⟩)) dX3_seatFor_39
      · have i6 : inN n 21 = false := in_f3 (by omega) c4
        refine lv_aload_n hx hb dX3_seatFor_18 rfl (lv_at hl 0 rfl) ?_
        refine lv_iconst (v := nI (0)) hx hb dX3_seatFor_19 (by decide) ?_
        refine mu_V (n := 1) (As := [.int (nI 0)]) (rest := []) ⟨hx, hb, hml, hown, hts⟩ (c_X3_finding l D ci G ka ad X T tq la tt z hI hG (0) hWX (by omega)) gX3_seatFor_X3_finding rfl ⟨rfl, rfl⟩ (by decide +kernel) rfl ⟨Nat.le_of_ble_eq_true rfl, Nat.le_of_ble_eq_true rfl⟩ hE (en_S hGA hs0 hS) hK hP (ci := 3) (q0 := 0) rfl rfl hl.1 rfl (Nat.le_of_ble_eq_true rfl) dX3_seatFor_20 ⟨Nat.zero_le _, Nat.zero_le _⟩ hS (fun _ h => h) (fun H1 locs hz hfr hB hS => ?_)
        obtain ⟨T, tq, la, tt, z, hP⟩ := hB
        generalize H1 = H at hP hS ⊢
        have hD : va_D (aX ad) (wX ci ad (toF X (inc X.2.2.2.1 0)) T tq la tt z) := wX_D hI
        have hp : p_seatFor X (nI qn) n = (fnd 0, toF X (inc X.2.2.2.1 0)) := by first | (simp [p_seatFor, bk, fl_eq, inP, c1, c2, c4, t_qn, i6]; done) | (simp [p_seatFor, bk, fl_eq, inP, c1, c2, c4, t_qn, i6] <;> omega)
        refine nv_cv (show fnd 0 = (p_seatFor X (nI qn) n).1 from by rw [hp]) ?_
        exact mu_iret hx hb hr hlocks hS ((by rw [hp]; exact ⟨_, _, _, _, _, hP⟩)) dX3_seatFor_23

set_option maxHeartbeats 4000000 in
set_option maxRecDepth 100000 in
/-- X3_who -/
theorem c_X3_who (l : Launch) (D : va_G) (ci : Nat → ClassId) (G : Nat → Prop) (ka : Nat) (ad : Nat → Nat) (X : AS) (T : OS) (tq la tt : Nat → Int32) (z : Nat → Nat → Int32) (hI : injA ad 48) (hG : ∀ k, k < 48 → G (ad k)) (b : Int32) (hWX : WFX X) : Met l yX3_who wsX3_who ({ frames := 3, cells := 0, slots := 0, locals := 67 } : Room) (va_Pc [.ref (ad 0), .int (b)] (ro_B D (tyL ci) (wX ci ad X T tq la tt z) (en D (ci 0) G ka))) (mu_Q (aX ad) (some (.int ((p_who X b).1))) (fun H => ∃ T tq la tt z, va_P D vwCl (wX ci ad ((p_who X b).2) T tq la tt z) H)) 0 0 (aX ad) := by
  refine mu_Met (cc := cX3_who) (maxL := 4) (ret := (some .int)) [(0, .ref (ad 0)), (1, .int (b))] (wX_D hI) (by decide) rfl (Nat.le_of_ble_eq_true rfl) rfl ?_
  intro p e s m below meth c H locs hx hb hml hr hlocks hts hown hP hK hs0 hD hS ls hl
  have hown : s.vm.findClass RX3 = some m.cls := hown
  have hinX0 : ∀ w ∈ wsX00, w ∈ wsX3_who := by decide +kernel
  have hinX3 : ∀ w ∈ wsX30, w ∈ wsX3_who := by decide +kernel
  have hE := hE_en D (ci 0) G ka
  have hWF := hWX.w
  have f_n := hWF.n
  have f_e := hWX.e
  have f_tl := hWX.t
  have hGA := aX_G hG
  have hWK := hWX.k
  refine lv_iload_n hx hb dX3_who_0 rfl (lv_at hl 1 rfl) ?_
  refine lv_if_lt (tgt := 11) hx hb dX3_who_1 (by decide) (fun c1 => ?_) (fun c1 => ?_)
  · have i2 : ∀ u9, inN b u9 = false := fun u9 => in_f0 c1
    refine lv_aload_n hx hb dX3_who_11 rfl (lv_at hl 0 rfl) ?_
    refine lv_iconst (v := nI (0)) hx hb dX3_who_12 (by decide) ?_
    refine mu_V (n := 1) (As := [.int (nI 0)]) (rest := []) ⟨hx, hb, hml, hown, hts⟩ (c_X3_finding l D ci G ka ad X T tq la tt z hI hG (0) hWX (by omega)) gX3_who_X3_finding rfl ⟨rfl, rfl⟩ (by decide +kernel) rfl ⟨Nat.le_of_ble_eq_true rfl, Nat.le_of_ble_eq_true rfl⟩ hE (en_S hGA hs0 hS) hK hP (ci := 3) (q0 := 0) rfl rfl hl.1 rfl (Nat.le_of_ble_eq_true rfl) dX3_who_13 ⟨Nat.zero_le _, Nat.zero_le _⟩ hS (fun _ h => h) (fun H1 locs hz hfr hB hS => ?_)
    obtain ⟨T, tq, la, tt, z, hP⟩ := hB
    generalize H1 = H at hP hS ⊢
    have hD : va_D (aX ad) (wX ci ad (toF X (inc X.2.2.2.1 0)) T tq la tt z) := wX_D hI
    have hp : p_who X b = (fnd 0, toF X (inc X.2.2.2.1 0)) := by first | (simp [p_who, bk, fl_eq, c1, i2]; done) | (simp [p_who, bk, fl_eq, show X.1 7 0 = i by omega, c1, i2]; done)
    refine nv_cv (show fnd 0 = (p_who X b).1 from by rw [hp]) ?_
    exact mu_iret hx hb hr hlocks hS ((by rw [hp]; exact ⟨_, _, _, _, _, hP⟩)) dX3_who_16
  · refine lv_iload_n hx hb dX3_who_4 rfl (lv_at hl 1 rfl) ?_
    refine lv_sipush (v := nI (4095)) hx hb dX3_who_5 (by decide) ?_
    refine lv_icmp_le (tgt := 17) hx hb dX3_who_8 (by decide) (fun c3 => ?_) (fun c3 => ?_)
    · have i4 : inN b 4096 = true := in_t3 (by omega) c1 c3
      obtain ⟨bn, h_bn, rfl⟩ := in_ex i4 (by omega)
      have t_bn : tn (nI bn) = bn := tn_nI (by omega)
      refine lv_iconst (v := nI (0)) hx hb dX3_who_17 (by decide) ?_
      refine lv_istore_n (lv' := [(2, .int (nI 0)), (0, .ref (ad 0)), (1, .int (nI bn))]) hx hb dX3_who_18 rfl hl (by decide) rfl (fun ls hl => ?_)
      refine lv_iconst (v := nI (0)) hx hb dX3_who_19 (by decide) ?_
      refine lv_istore_n (lv' := [(3, .int (nI 0)), (2, .int (nI 0)), (0, .ref (ad 0)), (1, .int (nI bn))]) hx hb dX3_who_20 rfl hl (by decide) rfl (fun ls hl => ?_)
      have L21 : ∀ (k21 : Nat) (i : Nat), X.1 7 0 - i < k21 → (i ≤ X.1 7 0) → ∀ (x2 x3 : Int32), x2 = nI (setTo (fun q => bPlay X.1 q == bn) (i)) → x3 = nI (i) → ∀ ls : Array Slot, lv_has ls 4 [(2, .int (x2)), (3, .int (x3)), (0, .ref (ad 0)), (1, .int (nI bn))] → W p l e (headSpec wsX3_who ({ frames := 3, cells := 0, slots := 0, locals := 67 } : Room)).room s m ([.ref (ad 0), .int (nI bn)] : List Value).toArray below meth c H locs 0 0 (MQ below (mu_Q (aX ad) (some (.int ((p_who X (nI bn)).1))) (fun H => ∃ T tq la tt z, va_P D vwCl (wX ci ad ((p_who X (nI bn)).2) T tq la tt z) H)) ([.ref (ad 0), .int (nI bn)] : List Value).toArray s 0 0 (aX ad)) (F0 m 21 ls []) := by
        intro k21
        induction k21 with
        | zero => intro i h0; exact absurd h0 (Nat.not_lt_zero _)
        | succ k21 ih21 =>
          intro i hk21 h_i x2 x3 e2 e3 ls hl
          subst e2
          subst e3
          refine lv_iload_n hx hb dX3_who_21 rfl (lv_at hl 1 rfl) ?_
          refine lv_aload_n hx hb dX3_who_22 rfl (lv_at hl 2 rfl) ?_
          refine va_get (D := D) (ci := 3) (v := .ref (ad 5)) (C := RX3) (T := TX3) (N := 9) hx hb hts hinX3 hown hK hP 0 rfl rfl 0 (by decide) (hts (.fieldLink RX3 10 "OneShort" "orchestra" "LOneShort$Orchestra;") (List.mem_of_getElem? (i := 1) rfl)) (fun _ h9 => h9) rfl dX3_who_23 ?_
          refine va_get (D := D) (ci := 0) (v := .int (nI (X.1 7 0))) (C := RX0) (T := TX0) (N := 13) hx hb hts hinX0 hown hK hP 5 rfl rfl 7 (by decide) (hts (.fieldLink RX3 73 "OneShort$Orchestra" "size" "I") (List.mem_of_getElem? (i := 2) rfl)) (fun _ h9 => h9) rfl dX3_who_26 ?_
          refine nv_icmp_ge (tgt := 56) hx hb (by omega) (by omega) dX3_who_29 (by decide) (fun c5 => ?_) (fun c5 => ?_)
          · refine lv_iload_n hx hb dX3_who_56 rfl (lv_at hl 0 rfl) ?_
            have hp : p_who X (nI bn) = (nI (setTo (fun q => bPlay X.1 q == bn) (i)), X) := by first | (simp [p_who, bk, fl_eq, c1, c3, c5, i4, t_bn]; done) | (simp [p_who, bk, fl_eq, show X.1 7 0 = i by omega, c1, c3, c5, i4, t_bn]; done)
            refine nv_cv (show nI (setTo (fun q => bPlay X.1 q == bn) (i)) = (p_who X (nI bn)).1 from by rw [hp]) ?_
            exact mu_iret hx hb hr hlocks hS ((by rw [hp]; exact ⟨_, _, _, _, _, hP⟩)) dX3_who_57
          · refine lv_aload_n hx hb dX3_who_32 rfl (lv_at hl 2 rfl) ?_
            refine va_get (D := D) (ci := 3) (v := .ref (ad 5)) (C := RX3) (T := TX3) (N := 9) hx hb hts hinX3 hown hK hP 0 rfl rfl 0 (by decide) (hts (.fieldLink RX3 10 "OneShort" "orchestra" "LOneShort$Orchestra;") (List.mem_of_getElem? (i := 1) rfl)) (fun _ h9 => h9) rfl dX3_who_33 ?_
            refine lv_iload_n hx hb dX3_who_36 rfl (lv_at hl 1 rfl) ?_
            refine ro_V (n := 1) (As := [.int (nI i)]) (rest := []) ⟨hx, hb, hml, hown, hts⟩ (c_X0_barsPlayed l D ci G ka (sh ad 5) X.1 (z 0) (z 1) (z 2) (i) hWF (by omega)) gX3_who_X0_barsPlayed rfl ⟨rfl, rfl⟩ (by decide +kernel) rfl ⟨Nat.le_of_ble_eq_true rfl, Nat.le_of_ble_eq_true rfl⟩ hE (en_S hGA hs0 hS) hK (wX_s5 hP) (ci := 0) (q0 := 0) rfl rfl hl.1 rfl (Nat.le_of_ble_eq_true rfl) dX3_who_37 ⟨Nat.zero_le _, Nat.zero_le _⟩ ?_
            have f6 := bPlay_lt X.1 (i)
            refine lv_iload_n hx hb dX3_who_40 rfl (lv_at hl 3 rfl) ?_
            refine nv_icmp_ne (tgt := 50) hx hb (by omega) (by omega) dX3_who_41 (by decide) (fun c7 => ?_) (fun c7 => ?_)
            · refine nv_iinc1 (lv' := [(3, .int (nI (i + 1))), (2, .int (nI (setTo (fun q => bPlay X.1 q == bn) (i)))), (0, .ref (ad 0)), (1, .int (nI bn))]) hx hb dX3_who_50 hl (k := 1) rfl (by decide) rfl (fun ls hl => ?_)
              refine lv_goto (tgt := 21) hx hb dX3_who_53 (by decide) ?_
              exact ih21 (i + 1) (by omega) (by omega) (nI (setTo (fun q => bPlay X.1 q == bn) (i))) (nI (i + 1)) (nv_e (by first | exact setTo_t (by simp [c7]) | exact setTo_f (by simp [c7]))) rfl ls (lv_sub hl [1, 0, 2, 3] rfl)
            · refine lv_iload_n hx hb dX3_who_44 rfl (lv_at hl 0 rfl) ?_
              refine lv_iconst (v := nI (1)) hx hb dX3_who_45 (by decide) ?_
              refine lv_iload_n hx hb dX3_who_46 rfl (lv_at hl 1 rfl) ?_
              refine nv_ishl hx hb (by omega) dX3_who_47 ?_
              refine nv_ior hx hb dX3_who_48 ?_
              refine lv_istore_n (lv' := [(2, .int (nI ((setTo (fun q => bPlay X.1 q == bn) (i) ||| (1 * 2 ^ (i)))))), (3, .int (nI i)), (0, .ref (ad 0)), (1, .int (nI bn))]) hx hb dX3_who_49 rfl hl (by decide) rfl (fun ls hl => ?_)
              refine nv_iinc1 (lv' := [(3, .int (nI (i + 1))), (2, .int (nI ((setTo (fun q => bPlay X.1 q == bn) (i) ||| (1 * 2 ^ (i)))))), (0, .ref (ad 0)), (1, .int (nI bn))]) hx hb dX3_who_50 hl (k := 1) rfl (by decide) rfl (fun ls hl => ?_)
              refine lv_goto (tgt := 21) hx hb dX3_who_53 (by decide) ?_
              exact ih21 (i + 1) (by omega) (by omega) (nI ((setTo (fun q => bPlay X.1 q == bn) (i) ||| (1 * 2 ^ (i))))) (nI (i + 1)) (nv_e (by first | exact setTo_t (by simp [c7]) | exact setTo_f (by simp [c7]))) rfl ls (lv_sub hl [1, 0, 2, 3] rfl)
      exact L21 _ (0) (Nat.lt_succ_self _) (by omega) (nI (0)) (nI (0)) rfl rfl ls (lv_sub hl [1, 0, 2, 3] rfl)
    · have i8 : inN b 4096 = false := in_f3 (by omega) c3
      refine lv_aload_n hx hb dX3_who_11 rfl (lv_at hl 0 rfl) ?_
      refine lv_iconst (v := nI (0)) hx hb dX3_who_12 (by decide) ?_
      refine mu_V (n := 1) (As := [.int (nI 0)]) (rest := []) ⟨hx, hb, hml, hown, hts⟩ (c_X3_finding l D ci G ka ad X T tq la tt z hI hG (0) hWX (by omega)) gX3_who_X3_finding rfl ⟨rfl, rfl⟩ (by decide +kernel) rfl ⟨Nat.le_of_ble_eq_true rfl, Nat.le_of_ble_eq_true rfl⟩ hE (en_S hGA hs0 hS) hK hP (ci := 3) (q0 := 0) rfl rfl hl.1 rfl (Nat.le_of_ble_eq_true rfl) dX3_who_13 ⟨Nat.zero_le _, Nat.zero_le _⟩ hS (fun _ h => h) (fun H1 locs hz hfr hB hS => ?_)
      obtain ⟨T, tq, la, tt, z, hP⟩ := hB
      generalize H1 = H at hP hS ⊢
      have hD : va_D (aX ad) (wX ci ad (toF X (inc X.2.2.2.1 0)) T tq la tt z) := wX_D hI
      have hp : p_who X b = (fnd 0, toF X (inc X.2.2.2.1 0)) := by first | (simp [p_who, bk, fl_eq, c1, c3, i8]; done) | (simp [p_who, bk, fl_eq, show X.1 7 0 = i by omega, c1, c3, i8]; done)
      refine nv_cv (show fnd 0 = (p_who X b).1 from by rw [hp]) ?_
      exact mu_iret hx hb hr hlocks hS ((by rw [hp]; exact ⟨_, _, _, _, _, hP⟩)) dX3_who_16

set_option maxHeartbeats 4000000 in
set_option maxRecDepth 100000 in
/-- X3_loudFor -/
theorem c_X3_loudFor (l : Launch) (D : va_G) (ci : Nat → ClassId) (G : Nat → Prop) (ka : Nat) (ad : Nat → Nat) (X : AS) (T : OS) (tq la tt : Nat → Int32) (z : Nat → Nat → Int32) (hI : injA ad 48) (hG : ∀ k, k < 48 → G (ad k)) (q sv b : Int32) (hWX : WFX X) : Met l yX3_loudFor wsX3_loudFor ({ frames := 4, cells := 0, slots := 0, locals := 89 } : Room) (va_Pc [.ref (ad 0), .int (q), .int (sv), .int (b)] (ro_B D (tyL ci) (wX ci ad X T tq la tt z) (en D (ci 0) G ka))) (mu_Q (aX ad) (some (.int ((p_loudFor X q sv b).1))) (fun H => ∃ T tq la tt z, va_P D vwCl (wX ci ad ((p_loudFor X q sv b).2) T tq la tt z) H)) 0 0 (aX ad) := by
  refine mu_Met (cc := cX3_loudFor) (maxL := 5) (ret := (some .int)) [(0, .ref (ad 0)), (1, .int (q)), (2, .int (sv)), (3, .int (b))] (wX_D hI) (by decide) rfl (Nat.le_of_ble_eq_true rfl) rfl ?_
  intro p e s m below meth c H locs hx hb hml hr hlocks hts hown hP hK hs0 hD hS ls hl
  have hown : s.vm.findClass RX3 = some m.cls := hown
  have hinX0 : ∀ w ∈ wsX00, w ∈ wsX3_loudFor := by decide +kernel
  have hinX3 : ∀ w ∈ wsX30, w ∈ wsX3_loudFor := by decide +kernel
  have hE := hE_en D (ci 0) G ka
  have hWF := hWX.w
  have f_n := hWF.n
  have f_e := hWX.e
  have f_tl := hWX.t
  have hGA := aX_G hG
  have hWK := hWX.k
  refine lv_aload_n hx hb dX3_loudFor_0 rfl (lv_at hl 0 rfl) ?_
  refine lv_iload_n hx hb dX3_loudFor_1 rfl (lv_at hl 1 rfl) ?_
  refine ro_V (n := 1) (As := [.int (q)]) (rest := []) ⟨hx, hb, hml, hown, hts⟩ (c_X3_isPlayer l D ci G ka ad X T tq la tt z (q) hWX) gX3_loudFor_X3_isPlayer rfl ⟨rfl, rfl⟩ (by decide +kernel) rfl ⟨Nat.le_of_ble_eq_true rfl, Nat.le_of_ble_eq_true rfl⟩ hE (en_S hGA hs0 hS) hK hP (ci := 3) (q0 := 0) rfl rfl hl.1 rfl (Nat.le_of_ble_eq_true rfl) dX3_loudFor_2 ⟨Nat.zero_le _, Nat.zero_le _⟩ ?_
  refine nv_ifeq_b (tgt := 24) hx hb dX3_loudFor_5 (by decide) (fun c1 => ?_) (fun c1 => ?_)
  · refine lv_aload_n hx hb dX3_loudFor_24 rfl (lv_at hl 0 rfl) ?_
    refine lv_iconst (v := nI (0)) hx hb dX3_loudFor_25 (by decide) ?_
    refine mu_V (n := 1) (As := [.int (nI 0)]) (rest := []) ⟨hx, hb, hml, hown, hts⟩ (c_X3_finding l D ci G ka ad X T tq la tt z hI hG (0) hWX (by omega)) gX3_loudFor_X3_finding rfl ⟨rfl, rfl⟩ (by decide +kernel) rfl ⟨Nat.le_of_ble_eq_true rfl, Nat.le_of_ble_eq_true rfl⟩ hE (en_S hGA hs0 hS) hK hP (ci := 3) (q0 := 0) rfl rfl hl.1 rfl (Nat.le_of_ble_eq_true rfl) dX3_loudFor_26 ⟨Nat.zero_le _, Nat.zero_le _⟩ hS (fun _ h => h) (fun H1 locs hz hfr hB hS => ?_)
    obtain ⟨T, tq, la, tt, z, hP⟩ := hB
    generalize H1 = H at hP hS ⊢
    have hD : va_D (aX ad) (wX ci ad (toF X (inc X.2.2.2.1 0)) T tq la tt z) := wX_D hI
    have hp : p_loudFor X q sv b = (fnd 0, toF X (inc X.2.2.2.1 0)) := by first | (simp [p_loudFor, inP, bk, fl_eq, c1]; done) | (simp [p_loudFor, inP, bk, fl_eq, show ¬ dist (X.1 2 qn) svn ≤ 8 by omega, c1]; done) | (simp [p_loudFor, inP, bk, fl_eq, show dist (X.1 2 qn) svn ≤ 8 by omega, c1]; done)
    refine nv_cv (show fnd 0 = (p_loudFor X q sv b).1 from by rw [hp]) ?_
    exact mu_iret hx hb hr hlocks hS ((by rw [hp]; exact ⟨_, _, _, _, _, hP⟩)) dX3_loudFor_29
  · obtain ⟨qn, h_qn, rfl⟩ := in_ex c1 (by omega)
    have t_qn : tn (nI qn) = qn := tn_nI (by omega)
    refine lv_aload_n hx hb dX3_loudFor_8 rfl (lv_at hl 0 rfl) ?_
    refine lv_iload_n hx hb dX3_loudFor_9 rfl (lv_at hl 2 rfl) ?_
    refine ro_V (n := 1) (As := [.int (sv)]) (rest := []) ⟨hx, hb, hml, hown, hts⟩ (c_X3_isSeat l D ci G ka ad X T tq la tt z (sv) hWX) gX3_loudFor_X3_isSeat rfl ⟨rfl, rfl⟩ (by decide +kernel) rfl ⟨Nat.le_of_ble_eq_true rfl, Nat.le_of_ble_eq_true rfl⟩ hE (en_S hGA hs0 hS) hK hP (ci := 3) (q0 := 0) rfl rfl hl.1 rfl (Nat.le_of_ble_eq_true rfl) dX3_loudFor_10 ⟨Nat.zero_le _, Nat.zero_le _⟩ ?_
    refine nv_ifeq_b (tgt := 24) hx hb dX3_loudFor_13 (by decide) (fun c2 => ?_) (fun c2 => ?_)
    · refine lv_aload_n hx hb dX3_loudFor_24 rfl (lv_at hl 0 rfl) ?_
      refine lv_iconst (v := nI (0)) hx hb dX3_loudFor_25 (by decide) ?_
      refine mu_V (n := 1) (As := [.int (nI 0)]) (rest := []) ⟨hx, hb, hml, hown, hts⟩ (c_X3_finding l D ci G ka ad X T tq la tt z hI hG (0) hWX (by omega)) gX3_loudFor_X3_finding rfl ⟨rfl, rfl⟩ (by decide +kernel) rfl ⟨Nat.le_of_ble_eq_true rfl, Nat.le_of_ble_eq_true rfl⟩ hE (en_S hGA hs0 hS) hK hP (ci := 3) (q0 := 0) rfl rfl hl.1 rfl (Nat.le_of_ble_eq_true rfl) dX3_loudFor_26 ⟨Nat.zero_le _, Nat.zero_le _⟩ hS (fun _ h => h) (fun H1 locs hz hfr hB hS => ?_)
      obtain ⟨T, tq, la, tt, z, hP⟩ := hB
      generalize H1 = H at hP hS ⊢
      have hD : va_D (aX ad) (wX ci ad (toF X (inc X.2.2.2.1 0)) T tq la tt z) := wX_D hI
      have hp : p_loudFor X (nI qn) sv b = (fnd 0, toF X (inc X.2.2.2.1 0)) := by first | (simp [p_loudFor, inP, bk, fl_eq, c1, c2, t_qn]; done) | (simp [p_loudFor, inP, bk, fl_eq, show ¬ dist (X.1 2 qn) svn ≤ 8 by omega, c1, c2, t_qn]; done) | (simp [p_loudFor, inP, bk, fl_eq, show dist (X.1 2 qn) svn ≤ 8 by omega, c1, c2, t_qn]; done)
      refine nv_cv (show fnd 0 = (p_loudFor X (nI qn) sv b).1 from by rw [hp]) ?_
      exact mu_iret hx hb hr hlocks hS ((by rw [hp]; exact ⟨_, _, _, _, _, hP⟩)) dX3_loudFor_29
    · obtain ⟨svn, h_svn, rfl⟩ := in_ex c2 (by omega)
      have t_svn : tn (nI svn) = svn := tn_nI (by omega)
      refine lv_aload_n hx hb dX3_loudFor_16 rfl (lv_at hl 0 rfl) ?_
      refine lv_iload_n hx hb dX3_loudFor_17 rfl (lv_at hl 3 rfl) ?_
      refine ro_V (n := 1) (As := [.int (b)]) (rest := []) ⟨hx, hb, hml, hown, hts⟩ (c_X3_isBar l D ci G ka ad X T tq la tt z (b) hWX) gX3_loudFor_X3_isBar rfl ⟨rfl, rfl⟩ (by decide +kernel) rfl ⟨Nat.le_of_ble_eq_true rfl, Nat.le_of_ble_eq_true rfl⟩ hE (en_S hGA hs0 hS) hK hP (ci := 3) (q0 := 0) rfl rfl hl.1 rfl (Nat.le_of_ble_eq_true rfl) dX3_loudFor_18 ⟨Nat.zero_le _, Nat.zero_le _⟩ ?_
      refine nv_ifne_b (tgt := 30) hx hb dX3_loudFor_21 (by decide) (fun c3 => ?_) (fun c3 => ?_)
      · obtain ⟨bn, h_bn, rfl⟩ := in_ex c3 (by omega)
        have t_bn : tn (nI bn) = bn := tn_nI (by omega)
        refine lv_aload_n hx hb dX3_loudFor_30 rfl (lv_at hl 0 rfl) ?_
        refine va_get (D := D) (ci := 3) (v := .ref (ad 5)) (C := RX3) (T := TX3) (N := 9) hx hb hts hinX3 hown hK hP 0 rfl rfl 0 (by decide) (hts (.fieldLink RX3 10 "OneShort" "orchestra" "LOneShort$Orchestra;") (List.mem_of_getElem? (i := 1) rfl)) (fun _ h9 => h9) rfl dX3_loudFor_31 ?_
        refine va_get (D := D) (ci := 0) (v := .ref (ad 8)) (C := RX0) (T := TX0) (N := 13) hx hb hts hinX0 hown hK hP 5 rfl rfl 2 (by decide) (hts (.fieldLink RX3 87 "OneShort$Orchestra" "seat" "[I") (List.mem_of_getElem? (i := 2) rfl)) (fun _ h9 => h9) rfl dX3_loudFor_34 ?_
        refine lv_iload_n hx hb dX3_loudFor_37 rfl (lv_at hl 1 rfl) ?_
        have f4 := hWF.f2 (qn)
        refine nv_iald (v := nI (X.1 2 (qn))) hx hb hK hP 8 0 rfl rfl (by omega) (by decide) rfl dX3_loudFor_38 ?_
        refine lv_iload_n hx hb dX3_loudFor_39 rfl (lv_at hl 2 rfl) ?_
        refine lv_isub hx hb dX3_loudFor_40 ?_
        refine va_mabs hx hb (hml.trans hl.1.symm) hown (hts (.methodLink RX3 183 Lib.Math.abs.name) (List.mem_of_getElem? (i := 3) rfl)) (hts (.static Lib.Math.abs.name) (List.mem_of_getElem? (i := 4) rfl)) (hts (.initialized "java/lang/Math") (List.mem_of_getElem? (i := 5) rfl)) (hts (.code Lib.Math.abs.name Lib.Math.abs.code 1 (some .int)) (List.mem_of_getElem? (i := 6) rfl)) (Nat.le_of_ble_eq_true rfl) (Nat.le_of_ble_eq_true rfl) (Nat.zero_le _) (Nat.zero_le _) dX3_loudFor_41 (nv_cv (nv_abs (x := X.1 2 (qn)) (y := svn) (by omega) (by omega)) ?_)
        have f5 := dist_le (X.1 2 (qn)) (svn)
        refine lv_iconst (v := nI (1)) hx hb dX3_loudFor_44 (by decide) ?_
        refine nv_iadd hx hb dX3_loudFor_45 ?_
        refine lv_istore (lv' := [(4, .int (nI ((dist (X.1 2 (qn)) (svn) + 1)))), (0, .ref (ad 0)), (1, .int (nI qn)), (2, .int (nI svn)), (3, .int (nI bn))]) hx hb dX3_loudFor_46 hl (by decide) rfl (fun ls hl => ?_)
        refine lv_iload hx hb dX3_loudFor_48 (lv_at hl 0 rfl) ?_
        refine lv_bipush (v := nI (9)) hx hb dX3_loudFor_50 (by decide) ?_
        refine nv_icmp_gt (tgt := 67) hx hb (by omega) (by omega) dX3_loudFor_52 (by decide) (fun c6 => ?_) (fun c6 => ?_)
        · refine lv_aload_n hx hb dX3_loudFor_67 rfl (lv_at hl 1 rfl) ?_
          refine lv_iconst (v := nI (3)) hx hb dX3_loudFor_68 (by decide) ?_
          refine mu_V (n := 1) (As := [.int (nI 3)]) (rest := []) ⟨hx, hb, hml, hown, hts⟩ (c_X3_finding l D ci G ka ad X T tq la tt z hI hG (3) hWX (by omega)) gX3_loudFor_X3_finding rfl ⟨rfl, rfl⟩ (by decide +kernel) rfl ⟨Nat.le_of_ble_eq_true rfl, Nat.le_of_ble_eq_true rfl⟩ hE (en_S hGA hs0 hS) hK hP (ci := 3) (q0 := 0) rfl rfl hl.1 rfl (Nat.le_of_ble_eq_true rfl) dX3_loudFor_69 ⟨Nat.zero_le _, Nat.zero_le _⟩ hS (fun _ h => h) (fun H1 locs hz hfr hB hS => ?_)
          obtain ⟨T, tq, la, tt, z, hP⟩ := hB
          generalize H1 = H at hP hS ⊢
          have hD : va_D (aX ad) (wX ci ad (toF X (inc X.2.2.2.1 3)) T tq la tt z) := wX_D hI
          have hp : p_loudFor X (nI qn) (nI svn) (nI bn) = (fnd 3, toF X (inc X.2.2.2.1 3)) := by first | (simp [p_loudFor, inP, bk, fl_eq, c1, c2, c3, c6, t_qn, t_svn, t_bn]; done) | (simp [p_loudFor, inP, bk, fl_eq, show ¬ dist (X.1 2 qn) svn ≤ 8 by omega, c1, c2, c3, c6, t_qn, t_svn, t_bn]; done) | (simp [p_loudFor, inP, bk, fl_eq, show dist (X.1 2 qn) svn ≤ 8 by omega, c1, c2, c3, c6, t_qn, t_svn, t_bn]; done)
          refine nv_cv (show fnd 3 = (p_loudFor X (nI qn) (nI svn) (nI bn)).1 from by rw [hp]) ?_
          exact mu_iret hx hb hr hlocks hS ((by rw [hp]; exact ⟨_, _, _, _, _, hP⟩)) dX3_loudFor_72
        · refine lv_aload_n hx hb dX3_loudFor_55 rfl (lv_at hl 1 rfl) ?_
          refine va_get (D := D) (ci := 3) (v := .ref (ad 5)) (C := RX3) (T := TX3) (N := 9) hx hb hts hinX3 hown hK hP 0 rfl rfl 0 (by decide) (hts (.fieldLink RX3 10 "OneShort" "orchestra" "LOneShort$Orchestra;") (List.mem_of_getElem? (i := 1) rfl)) (fun _ h9 => h9) rfl dX3_loudFor_56 ?_
          refine lv_iload_n hx hb dX3_loudFor_59 rfl (lv_at hl 2 rfl) ?_
          refine lv_iload_n hx hb dX3_loudFor_60 rfl (lv_at hl 4 rfl) ?_
          refine ro_V (n := 2) (As := [.int (nI qn), .int (nI bn)]) (rest := []) ⟨hx, hb, hml, hown, hts⟩ (c_X0_isPlaying l D ci G ka (sh ad 5) X.1 (z 0) (z 1) (z 2) (qn) (bn) hWF (by omega) (by omega)) gX3_loudFor_X0_isPlaying rfl ⟨rfl, rfl⟩ (by decide +kernel) rfl ⟨Nat.le_of_ble_eq_true rfl, Nat.le_of_ble_eq_true rfl⟩ hE (en_S hGA hs0 hS) hK (wX_s5 hP) (ci := 0) (q0 := 0) rfl rfl hl.1 rfl (Nat.le_of_ble_eq_true rfl) dX3_loudFor_61 ⟨Nat.zero_le _, Nat.zero_le _⟩ ?_
          refine nv_ifne_b (tgt := 73) hx hb dX3_loudFor_64 (by decide) (fun c7 => ?_) (fun c7 => ?_)
          · refine lv_iload hx hb dX3_loudFor_73 (lv_at hl 0 rfl) ?_
            have hp : p_loudFor X (nI qn) (nI svn) (nI bn) = (nI ((dist (X.1 2 (qn)) (svn) + 1)), X) := by first | (simp [p_loudFor, inP, bk, fl_eq, c1, c2, c3, c6, c7, t_qn, t_svn, t_bn]; done) | (simp [p_loudFor, inP, bk, fl_eq, show ¬ dist (X.1 2 qn) svn ≤ 8 by omega, c1, c2, c3, c6, c7, t_qn, t_svn, t_bn]; done) | (simp [p_loudFor, inP, bk, fl_eq, show dist (X.1 2 qn) svn ≤ 8 by omega, c1, c2, c3, c6, c7, t_qn, t_svn, t_bn]; done)
            refine nv_cv (show nI ((dist (X.1 2 (qn)) (svn) + 1)) = (p_loudFor X (nI qn) (nI svn) (nI bn)).1 from by rw [hp]) ?_
            exact mu_iret hx hb hr hlocks hS ((by rw [hp]; exact ⟨_, _, _, _, _, hP⟩)) dX3_loudFor_75
          · refine lv_aload_n hx hb dX3_loudFor_67 rfl (lv_at hl 1 rfl) ?_
            refine lv_iconst (v := nI (3)) hx hb dX3_loudFor_68 (by decide) ?_
            refine mu_V (n := 1) (As := [.int (nI 3)]) (rest := []) ⟨hx, hb, hml, hown, hts⟩ (c_X3_finding l D ci G ka ad X T tq la tt z hI hG (3) hWX (by omega)) gX3_loudFor_X3_finding rfl ⟨rfl, rfl⟩ (by decide +kernel) rfl ⟨Nat.le_of_ble_eq_true rfl, Nat.le_of_ble_eq_true rfl⟩ hE (en_S hGA hs0 hS) hK hP (ci := 3) (q0 := 0) rfl rfl hl.1 rfl (Nat.le_of_ble_eq_true rfl) dX3_loudFor_69 ⟨Nat.zero_le _, Nat.zero_le _⟩ hS (fun _ h => h) (fun H1 locs hz hfr hB hS => ?_)
            obtain ⟨T, tq, la, tt, z, hP⟩ := hB
            generalize H1 = H at hP hS ⊢
            have hD : va_D (aX ad) (wX ci ad (toF X (inc X.2.2.2.1 3)) T tq la tt z) := wX_D hI
            have hp : p_loudFor X (nI qn) (nI svn) (nI bn) = (fnd 3, toF X (inc X.2.2.2.1 3)) := by first | (simp [p_loudFor, inP, bk, fl_eq, c1, c2, c3, c6, c7, t_qn, t_svn, t_bn]; done) | (simp [p_loudFor, inP, bk, fl_eq, show ¬ dist (X.1 2 qn) svn ≤ 8 by omega, c1, c2, c3, c6, c7, t_qn, t_svn, t_bn]; done) | (simp [p_loudFor, inP, bk, fl_eq, show dist (X.1 2 qn) svn ≤ 8 by omega, c1, c2, c3, c6, c7, t_qn, t_svn, t_bn]; done)
            refine nv_cv (show fnd 3 = (p_loudFor X (nI qn) (nI svn) (nI bn)).1 from by rw [hp]) ?_
            exact mu_iret hx hb hr hlocks hS ((by rw [hp]; exact ⟨_, _, _, _, _, hP⟩)) dX3_loudFor_72
      · refine lv_aload_n hx hb dX3_loudFor_24 rfl (lv_at hl 0 rfl) ?_
        refine lv_iconst (v := nI (0)) hx hb dX3_loudFor_25 (by decide) ?_
        refine mu_V (n := 1) (As := [.int (nI 0)]) (rest := []) ⟨hx, hb, hml, hown, hts⟩ (c_X3_finding l D ci G ka ad X T tq la tt z hI hG (0) hWX (by omega)) gX3_loudFor_X3_finding rfl ⟨rfl, rfl⟩ (by decide +kernel) rfl ⟨Nat.le_of_ble_eq_true rfl, Nat.le_of_ble_eq_true rfl⟩ hE (en_S hGA hs0 hS) hK hP (ci := 3) (q0 := 0) rfl rfl hl.1 rfl (Nat.le_of_ble_eq_true rfl) dX3_loudFor_26 ⟨Nat.zero_le _, Nat.zero_le _⟩ hS (fun _ h => h) (fun H1 locs hz hfr hB hS => ?_)
        obtain ⟨T, tq, la, tt, z, hP⟩ := hB
        generalize H1 = H at hP hS ⊢
        have hD : va_D (aX ad) (wX ci ad (toF X (inc X.2.2.2.1 0)) T tq la tt z) := wX_D hI
        have hp : p_loudFor X (nI qn) (nI svn) b = (fnd 0, toF X (inc X.2.2.2.1 0)) := by first | (simp [p_loudFor, inP, bk, fl_eq, c1, c2, c3, t_qn, t_svn]; done) | (simp [p_loudFor, inP, bk, fl_eq, show ¬ dist (X.1 2 qn) svn ≤ 8 by omega, c1, c2, c3, t_qn, t_svn]; done) | (simp [p_loudFor, inP, bk, fl_eq, show dist (X.1 2 qn) svn ≤ 8 by omega, c1, c2, c3, t_qn, t_svn]; done)
        refine nv_cv (show fnd 0 = (p_loudFor X (nI qn) (nI svn) b).1 from by rw [hp]) ?_
        exact mu_iret hx hb hr hlocks hS ((by rw [hp]; exact ⟨_, _, _, _, _, hP⟩)) dX3_loudFor_29
