/-! walks laid by program -/
set_option maxHeartbeats 4000000 in
set_option maxRecDepth 100000 in
/-- X3_bestSwap -/
theorem c_X3_bestSwap (l : Launch) (D : va_G) (ci : Nat → ClassId) (G : Nat → Prop) (ka : Nat) (ad : Nat → Nat) (X : AS) (T : OS) (tq la tt : Nat → Int32) (z : Nat → Nat → Int32) (hI : injA ad 48) (hG : ∀ k, k < 48 → G (ad k))  (hWX : WFX X) : Met l yX3_bestSwap wsX3_bestSwap ({ frames := 4, cells := 0, slots := 0, locals := 91 } : Room) (va_Pc [.ref (ad 0)] (ro_B D (tyL ci) (wX ci ad X T tq la tt z) (en D (ci 0) G ka))) (mu_Q (aX ad) (some (.int ((p_bestSwap X).1))) (fun H => ∃ T tq la tt z, va_P D vwCl (wX ci ad ((p_bestSwap X).2) T tq la tt z) H)) 0 0 (aX ad) := by
  refine mu_Met (cc := cX3_bestSwap) (maxL := 6) (ret := (some .int)) [(0, .ref (ad 0))] (wX_D hI) (by decide) rfl (Nat.le_of_ble_eq_true rfl) rfl ?_
  intro p e s m below meth c H locs hx hb hml hr hlocks hts hown hP hK hs0 hD hS ls hl
  have hown : s.vm.findClass RX3 = some m.cls := hown
  have hinX0 : ∀ w ∈ wsX00, w ∈ wsX3_bestSwap := by decide +kernel
  have hinX3 : ∀ w ∈ wsX30, w ∈ wsX3_bestSwap := by decide +kernel
  have hE := hE_en D (ci 0) G ka
  have hWF := hWX.w
  have f_n := hWF.n
  have f_e := hWX.e
  have f_tl := hWX.t
  have hGA := aX_G hG
  have hWK := hWX.k
  refine lv_iconst (v := -1) hx hb dX3_bestSwap_0 (by decide) ?_
  refine lv_istore_n (lv' := [(1, .int (-1)), (0, .ref (ad 0))]) hx hb dX3_bestSwap_1 rfl hl (by decide) rfl (fun ls hl => ?_)
  refine lv_iconst (v := -1) hx hb dX3_bestSwap_2 (by decide) ?_
  refine lv_istore_n (lv' := [(2, .int (-1)), (1, .int (-1)), (0, .ref (ad 0))]) hx hb dX3_bestSwap_3 rfl hl (by decide) rfl (fun ls hl => ?_)
  refine lv_aload_n hx hb dX3_bestSwap_4 rfl (lv_at hl 2 rfl) ?_
  refine va_get (D := D) (ci := 3) (v := .ref (ad 16)) (C := RX3) (T := TX3) (N := 9) hx hb hts hinX3 hown hK hP 0 rfl rfl 1 (by decide) (hts (.fieldLink RX3 16 "OneShort" "trial" "LOneShort$Orchestra;") (List.mem_of_getElem? (i := 1) rfl)) (fun _ h9 => h9) rfl dX3_bestSwap_5 ?_
  refine lv_aload_n hx hb dX3_bestSwap_8 rfl (lv_at hl 2 rfl) ?_
  refine va_get (D := D) (ci := 3) (v := .ref (ad 5)) (C := RX3) (T := TX3) (N := 9) hx hb hts hinX3 hown hK hP 0 rfl rfl 0 (by decide) (hts (.fieldLink RX3 10 "OneShort" "orchestra" "LOneShort$Orchestra;") (List.mem_of_getElem? (i := 2) rfl)) (fun _ h9 => h9) rfl dX3_bestSwap_9 ?_
  refine mu_V (n := 1) (As := [.ref (ad 5)]) (rest := []) ⟨hx, hb, hml, hown, hts⟩ (c_X0_become l D ci G ka (sh ad 16) T (z 3) (z 4) (z 5) (sh ad 5) X.1 (z 0) (z 1) (z 2) (wX_D2 hI (by decide) (by decide) (by decide) _ _ _ _ _ _ _ _) (aO2_G (G_sh hG (by decide)) (G_sh hG (by decide)))  ) gX3_bestSwap_X0_become rfl ⟨rfl, rfl⟩ (by decide +kernel) rfl ⟨Nat.le_of_ble_eq_true rfl, Nat.le_of_ble_eq_true rfl⟩ hE (en_S hGA hs0 hS) hK (va_P.app (wX_s16 hP) (wX_s5 hP)) (ci := 0) (q0 := 0) rfl rfl hl.1 rfl (Nat.le_of_ble_eq_true rfl) dX3_bestSwap_12 ⟨Nat.zero_le _, Nat.zero_le _⟩ hS (fun q h => h.elim (fun h => aR_X (by decide) q (aO_sh q h)) (fun h => aR_X (by decide) q (aO_sh q h))) (fun H1 locs hz hfr hB hS => ?_)
  have hP := wX_j16_5 hI hP hfr hB
  generalize H1 = H at hP hS ⊢
  have hD : va_D (aX ad) (wX ci ad X X.1 tq la tt z) := wX_D hI
  refine lv_iconst (v := nI (0)) hx hb dX3_bestSwap_15 (by decide) ?_
  refine lv_istore_n (lv' := [(3, .int (nI 0)), (2, .int (-1)), (1, .int (-1)), (0, .ref (ad 0))]) hx hb dX3_bestSwap_16 rfl hl (by decide) rfl (fun ls hl => ?_)
  have L17 : ∀ (k17 : Nat) (i : Nat), X.1 7 0 - i < k17 → (i ≤ X.1 7 0) → ∀ (x1 x2 x3 : Int32), x1 = nI ((bsI X.1 (i)).1) - nI (1) → x2 = nI ((bsI X.1 (i)).2) - nI (1) → x3 = nI (i) → ∀ (z : Nat → Nat → Int32), ∀ (H : Heap) (locs : List Loc), va_P D vwCl (wX ci ad X X.1 tq la tt z) H → va_S (aX ad) s.heap H locs → ∀ ls : Array Slot, lv_has ls 6 [(1, .int (x1)), (2, .int (x2)), (3, .int (x3)), (0, .ref (ad 0))] → W p l e (headSpec wsX3_bestSwap ({ frames := 4, cells := 0, slots := 0, locals := 91 } : Room)).room s m ([.ref (ad 0)] : List Value).toArray below meth c H locs 0 0 (MQ below (mu_Q (aX ad) (some (.int ((p_bestSwap X).1))) (fun H => ∃ T tq la tt z, va_P D vwCl (wX ci ad ((p_bestSwap X).2) T tq la tt z) H)) ([.ref (ad 0)] : List Value).toArray s 0 0 (aX ad)) (F0 m 17 ls []) := by
    intro k17
    induction k17 with
    | zero => intro i h0; exact absurd h0 (Nat.not_lt_zero _)
    | succ k17 ih17 =>
      intro i hk17 h_i x1 x2 x3 e1 e2 e3 z H locs hP hS ls hl
      subst e1
      subst e2
      subst e3
      have hD : va_D (aX ad) (wX ci ad X X.1 tq la tt z) := wX_D hI
      have f_b := bsI_le hWF i
      have f_b1 := bsI1_le f_n i h_i
      refine lv_iload_n hx hb dX3_bestSwap_17 rfl (lv_at hl 2 rfl) ?_
      refine lv_aload_n hx hb dX3_bestSwap_18 rfl (lv_at hl 3 rfl) ?_
      refine va_get (D := D) (ci := 3) (v := .ref (ad 5)) (C := RX3) (T := TX3) (N := 9) hx hb hts hinX3 hown hK hP 0 rfl rfl 0 (by decide) (hts (.fieldLink RX3 10 "OneShort" "orchestra" "LOneShort$Orchestra;") (List.mem_of_getElem? (i := 2) rfl)) (fun _ h9 => h9) rfl dX3_bestSwap_19 ?_
      refine va_get (D := D) (ci := 0) (v := .int (nI (X.1 7 0))) (C := RX0) (T := TX0) (N := 13) hx hb hts hinX0 hown hK hP 5 rfl rfl 7 (by decide) (hts (.fieldLink RX3 73 "OneShort$Orchestra" "size" "I") (List.mem_of_getElem? (i := 3) rfl)) (fun _ h9 => h9) rfl dX3_bestSwap_22 ?_
      refine nv_icmp_ge (tgt := 103) hx hb (by omega) (by omega) dX3_bestSwap_25 (by decide) (fun c1 => ?_) (fun c1 => ?_)
      · refine lv_iload_n hx hb dX3_bestSwap_103 rfl (lv_at hl 0 rfl) ?_
        refine nv_ifge_D (tgt := 115) hx hb (by omega) dX3_bestSwap_104 (by decide) (fun c2 => ?_) (fun c2 => ?_)
        · refine lv_iload_n hx hb dX3_bestSwap_115 rfl (lv_at hl 0 rfl) ?_
          have hp : p_bestSwap X = (nI ((bsI X.1 (i)).1) - nI (1), X) := by first | (simp [p_bestSwap, bk, fl_eq, show X.1 7 0 = i by omega, c1, c2]; done) | (rw [pk_sub c2]; simp [p_bestSwap, bk, fl_eq, show X.1 7 0 = i by omega, c1, c2]; done)
          refine nv_cv (show nI ((bsI X.1 (i)).1) - nI (1) = (p_bestSwap X).1 from by rw [hp]) ?_
          exact mu_iret hx hb hr hlocks hS ((by rw [hp]; exact ⟨_, _, _, _, _, hP⟩)) dX3_bestSwap_116
        · refine lv_aload_n hx hb dX3_bestSwap_107 rfl (lv_at hl 3 rfl) ?_
          refine lv_iconst (v := nI (3)) hx hb dX3_bestSwap_108 (by decide) ?_
          refine mu_V (n := 1) (As := [.int (nI 3)]) (rest := []) ⟨hx, hb, hml, hown, hts⟩ (c_X3_finding l D ci G ka ad X X.1 tq la tt z hI hG (3) hWX (by omega)) gX3_bestSwap_X3_finding rfl ⟨rfl, rfl⟩ (by decide +kernel) rfl ⟨Nat.le_of_ble_eq_true rfl, Nat.le_of_ble_eq_true rfl⟩ hE (en_S hGA hs0 hS) hK hP (ci := 3) (q0 := 0) rfl rfl hl.1 rfl (Nat.le_of_ble_eq_true rfl) dX3_bestSwap_109 ⟨Nat.zero_le _, Nat.zero_le _⟩ hS (fun _ h => h) (fun H1 locs hz hfr hB hS => ?_)
          obtain ⟨T, tq, la, tt, z, hP⟩ := hB
          generalize H1 = H at hP hS ⊢
          have hD : va_D (aX ad) (wX ci ad (toF X (inc X.2.2.2.1 3)) T tq la tt z) := wX_D hI
          refine lv_goto (tgt := 116) hx hb dX3_bestSwap_112 (by decide) ?_
          have hp : p_bestSwap X = (fnd 3, toF X (inc X.2.2.2.1 3)) := by first | (simp [p_bestSwap, bk, fl_eq, show X.1 7 0 = i by omega, c1, c2]; done) | (rw [pk_sub c2]; simp [p_bestSwap, bk, fl_eq, show X.1 7 0 = i by omega, c1, c2]; done)
          refine nv_cv (show fnd 3 = (p_bestSwap X).1 from by rw [hp]) ?_
          exact mu_iret hx hb hr hlocks hS ((by rw [hp]; exact ⟨_, _, _, _, _, hP⟩)) dX3_bestSwap_116
      · refine lv_iload_n hx hb dX3_bestSwap_28 rfl (lv_at hl 2 rfl) ?_
        refine lv_iconst (v := nI (1)) hx hb dX3_bestSwap_29 (by decide) ?_
        refine nv_iadd hx hb dX3_bestSwap_30 ?_
        refine lv_istore (lv' := [(4, .int (nI ((i + 1)))), (1, .int (nI ((bsI X.1 (i)).1) - nI (1))), (2, .int (nI ((bsI X.1 (i)).2) - nI (1))), (3, .int (nI i)), (0, .ref (ad 0))]) hx hb dX3_bestSwap_31 hl (by decide) rfl (fun ls hl => ?_)
        have L33 : ∀ (k33 : Nat) (k : Nat), X.1 7 0 - (i + 1 + k) < k33 → (i + 1 + k ≤ X.1 7 0) → ∀ (x1 x2 x4 : Int32), x1 = nI ((bsJ X.1 i (bsI X.1 i) (k)).1) - nI (1) → x2 = nI ((bsJ X.1 i (bsI X.1 i) (k)).2) - nI (1) → x4 = nI ((i + 1 + k)) → ∀ (z : Nat → Nat → Int32), ∀ (H : Heap) (locs : List Loc), va_P D vwCl (wX ci ad X X.1 tq la tt z) H → va_S (aX ad) s.heap H locs → ∀ ls : Array Slot, lv_has ls 6 [(1, .int (x1)), (2, .int (x2)), (4, .int (x4)), (3, .int (nI i)), (0, .ref (ad 0))] → W p l e (headSpec wsX3_bestSwap ({ frames := 4, cells := 0, slots := 0, locals := 91 } : Room)).room s m ([.ref (ad 0)] : List Value).toArray below meth c H locs 0 0 (MQ below (mu_Q (aX ad) (some (.int ((p_bestSwap X).1))) (fun H => ∃ T tq la tt z, va_P D vwCl (wX ci ad ((p_bestSwap X).2) T tq la tt z) H)) ([.ref (ad 0)] : List Value).toArray s 0 0 (aX ad)) (F0 m 33 ls []) := by
          intro k33
          induction k33 with
          | zero => intro k h0; exact absurd h0 (Nat.not_lt_zero _)
          | succ k33 ih33 =>
            intro k hk33 h_k x1 x2 x4 e1 e2 e4 z H locs hP hS ls hl
            subst e1
            subst e2
            subst e4
            have hD : va_D (aX ad) (wX ci ad X X.1 tq la tt z) := wX_D hI
            have f_bk := bsJ_le hWF f_b (i := i) k
            have f_l := links_le (WF_swS hWF i (i + 1 + k))
            refine lv_iload hx hb dX3_bestSwap_33 (lv_at hl 2 rfl) ?_
            refine lv_aload_n hx hb dX3_bestSwap_35 rfl (lv_at hl 4 rfl) ?_
            refine va_get (D := D) (ci := 3) (v := .ref (ad 5)) (C := RX3) (T := TX3) (N := 9) hx hb hts hinX3 hown hK hP 0 rfl rfl 0 (by decide) (hts (.fieldLink RX3 10 "OneShort" "orchestra" "LOneShort$Orchestra;") (List.mem_of_getElem? (i := 2) rfl)) (fun _ h9 => h9) rfl dX3_bestSwap_36 ?_
            refine va_get (D := D) (ci := 0) (v := .int (nI (X.1 7 0))) (C := RX0) (T := TX0) (N := 13) hx hb hts hinX0 hown hK hP 5 rfl rfl 7 (by decide) (hts (.fieldLink RX3 73 "OneShort$Orchestra" "size" "I") (List.mem_of_getElem? (i := 3) rfl)) (fun _ h9 => h9) rfl dX3_bestSwap_39 ?_
            refine nv_icmp_ge (tgt := 97) hx hb (by omega) (by omega) dX3_bestSwap_42 (by decide) (fun c3 => ?_) (fun c3 => ?_)
            · refine nv_iinc1 (lv' := [(3, .int (nI (i + 1))), (1, .int (nI ((bsJ X.1 i (bsI X.1 i) (k)).1) - nI (1))), (2, .int (nI ((bsJ X.1 i (bsI X.1 i) (k)).2) - nI (1))), (4, .int (nI ((i + 1 + k)))), (0, .ref (ad 0))]) hx hb dX3_bestSwap_97 hl (k := 3) rfl (by decide) rfl (fun ls hl => ?_)
              refine lv_goto (tgt := 17) hx hb dX3_bestSwap_100 (by decide) ?_
              exact ih17 (i + 1) (by omega) (by omega) (nI ((bsJ X.1 i (bsI X.1 i) (k)).1) - nI (1)) (nI ((bsJ X.1 i (bsI X.1 i) (k)).2) - nI (1)) (nI (i + 1)) (by rw [show k = X.1 7 0 - (i + 1) by omega]; rfl) (by rw [show k = X.1 7 0 - (i + 1) by omega]; rfl) rfl (z) _ _ hP hS ls (lv_sub hl [1, 2, 0, 4] rfl)
            · refine lv_aload_n hx hb dX3_bestSwap_45 rfl (lv_at hl 4 rfl) ?_
              refine va_get (D := D) (ci := 3) (v := .ref (ad 16)) (C := RX3) (T := TX3) (N := 9) hx hb hts hinX3 hown hK hP 0 rfl rfl 1 (by decide) (hts (.fieldLink RX3 16 "OneShort" "trial" "LOneShort$Orchestra;") (List.mem_of_getElem? (i := 1) rfl)) (fun _ h9 => h9) rfl dX3_bestSwap_46 ?_
              refine lv_iload_n hx hb dX3_bestSwap_49 rfl (lv_at hl 3 rfl) ?_
              refine lv_iload hx hb dX3_bestSwap_50 (lv_at hl 2 rfl) ?_
              refine mu_V (n := 2) (As := [.int (nI i), .int (nI ((i + 1 + k)))]) (rest := []) ⟨hx, hb, hml, hown, hts⟩ (c_X0_exchangeSeats l D ci G ka (sh ad 16) X.1 (z 3) (z 4) (z 5) (injA_sh hI (by decide)) (G_sh hG (by decide)) (i) ((i + 1 + k)) hWF (by omega) (by omega)) gX3_bestSwap_X0_exchangeSeats rfl ⟨rfl, rfl⟩ (by decide +kernel) rfl ⟨Nat.le_of_ble_eq_true rfl, Nat.le_of_ble_eq_true rfl⟩ hE (en_S hGA hs0 hS) hK (wX_s16 hP) (ci := 0) (q0 := 0) rfl rfl hl.1 rfl (Nat.le_of_ble_eq_true rfl) dX3_bestSwap_52 ⟨Nat.zero_le _, Nat.zero_le _⟩ hS (fun q h => aR_X (by decide) q (aO_sh q h)) (fun H1 locs hz hfr hB hS => ?_)
              have hP := wX_j16 hI hP hfr hB
              obtain ⟨z, hP⟩ : ∃ z, va_P D vwCl (wX ci ad X (st (st X.1 2 i (X.1 2 (i + 1 + k))) 2 (i + 1 + k) (X.1 2 i)) tq la tt z) H1 := ⟨_, hP⟩
              generalize H1 = H at hP hS ⊢
              have hD : va_D (aX ad) (wX ci ad X (st (st X.1 2 i (X.1 2 (i + 1 + k))) 2 (i + 1 + k) (X.1 2 i)) tq la tt z) := wX_D hI
              refine lv_aload_n hx hb dX3_bestSwap_55 rfl (lv_at hl 4 rfl) ?_
              refine va_get (D := D) (ci := 3) (v := .ref (ad 16)) (C := RX3) (T := TX3) (N := 9) hx hb hts hinX3 hown hK hP 0 rfl rfl 1 (by decide) (hts (.fieldLink RX3 16 "OneShort" "trial" "LOneShort$Orchestra;") (List.mem_of_getElem? (i := 1) rfl)) (fun _ h9 => h9) rfl dX3_bestSwap_56 ?_
              refine ro_V (n := 0) (As := []) (rest := []) ⟨hx, hb, hml, hown, hts⟩ (c_X0_pairsHearing l D ci G ka (sh ad 16) (st (st X.1 2 i (X.1 2 (i + 1 + k))) 2 (i + 1 + k) (X.1 2 i)) (z 3) (z 4) (z 5)  (WF_swS hWF i (i + 1 + k))) gX3_bestSwap_X0_pairsHearing rfl ⟨rfl, rfl⟩ (by decide +kernel) rfl ⟨Nat.le_of_ble_eq_true rfl, Nat.le_of_ble_eq_true rfl⟩ hE (en_S hGA hs0 hS) hK (wX_s16 hP) (ci := 0) (q0 := 0) rfl rfl hl.1 rfl (Nat.le_of_ble_eq_true rfl) dX3_bestSwap_59 ⟨Nat.zero_le _, Nat.zero_le _⟩ ?_
              refine nv_cv (show nI (links (st (st X.1 2 i (X.1 2 (i + 1 + k))) 2 (i + 1 + k) (X.1 2 i))) = nI (links (swS X.1 i (i + 1 + k))) from rfl) ?_
              refine lv_istore (lv' := [(5, .int (nI (links (swS X.1 i (i + 1 + k))))), (1, .int (nI ((bsJ X.1 i (bsI X.1 i) (k)).1) - nI (1))), (2, .int (nI ((bsJ X.1 i (bsI X.1 i) (k)).2) - nI (1))), (4, .int (nI ((i + 1 + k)))), (3, .int (nI i)), (0, .ref (ad 0))]) hx hb dX3_bestSwap_62 hl (by decide) rfl (fun ls hl => ?_)
              refine lv_aload_n hx hb dX3_bestSwap_64 rfl (lv_at hl 5 rfl) ?_
              refine va_get (D := D) (ci := 3) (v := .ref (ad 16)) (C := RX3) (T := TX3) (N := 9) hx hb hts hinX3 hown hK hP 0 rfl rfl 1 (by decide) (hts (.fieldLink RX3 16 "OneShort" "trial" "LOneShort$Orchestra;") (List.mem_of_getElem? (i := 1) rfl)) (fun _ h9 => h9) rfl dX3_bestSwap_65 ?_
              refine lv_iload_n hx hb dX3_bestSwap_68 rfl (lv_at hl 4 rfl) ?_
              refine lv_iload hx hb dX3_bestSwap_69 (lv_at hl 3 rfl) ?_
              refine mu_V (n := 2) (As := [.int (nI i), .int (nI ((i + 1 + k)))]) (rest := []) ⟨hx, hb, hml, hown, hts⟩ (c_X0_exchangeSeats l D ci G ka (sh ad 16) (st (st X.1 2 i (X.1 2 (i + 1 + k))) 2 (i + 1 + k) (X.1 2 i)) (z 3) (z 4) (z 5) (injA_sh hI (by decide)) (G_sh hG (by decide)) (i) ((i + 1 + k)) (WF_swS hWF i (i + 1 + k)) (by omega) (by omega)) gX3_bestSwap_X0_exchangeSeats rfl ⟨rfl, rfl⟩ (by decide +kernel) rfl ⟨Nat.le_of_ble_eq_true rfl, Nat.le_of_ble_eq_true rfl⟩ hE (en_S hGA hs0 hS) hK (wX_s16 hP) (ci := 0) (q0 := 0) rfl rfl hl.1 rfl (Nat.le_of_ble_eq_true rfl) dX3_bestSwap_71 ⟨Nat.zero_le _, Nat.zero_le _⟩ hS (fun q h => aR_X (by decide) q (aO_sh q h)) (fun H1 locs hz hfr hB hS => ?_)
              have hP := wX_j16 hI hP hfr hB
              obtain ⟨z, hP⟩ : ∃ z, va_P D vwCl (wX ci ad X (st (st (st (st X.1 2 i (X.1 2 (i + 1 + k))) 2 (i + 1 + k) (X.1 2 i)) 2 i ((st (st X.1 2 i (X.1 2 (i + 1 + k))) 2 (i + 1 + k) (X.1 2 i)) 2 (i + 1 + k))) 2 (i + 1 + k) ((st (st X.1 2 i (X.1 2 (i + 1 + k))) 2 (i + 1 + k) (X.1 2 i)) 2 i)) tq la tt z) H1 := ⟨_, hP⟩
              generalize H1 = H at hP hS ⊢
              have hD : va_D (aX ad) (wX ci ad X (st (st (st (st X.1 2 i (X.1 2 (i + 1 + k))) 2 (i + 1 + k) (X.1 2 i)) 2 i ((st (st X.1 2 i (X.1 2 (i + 1 + k))) 2 (i + 1 + k) (X.1 2 i)) 2 (i + 1 + k))) 2 (i + 1 + k) ((st (st X.1 2 i (X.1 2 (i + 1 + k))) 2 (i + 1 + k) (X.1 2 i)) 2 i)) tq la tt z) := wX_D hI
              refine lv_iload hx hb dX3_bestSwap_74 (lv_at hl 0 rfl) ?_
              refine lv_iload_n hx hb dX3_bestSwap_76 rfl (lv_at hl 2 rfl) ?_
              refine nv_icmp_le_D (tgt := 91) hx hb (by omega) (by omega) dX3_bestSwap_77 (by decide) (fun c4 => ?_) (fun c4 => ?_)
              · refine nv_iinc1 (lv' := [(4, .int (nI ((i + 1 + k) + 1))), (5, .int (nI (links (swS X.1 i (i + 1 + k))))), (1, .int (nI ((bsJ X.1 i (bsI X.1 i) (k)).1) - nI (1))), (2, .int (nI ((bsJ X.1 i (bsI X.1 i) (k)).2) - nI (1))), (3, .int (nI i)), (0, .ref (ad 0))]) hx hb dX3_bestSwap_91 hl (k := 3) rfl (by decide) rfl (fun ls hl => ?_)
                refine lv_goto (tgt := 33) hx hb dX3_bestSwap_94 (by decide) ?_
                exact ih33 (k + 1) (by omega) (by omega) (nI ((bsJ X.1 i (bsI X.1 i) (k)).1) - nI (1)) (nI ((bsJ X.1 i (bsI X.1 i) (k)).2) - nI (1)) (nI ((i + 1 + k) + 1)) (by rw [bsJ]; first | (rw [if_pos c4]; exact (nI_pred _).symm) | rw [if_neg (Nat.not_lt.mpr c4)]) (by rw [bsJ]; first | (rw [if_pos c4]; exact (nI_pred _).symm) | rw [if_neg (Nat.not_lt.mpr c4)]) (nv_e (by omega)) (z) _ _ (va_P.re (by exact congrArg (fun z9 => wX ci ad X z9 tq la tt z) (swS_swS (by omega))) hP) hS ls (lv_sub hl [2, 3, 0, 4, 5] rfl)
              · refine lv_iload hx hb dX3_bestSwap_80 (lv_at hl 0 rfl) ?_
                refine lv_istore_n (lv' := [(2, .int (nI (links (swS X.1 i (i + 1 + k))))), (5, .int (nI (links (swS X.1 i (i + 1 + k))))), (1, .int (nI ((bsJ X.1 i (bsI X.1 i) (k)).1) - nI (1))), (4, .int (nI ((i + 1 + k)))), (3, .int (nI i)), (0, .ref (ad 0))]) hx hb dX3_bestSwap_82 rfl hl (by decide) rfl (fun ls hl => ?_)
                refine lv_bipush (v := nI (8)) hx hb dX3_bestSwap_83 (by decide) ?_
                refine lv_iload_n hx hb dX3_bestSwap_85 rfl (lv_at hl 4 rfl) ?_
                refine nv_imul hx hb dX3_bestSwap_86 ?_
                refine lv_iload hx hb dX3_bestSwap_87 (lv_at hl 3 rfl) ?_
                refine nv_iadd hx hb dX3_bestSwap_89 ?_
                refine lv_istore_n (lv' := [(1, .int (nI (((8 * i) + (i + 1 + k))))), (2, .int (nI (links (swS X.1 i (i + 1 + k))))), (5, .int (nI (links (swS X.1 i (i + 1 + k))))), (4, .int (nI ((i + 1 + k)))), (3, .int (nI i)), (0, .ref (ad 0))]) hx hb dX3_bestSwap_90 rfl hl (by decide) rfl (fun ls hl => ?_)
                refine nv_iinc1 (lv' := [(4, .int (nI ((i + 1 + k) + 1))), (1, .int (nI (((8 * i) + (i + 1 + k))))), (2, .int (nI (links (swS X.1 i (i + 1 + k))))), (5, .int (nI (links (swS X.1 i (i + 1 + k))))), (3, .int (nI i)), (0, .ref (ad 0))]) hx hb dX3_bestSwap_91 hl (k := 3) rfl (by decide) rfl (fun ls hl => ?_)
                refine lv_goto (tgt := 33) hx hb dX3_bestSwap_94 (by decide) ?_
                exact ih33 (k + 1) (by omega) (by omega) (nI (((8 * i) + (i + 1 + k)))) (nI (links (swS X.1 i (i + 1 + k)))) (nI ((i + 1 + k) + 1)) (by rw [bsJ]; first | (rw [if_pos c4]; exact (nI_pred _).symm) | rw [if_neg (Nat.not_lt.mpr c4)]) (by rw [bsJ]; first | (rw [if_pos c4]; exact (nI_pred _).symm) | rw [if_neg (Nat.not_lt.mpr c4)]) (nv_e (by omega)) (z) _ _ (va_P.re (by exact congrArg (fun z9 => wX ci ad X z9 tq la tt z) (swS_swS (by omega))) hP) hS ls (lv_sub hl [1, 2, 0, 4, 5] rfl)
        exact L33 _ (0) (Nat.lt_succ_self _) (by omega) (nI ((bsI X.1 (i)).1) - nI (1)) (nI ((bsI X.1 (i)).2) - nI (1)) (nI ((i + 1))) rfl rfl rfl (z) _ _ hP hS ls (lv_sub hl [1, 2, 0, 3, 4] rfl)
  exact L17 _ (0) (Nat.lt_succ_self _) (by omega) (-1) (-1) (nI (0)) (by rfl) (by rfl) rfl (z) _ _ hP hS ls (lv_sub hl [2, 1, 0, 3] rfl)
