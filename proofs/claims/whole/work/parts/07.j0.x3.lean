/-! walks laid by program -/
set_option maxHeartbeats 4000000 in
set_option maxRecDepth 100000 in
/-- X3_countLoudest -/
theorem c_X3_countLoudest (l : Launch) (D : va_G) (ci : Nat → ClassId) (G : Nat → Prop) (ka : Nat) (ad : Nat → Nat) (X : AS) (T : OS) (tq la tt : Nat → Int32) (z : Nat → Nat → Int32) (hI : injA ad 48) (hG : ∀ k, k < 48 → G (ad k))  (hWX : WFX X) : Met l yX3_countLoudest wsX3_countLoudest ({ frames := 5, cells := 0, slots := 0, locals := 112 } : Room) (va_Pc [.ref (ad 0)] (ro_B D (tyL ci) (wX ci ad X T tq la tt z) (en D (ci 0) G ka))) (mu_Q (aX ad) (none) (fun H => ∃ T tq la tt z, (∀ q, q < 256 → la q = nI (cLn X.1 12 q)) ∧ va_P D vwCl (wX ci ad X T tq la tt z) H)) 0 0 (aX ad) := by
  refine mu_Met (cc := cX3_countLoudest) (maxL := 4) (ret := none) [(0, .ref (ad 0))] (wX_D hI) (by decide) rfl (Nat.le_of_ble_eq_true rfl) rfl ?_
  intro p e s m below meth c H locs hx hb hml hr hlocks hts hown hP hK hs0 hD hS ls hl
  have hown : s.vm.findClass RX3 = some m.cls := hown
  have hinX3 : ∀ w ∈ wsX30, w ∈ wsX3_countLoudest := by decide +kernel
  have hE := hE_en D (ci 0) G ka
  have hWF := hWX.w
  have f_n := hWF.n
  have f_e := hWX.e
  have f_tl := hWX.t
  have hGA := aX_G hG
  have hWK := hWX.k
  refine lv_iconst (v := nI (0)) hx hb dX3_countLoudest_0 (by decide) ?_
  refine lv_istore_n (lv' := [(1, .int (nI 0)), (0, .ref (ad 0))]) hx hb dX3_countLoudest_1 rfl hl (by decide) rfl (fun ls hl => ?_)
  have L2 : ∀ (k2 : Nat) (i : Nat) (la : Nat → Int32), 256 - i < k2 → (i ≤ 256) → (∀ q, q < i → la q = 0) → ∀ (x1 : Int32), x1 = nI (i) → ∀ (H : Heap) (locs : List Loc), va_P D vwCl (wX ci ad X T tq la tt z) H → va_S (aX ad) s.heap H locs → ∀ ls : Array Slot, lv_has ls 4 [(1, .int (x1)), (0, .ref (ad 0))] → W p l e (headSpec wsX3_countLoudest ({ frames := 5, cells := 0, slots := 0, locals := 112 } : Room)).room s m ([.ref (ad 0)] : List Value).toArray below meth c H locs 0 0 (MQ below (mu_Q (aX ad) (none) (fun H => ∃ T tq la tt z, (∀ q, q < 256 → la q = nI (cLn X.1 12 q)) ∧ va_P D vwCl (wX ci ad X T tq la tt z) H)) ([.ref (ad 0)] : List Value).toArray s 0 0 (aX ad)) (F0 m 2 ls []) := by
    intro k2
    induction k2 with
    | zero => intro i la h0; exact absurd h0 (Nat.not_lt_zero _)
    | succ k2 ih2 =>
      intro i la hk2 h_i h_l0 x1 e1  H locs hP hS ls hl
      subst e1
      have hD : va_D (aX ad) (wX ci ad X T tq la tt z) := wX_D hI
      refine lv_iload_n hx hb dX3_countLoudest_2 rfl (lv_at hl 0 rfl) ?_
      refine lv_sipush (v := nI (256)) hx hb dX3_countLoudest_3 (by decide) ?_
      refine nv_icmp_ge (tgt := 22) hx hb (by omega) (by omega) dX3_countLoudest_6 (by decide) (fun c1 => ?_) (fun c1 => ?_)
      · refine lv_iconst (v := nI (0)) hx hb dX3_countLoudest_22 (by decide) ?_
        refine lv_istore_n (lv' := [(1, .int (nI 0)), (0, .ref (ad 0))]) hx hb dX3_countLoudest_23 rfl hl (by decide) rfl (fun ls hl => ?_)
        have L24 : ∀ (k24 : Nat) (i : Nat) (la : Nat → Int32), 12 - i < k24 → (i ≤ 12) → (∀ q, q < 256 → la q = nI (cLn X.1 i q)) → ∀ (x1 : Int32), x1 = nI (i) → ∀ (H : Heap) (locs : List Loc), va_P D vwCl (wX ci ad X T tq la tt z) H → va_S (aX ad) s.heap H locs → ∀ ls : Array Slot, lv_has ls 4 [(1, .int (x1)), (0, .ref (ad 0))] → W p l e (headSpec wsX3_countLoudest ({ frames := 5, cells := 0, slots := 0, locals := 112 } : Room)).room s m ([.ref (ad 0)] : List Value).toArray below meth c H locs 0 0 (MQ below (mu_Q (aX ad) (none) (fun H => ∃ T tq la tt z, (∀ q, q < 256 → la q = nI (cLn X.1 12 q)) ∧ va_P D vwCl (wX ci ad X T tq la tt z) H)) ([.ref (ad 0)] : List Value).toArray s 0 0 (aX ad)) (F0 m 24 ls []) := by
          intro k24
          induction k24 with
          | zero => intro i la h0; exact absurd h0 (Nat.not_lt_zero _)
          | succ k24 ih24 =>
            intro i la hk24 h_i h_l x1 e1  H locs hP hS ls hl
            subst e1
            have hD : va_D (aX ad) (wX ci ad X T tq la tt z) := wX_D hI
            refine lv_iload_n hx hb dX3_countLoudest_24 rfl (lv_at hl 0 rfl) ?_
            refine lv_bipush (v := nI (12)) hx hb dX3_countLoudest_25 (by decide) ?_
            refine nv_icmp_ge (tgt := 77) hx hb (by omega) (by omega) dX3_countLoudest_27 (by decide) (fun c2 => ?_) (fun c2 => ?_)
            · exact mu_vret hx hb hr hlocks hS (⟨_, _, _, _, _, (fun q hq => by rw [h_l q hq, show i = 12 by omega]), hP⟩) dX3_countLoudest_77
            · refine lv_aload_n hx hb dX3_countLoudest_30 rfl (lv_at hl 1 rfl) ?_
              refine va_get (D := D) (ci := 3) (v := .ref (ad 5)) (C := RX3) (T := TX3) (N := 9) hx hb hts hinX3 hown hK hP 0 rfl rfl 0 (by decide) (hts (.fieldLink RX3 10 "OneShort" "orchestra" "LOneShort$Orchestra;") (List.mem_of_getElem? (i := 2) rfl)) (fun _ h9 => h9) rfl dX3_countLoudest_31 ?_
              refine lv_iload_n hx hb dX3_countLoudest_34 rfl (lv_at hl 0 rfl) ?_
              refine ro_V (n := 1) (As := [.int (nI i)]) (rest := []) ⟨hx, hb, hml, hown, hts⟩ (c_X0_playersIn l D ci G ka (sh ad 5) X.1 (z 0) (z 1) (z 2) (i) hWF (by omega)) gX3_countLoudest_X0_playersIn rfl ⟨rfl, rfl⟩ (by decide +kernel) rfl ⟨Nat.le_of_ble_eq_true rfl, Nat.le_of_ble_eq_true rfl⟩ hE (en_S hGA hs0 hS) hK (wX_s5 hP) (ci := 0) (q0 := 0) rfl rfl hl.1 rfl (Nat.le_of_ble_eq_true rfl) dX3_countLoudest_35 ⟨Nat.zero_le _, Nat.zero_le _⟩ ?_
              have f3 := playIn_lt hWF (i)
              refine lv_istore_n (lv' := [(2, .int (nI (playIn X.1 i))), (1, .int (nI i)), (0, .ref (ad 0))]) hx hb dX3_countLoudest_38 rfl hl (by decide) rfl (fun ls hl => ?_)
              refine lv_iconst (v := nI (0)) hx hb dX3_countLoudest_39 (by decide) ?_
              refine lv_istore_n (lv' := [(3, .int (nI 0)), (2, .int (nI (playIn X.1 i))), (1, .int (nI i)), (0, .ref (ad 0))]) hx hb dX3_countLoudest_40 rfl hl (by decide) rfl (fun ls hl => ?_)
              have L41 : ∀ (k41 : Nat) (j : Nat) (la : Nat → Int32), 16 - j < k41 → (j ≤ 16) → (∀ q, q < 256 → la q = nI (cLn X.1 i q + cntTo (fun se => loudst X.1 se (playIn X.1 i) == q) j)) → ∀ (x3 : Int32), x3 = nI (j) → ∀ (H : Heap) (locs : List Loc), va_P D vwCl (wX ci ad X T tq la tt z) H → va_S (aX ad) s.heap H locs → ∀ ls : Array Slot, lv_has ls 4 [(3, .int (x3)), (2, .int (nI (playIn X.1 i))), (1, .int (nI i)), (0, .ref (ad 0))] → W p l e (headSpec wsX3_countLoudest ({ frames := 5, cells := 0, slots := 0, locals := 112 } : Room)).room s m ([.ref (ad 0)] : List Value).toArray below meth c H locs 0 0 (MQ below (mu_Q (aX ad) (none) (fun H => ∃ T tq la tt z, (∀ q, q < 256 → la q = nI (cLn X.1 12 q)) ∧ va_P D vwCl (wX ci ad X T tq la tt z) H)) ([.ref (ad 0)] : List Value).toArray s 0 0 (aX ad)) (F0 m 41 ls []) := by
                intro k41
                induction k41 with
                | zero => intro j la h0; exact absurd h0 (Nat.not_lt_zero _)
                | succ k41 ih41 =>
                  intro j la hk41 h_j h_l2 x3 e3  H locs hP hS ls hl
                  subst e3
                  have hD : va_D (aX ad) (wX ci ad X T tq la tt z) := wX_D hI
                  have f_L := loudst_lt hWF j (playIn X.1 i)
                  refine lv_iload_n hx hb dX3_countLoudest_41 rfl (lv_at hl 0 rfl) ?_
                  refine lv_bipush (v := nI (16)) hx hb dX3_countLoudest_42 (by decide) ?_
                  refine nv_icmp_ge (tgt := 71) hx hb (by omega) (by omega) dX3_countLoudest_44 (by decide) (fun c4 => ?_) (fun c4 => ?_)
                  · refine nv_iinc1 (lv' := [(1, .int (nI (i + 1))), (3, .int (nI j)), (2, .int (nI (playIn X.1 i))), (0, .ref (ad 0))]) hx hb dX3_countLoudest_71 hl (k := 2) rfl (by decide) rfl (fun ls hl => ?_)
                    refine lv_goto (tgt := 24) hx hb dX3_countLoudest_74 (by decide) ?_
                    exact ih24 (i + 1) (la) (by omega) (by omega) (fun q hq => by rw [h_l2 q hq, show j = 16 by omega]; rfl) (nI (i + 1)) rfl _ _ hP hS ls (lv_sub hl [0, 3] rfl)
                  · refine lv_aload_n hx hb dX3_countLoudest_47 rfl (lv_at hl 3 rfl) ?_
                    refine va_get (D := D) (ci := 3) (v := .ref (ad 3)) (C := RX3) (T := TX3) (N := 9) hx hb hts hinX3 hown hK hP 0 rfl rfl 7 (by decide) (hts (.fieldLink RX3 43 "OneShort" "loudestAt" "[I") (List.mem_of_getElem? (i := 1) rfl)) (fun _ h9 => h9) rfl dX3_countLoudest_48 ?_
                    refine lv_aload_n hx hb dX3_countLoudest_51 rfl (lv_at hl 3 rfl) ?_
                    refine va_get (D := D) (ci := 3) (v := .ref (ad 5)) (C := RX3) (T := TX3) (N := 9) hx hb hts hinX3 hown hK hP 0 rfl rfl 0 (by decide) (hts (.fieldLink RX3 10 "OneShort" "orchestra" "LOneShort$Orchestra;") (List.mem_of_getElem? (i := 2) rfl)) (fun _ h9 => h9) rfl dX3_countLoudest_52 ?_
                    refine lv_iload_n hx hb dX3_countLoudest_55 rfl (lv_at hl 0 rfl) ?_
                    refine lv_iload_n hx hb dX3_countLoudest_56 rfl (lv_at hl 1 rfl) ?_
                    refine ro_V (n := 2) (As := [.int (nI j), .int (nI (playIn X.1 i))]) (rest := [.ref (ad 3)]) ⟨hx, hb, hml, hown, hts⟩ (c_X0_loudest l D ci G ka (sh ad 5) X.1 (z 0) (z 1) (z 2) (j) (playIn X.1 i) hWF (by omega) (by omega)) gX3_countLoudest_X0_loudest rfl ⟨rfl, rfl⟩ (by decide +kernel) rfl ⟨Nat.le_of_ble_eq_true rfl, Nat.le_of_ble_eq_true rfl⟩ hE (en_S hGA hs0 hS) hK (wX_s5 hP) (ci := 0) (q0 := 0) rfl rfl hl.1 rfl (Nat.le_of_ble_eq_true rfl) dX3_countLoudest_57 ⟨Nat.zero_le _, Nat.zero_le _⟩ ?_
                    refine lv_dup2_11 hx hb dX3_countLoudest_60 rfl rfl ?_
                    have f5 := cLn_le X.1 (loudst X.1 j (playIn X.1 i))
                    refine nv_iald (v := nI ((cLn X.1 i (loudst X.1 j (playIn X.1 i)) + cntTo (fun se => loudst X.1 se (playIn X.1 i) == (loudst X.1 j (playIn X.1 i))) j))) hx hb hK hP 3 0 rfl rfl (by omega) (by decide) (h_l2 _ (by omega)) dX3_countLoudest_61 ?_
                    refine lv_iconst (v := nI (1)) hx hb dX3_countLoudest_62 (by decide) ?_
                    refine nv_iadd hx hb dX3_countLoudest_63 ?_
                    refine nv_iast hx hb hK hP hD hS 3 0 rfl rfl (by omega) (by decide) dX3_countLoudest_64 (fun H locs hP hD hS => ?_)
                    have hP : va_P D vwCl (wX ci ad X T tq (upd la (loudst X.1 j (playIn X.1 i)) (nI (((cLn X.1 i (loudst X.1 j (playIn X.1 i)) + cntTo (fun se => loudst X.1 se (playIn X.1 i) == (loudst X.1 j (playIn X.1 i))) j) + 1)))) tt z) H := va_P.re (wX_la ci ad X T tq la tt z (loudst X.1 j (playIn X.1 i)) (nI (((cLn X.1 i (loudst X.1 j (playIn X.1 i)) + cntTo (fun se => loudst X.1 se (playIn X.1 i) == (loudst X.1 j (playIn X.1 i))) j) + 1)))) hP
                    have hD : va_D (aX ad) (wX ci ad X T tq (upd la (loudst X.1 j (playIn X.1 i)) (nI (((cLn X.1 i (loudst X.1 j (playIn X.1 i)) + cntTo (fun se => loudst X.1 se (playIn X.1 i) == (loudst X.1 j (playIn X.1 i))) j) + 1)))) tt z) := wX_D hI
                    refine nv_iinc1 (lv' := [(3, .int (nI (j + 1))), (2, .int (nI (playIn X.1 i))), (1, .int (nI i)), (0, .ref (ad 0))]) hx hb dX3_countLoudest_65 hl (k := 0) rfl (by decide) rfl (fun ls hl => ?_)
                    refine lv_goto (tgt := 41) hx hb dX3_countLoudest_68 (by decide) ?_
                    exact ih41 (j + 1) (upd la (loudst X.1 (j) (playIn X.1 (i))) (nI (((cLn X.1 i (loudst X.1 (j) (playIn X.1 (i))) + cntTo (fun se => loudst X.1 se (playIn X.1 i) == (loudst X.1 (j) (playIn X.1 (i)))) j) + 1)))) (by omega) (by omega) (cl_next h_l2) (nI (j + 1)) rfl _ _ hP hS ls (lv_sub hl [0, 1, 2, 3] rfl)
              exact L41 _ (0) (la) (Nat.lt_succ_self _) (by omega) (fun q hq => h_l q hq) (nI (0)) rfl _ _ hP hS ls (lv_sub hl [0, 1, 2, 3] rfl)
        exact L24 _ (0) (la) (Nat.lt_succ_self _) (by omega) (fun q hq => by rw [h_l0 q (by omega)]; rfl) (nI (0)) rfl _ _ hP hS ls (lv_sub hl [0, 1] rfl)
      · refine lv_aload_n hx hb dX3_countLoudest_9 rfl (lv_at hl 1 rfl) ?_
        refine va_get (D := D) (ci := 3) (v := .ref (ad 3)) (C := RX3) (T := TX3) (N := 9) hx hb hts hinX3 hown hK hP 0 rfl rfl 7 (by decide) (hts (.fieldLink RX3 43 "OneShort" "loudestAt" "[I") (List.mem_of_getElem? (i := 1) rfl)) (fun _ h9 => h9) rfl dX3_countLoudest_10 ?_
        refine lv_iload_n hx hb dX3_countLoudest_13 rfl (lv_at hl 0 rfl) ?_
        refine lv_iconst (v := nI (0)) hx hb dX3_countLoudest_14 (by decide) ?_
        refine nv_iast hx hb hK hP hD hS 3 0 rfl rfl (by omega) (by decide) dX3_countLoudest_15 (fun H locs hP hD hS => ?_)
        have hP : va_P D vwCl (wX ci ad X T tq (upd la (i) (nI (0))) tt z) H := va_P.re (wX_la ci ad X T tq la tt z (i) (nI (0))) hP
        have hD : va_D (aX ad) (wX ci ad X T tq (upd la (i) (nI (0))) tt z) := wX_D hI
        refine nv_iinc1 (lv' := [(1, .int (nI (i + 1))), (0, .ref (ad 0))]) hx hb dX3_countLoudest_16 hl (k := 0) rfl (by decide) rfl (fun ls hl => ?_)
        refine lv_goto (tgt := 2) hx hb dX3_countLoudest_19 (by decide) ?_
        exact ih2 (i + 1) (upd la (i) (nI (0))) (by omega) (by omega) (upd_all (F := fun _ => 0) h_l0 rfl) (nI (i + 1)) rfl _ _ hP hS ls (lv_sub hl [0, 1] rfl)
  exact L2 _ (0) (la) (Nat.lt_succ_self _) (by omega) (fun _ h => absurd h (Nat.not_lt_zero _)) (nI (0)) rfl _ _ hP hS ls (lv_sub hl [0, 1] rfl)
