/-! walks laid by program -/
set_option maxHeartbeats 4000000 in
set_option maxRecDepth 100000 in
/-- X3_tells -/
theorem c_X3_tells (l : Launch) (D : va_G) (ci : Nat → ClassId) (G : Nat → Prop) (ka : Nat) (ad : Nat → Nat) (X : AS) (T : OS) (tq la tt : Nat → Int32) (z : Nat → Nat → Int32) (hI : injA ad 48) (hG : ∀ k, k < 48 → G (ad k))  (hWX : WFX X) : Met l yX3_tells wsX3_tells ({ frames := 3, cells := 0, slots := 0, locals := 67 } : Room) (va_Pc [.ref (ad 0)] (ro_B D (tyL ci) (wX ci ad X T tq la tt z) (en D (ci 0) G ka))) (mu_Q (aX ad) (some (.int ((p_tells X).1))) (fun H => ∃ T tq la tt z, va_P D vwCl (wX ci ad ((p_tells X).2) T tq la tt z) H)) 0 0 (aX ad) := by
  refine mu_Met (cc := cX3_tells) (maxL := 4) (ret := (some .int)) [(0, .ref (ad 0))] (wX_D hI) (by decide) rfl (Nat.le_of_ble_eq_true rfl) rfl ?_
  intro p e s m below meth c H locs hx hb hml hr hlocks hts hown hP hK hs0 hD hS ls hl
  have hown : s.vm.findClass RX3 = some m.cls := hown
  have hinX0 : ∀ w ∈ wsX00, w ∈ wsX3_tells := by decide +kernel
  have hinX3 : ∀ w ∈ wsX30, w ∈ wsX3_tells := by decide +kernel
  have hE := hE_en D (ci 0) G ka
  have hWF := hWX.w
  have f_n := hWF.n
  have f_e := hWX.e
  have f_tl := hWX.t
  have hGA := aX_G hG
  have hWK := hWX.k
  refine lv_iconst (v := nI (0)) hx hb dX3_tells_0 (by decide) ?_
  refine lv_istore_n (lv' := [(1, .int (nI 0)), (0, .ref (ad 0))]) hx hb dX3_tells_1 rfl hl (by decide) rfl (fun ls hl => ?_)
  refine lv_iconst (v := nI (0)) hx hb dX3_tells_2 (by decide) ?_
  refine lv_istore_n (lv' := [(2, .int (nI 0)), (1, .int (nI 0)), (0, .ref (ad 0))]) hx hb dX3_tells_3 rfl hl (by decide) rfl (fun ls hl => ?_)
  have L4 : ∀ (k4 : Nat) (i : Nat) (m9 : Nat) (tl : Nat → Nat) (tt : Nat → Int32), X.1 7 0 - i < k4 → (i ≤ X.1 7 0) → (m9 = sumTo (fun a => X.1 7 0 - (a + 1)) i) → (∀ j, j < m9 → tt j = nI (tl j)) → (∀ t, anyTo (fun i => (t &&& tl i) == 0) m9 = anyTo (fun a => anyTo (fun k => (t &&& (bPlay X.1 a ^^^ bPlay X.1 (a + 1 + k))) == 0) (X.1 7 0 - (a + 1))) i) → (anyTo (fun a => anyTo (fun k => (bPlay X.1 a ^^^ bPlay X.1 (a + 1 + k)) == 0) (X.1 7 0 - (a + 1))) i = false) → ∀ (x1 x2 : Int32), x1 = nI (m9) → x2 = nI (i) → ∀ (H : Heap) (locs : List Loc), va_P D vwCl (wX ci ad X T tq la tt z) H → va_S (aX ad) s.heap H locs → ∀ ls : Array Slot, lv_has ls 4 [(1, .int (x1)), (2, .int (x2)), (0, .ref (ad 0))] → W p l e (headSpec wsX3_tells ({ frames := 3, cells := 0, slots := 0, locals := 67 } : Room)).room s m ([.ref (ad 0)] : List Value).toArray below meth c H locs 0 0 (MQ below (mu_Q (aX ad) (some (.int ((p_tells X).1))) (fun H => ∃ T tq la tt z, va_P D vwCl (wX ci ad ((p_tells X).2) T tq la tt z) H)) ([.ref (ad 0)] : List Value).toArray s 0 0 (aX ad)) (F0 m 4 ls []) := by
    intro k4
    induction k4 with
    | zero => intro i m9 tl tt h0; exact absurd h0 (Nat.not_lt_zero _)
    | succ k4 ih4 =>
      intro i m9 tl tt hk4 h_i h_m h_tt h_q h_z x1 x2 e1 e2  H locs hP hS ls hl
      subst e1
      subst e2
      have hD : va_D (aX ad) (wX ci ad X T tq la tt z) := wX_D hI
      have f_m := tl_cnt f_n h_i
      refine lv_iload_n hx hb dX3_tells_4 rfl (lv_at hl 1 rfl) ?_
      refine lv_aload_n hx hb dX3_tells_5 rfl (lv_at hl 2 rfl) ?_
      refine va_get (D := D) (ci := 3) (v := .ref (ad 5)) (C := RX3) (T := TX3) (N := 9) hx hb hts hinX3 hown hK hP 0 rfl rfl 0 (by decide) (hts (.fieldLink RX3 10 "OneShort" "orchestra" "LOneShort$Orchestra;") (List.mem_of_getElem? (i := 1) rfl)) (fun _ h9 => h9) rfl dX3_tells_6 ?_
      refine va_get (D := D) (ci := 0) (v := .int (nI (X.1 7 0))) (C := RX0) (T := TX0) (N := 13) hx hb hts hinX0 hown hK hP 5 rfl rfl 7 (by decide) (hts (.fieldLink RX3 73 "OneShort$Orchestra" "size" "I") (List.mem_of_getElem? (i := 2) rfl)) (fun _ h9 => h9) rfl dX3_tells_9 ?_
      refine nv_icmp_ge (tgt := 89) hx hb (by omega) (by omega) dX3_tells_12 (by decide) (fun c1 => ?_) (fun c1 => ?_)
      · refine lv_aload_n hx hb dX3_tells_89 rfl (lv_at hl 2 rfl) ?_
        refine lv_iload_n hx hb dX3_tells_90 rfl (lv_at hl 0 rfl) ?_
        refine lv_sipush (v := nI (4096)) hx hb dX3_tells_91 (by decide) ?_
        refine ro_V (n := 2) (As := [.int (nI m9), .int (nI 4096)]) (rest := []) ⟨hx, hb, hml, hown, hts⟩ (c_X3_leastTouching l D ci G ka ad X T tq la tt z (m9) (4096) (tl) hWX (by omega) (by omega) h_tt) gX3_tells_X3_leastTouching rfl ⟨rfl, rfl⟩ (by decide +kernel) rfl ⟨Nat.le_of_ble_eq_true rfl, Nat.le_of_ble_eq_true rfl⟩ hE (en_S hGA hs0 hS) hK hP (ci := 3) (q0 := 0) rfl rfl hl.1 rfl (Nat.le_of_ble_eq_true rfl) dX3_tells_94 ⟨Nat.zero_le _, Nat.zero_le _⟩ ?_
        have hp : p_tells X = (nI ((ltb (fun t => !anyTo (fun i => (t &&& tl i) == 0) m9) 4096).1), X) := by (have e8 : X.1 7 0 = i := (by omega)); (have e9 : (fun t => !anyTo (fun i => (t &&& tl i) == 0) m9) = (fun t => !anyTo (fun a => anyTo (fun k => (t &&& (bPlay X.1 a ^^^ bPlay X.1 (a + 1 + k))) == 0) (X.1 7 0 - (a + 1))) (X.1 7 0)) := funext (fun t => by rw [h_q t, e8])); rw [e9, p_tells, bk_t (by rw [e8]; rw [e8] at h_z; rw [h_z]; rfl)]
        refine nv_cv (show nI ((ltb (fun t => !anyTo (fun i => (t &&& tl i) == 0) m9) 4096).1) = (p_tells X).1 from by rw [hp]) ?_
        exact mu_iret hx hb hr hlocks hS ((by rw [hp]; exact ⟨_, _, _, _, _, hP⟩)) dX3_tells_97
      · refine lv_iload_n hx hb dX3_tells_15 rfl (lv_at hl 1 rfl) ?_
        refine lv_iconst (v := nI (1)) hx hb dX3_tells_16 (by decide) ?_
        refine nv_iadd hx hb dX3_tells_17 ?_
        refine lv_istore_n (lv' := [(3, .int (nI ((i + 1)))), (1, .int (nI m9)), (2, .int (nI i)), (0, .ref (ad 0))]) hx hb dX3_tells_18 rfl hl (by decide) rfl (fun ls hl => ?_)
        have L19 : ∀ (k19 : Nat) (k : Nat) (mm : Nat) (tl : Nat → Nat) (tt : Nat → Int32), X.1 7 0 - (i + 1 + k) < k19 → (i + 1 + k ≤ X.1 7 0) → (mm = m9 + k) → (∀ j, j < mm → tt j = nI (tl j)) → (∀ t, anyTo (fun i => (t &&& tl i) == 0) mm = (anyTo (fun a => anyTo (fun k => (t &&& (bPlay X.1 a ^^^ bPlay X.1 (a + 1 + k))) == 0) (X.1 7 0 - (a + 1))) i || anyTo (fun k => (t &&& (bPlay X.1 i ^^^ bPlay X.1 (i + 1 + k))) == 0) k)) → (anyTo (fun k => (bPlay X.1 i ^^^ bPlay X.1 (i + 1 + k)) == 0) k = false) → ∀ (x1 x3 : Int32), x1 = nI (mm) → x3 = nI ((i + 1 + k)) → ∀ (H : Heap) (locs : List Loc), va_P D vwCl (wX ci ad X T tq la tt z) H → va_S (aX ad) s.heap H locs → ∀ ls : Array Slot, lv_has ls 4 [(1, .int (x1)), (3, .int (x3)), (2, .int (nI i)), (0, .ref (ad 0))] → W p l e (headSpec wsX3_tells ({ frames := 3, cells := 0, slots := 0, locals := 67 } : Room)).room s m ([.ref (ad 0)] : List Value).toArray below meth c H locs 0 0 (MQ below (mu_Q (aX ad) (some (.int ((p_tells X).1))) (fun H => ∃ T tq la tt z, va_P D vwCl (wX ci ad ((p_tells X).2) T tq la tt z) H)) ([.ref (ad 0)] : List Value).toArray s 0 0 (aX ad)) (F0 m 19 ls []) := by
          intro k19
          induction k19 with
          | zero => intro k mm tl tt h0; exact absurd h0 (Nat.not_lt_zero _)
          | succ k19 ih19 =>
            intro k mm tl tt hk19 h_k h_m2 h_tt2 h_q2 h_z2 x1 x3 e1 e3  H locs hP hS ls hl
            subst e1
            subst e3
            have hD : va_D (aX ad) (wX ci ad X T tq la tt z) := wX_D hI
            have f_m2 : i + 1 + k < X.1 7 0 → mm < 28 := fun h => by rw [h_m2, h_m]; exact tl_lt f_n h
            refine lv_iload_n hx hb dX3_tells_19 rfl (lv_at hl 1 rfl) ?_
            refine lv_aload_n hx hb dX3_tells_20 rfl (lv_at hl 3 rfl) ?_
            refine va_get (D := D) (ci := 3) (v := .ref (ad 5)) (C := RX3) (T := TX3) (N := 9) hx hb hts hinX3 hown hK hP 0 rfl rfl 0 (by decide) (hts (.fieldLink RX3 10 "OneShort" "orchestra" "LOneShort$Orchestra;") (List.mem_of_getElem? (i := 1) rfl)) (fun _ h9 => h9) rfl dX3_tells_21 ?_
            refine va_get (D := D) (ci := 0) (v := .int (nI (X.1 7 0))) (C := RX0) (T := TX0) (N := 13) hx hb hts hinX0 hown hK hP 5 rfl rfl 7 (by decide) (hts (.fieldLink RX3 73 "OneShort$Orchestra" "size" "I") (List.mem_of_getElem? (i := 2) rfl)) (fun _ h9 => h9) rfl dX3_tells_24 ?_
            refine nv_icmp_ge (tgt := 83) hx hb (by omega) (by omega) dX3_tells_27 (by decide) (fun c2 => ?_) (fun c2 => ?_)
            · refine nv_iinc1 (lv' := [(2, .int (nI (i + 1))), (1, .int (nI mm)), (3, .int (nI ((i + 1 + k)))), (0, .ref (ad 0))]) hx hb dX3_tells_83 hl (k := 2) rfl (by decide) rfl (fun ls hl => ?_)
              refine lv_goto (tgt := 4) hx hb dX3_tells_86 (by decide) ?_
              exact ih4 (i + 1) (mm) (tl) (tt) (by omega) (by omega) (by rw [h_m2, show k = X.1 7 0 - (i + 1) by omega, h_m]; rfl) h_tt2 (fun t => by rw [h_q2 t, show k = X.1 7 0 - (i + 1) by omega]; rfl) (by rw [anyTo, h_z, Bool.false_or, ← h_z2, show k = X.1 7 0 - (i + 1) by omega]) (nI (mm)) (nI (i + 1)) rfl rfl _ _ hP hS ls (lv_sub hl [1, 0, 3] rfl)
            · refine lv_iload_n hx hb dX3_tells_30 rfl (lv_at hl 0 rfl) ?_
              refine lv_bipush (v := nI (28)) hx hb dX3_tells_31 (by decide) ?_
              refine nv_icmp_ge (tgt := 83) hx hb (by omega) (by omega) dX3_tells_33 (by decide) (fun c3 => ?_) (fun c3 => ?_)
              · exact absurd c3 (by have := f_m2 (by omega); omega)
              · refine lv_aload_n hx hb dX3_tells_36 rfl (lv_at hl 3 rfl) ?_
                refine va_get (D := D) (ci := 3) (v := .ref (ad 4)) (C := RX3) (T := TX3) (N := 9) hx hb hts hinX3 hown hK hP 0 rfl rfl 8 (by decide) (hts (.fieldLink RX3 46 "OneShort" "toTouch" "[I") (List.mem_of_getElem? (i := 3) rfl)) (fun _ h9 => h9) rfl dX3_tells_37 ?_
                refine lv_iload_n hx hb dX3_tells_40 rfl (lv_at hl 0 rfl) ?_
                refine lv_aload_n hx hb dX3_tells_41 rfl (lv_at hl 3 rfl) ?_
                refine va_get (D := D) (ci := 3) (v := .ref (ad 5)) (C := RX3) (T := TX3) (N := 9) hx hb hts hinX3 hown hK hP 0 rfl rfl 0 (by decide) (hts (.fieldLink RX3 10 "OneShort" "orchestra" "LOneShort$Orchestra;") (List.mem_of_getElem? (i := 1) rfl)) (fun _ h9 => h9) rfl dX3_tells_42 ?_
                refine lv_iload_n hx hb dX3_tells_45 rfl (lv_at hl 2 rfl) ?_
                refine ro_V (n := 1) (As := [.int (nI i)]) (rest := [.int (nI mm), .ref (ad 4)]) ⟨hx, hb, hml, hown, hts⟩ (c_X0_barsPlayed l D ci G ka (sh ad 5) X.1 (z 0) (z 1) (z 2) (i) hWF (by omega)) gX3_tells_X0_barsPlayed rfl ⟨rfl, rfl⟩ (by decide +kernel) rfl ⟨Nat.le_of_ble_eq_true rfl, Nat.le_of_ble_eq_true rfl⟩ hE (en_S hGA hs0 hS) hK (wX_s5 hP) (ci := 0) (q0 := 0) rfl rfl hl.1 rfl (Nat.le_of_ble_eq_true rfl) dX3_tells_46 ⟨Nat.zero_le _, Nat.zero_le _⟩ ?_
                have f4 := bPlay_lt X.1 (i)
                refine lv_aload_n hx hb dX3_tells_49 rfl (lv_at hl 3 rfl) ?_
                refine va_get (D := D) (ci := 3) (v := .ref (ad 5)) (C := RX3) (T := TX3) (N := 9) hx hb hts hinX3 hown hK hP 0 rfl rfl 0 (by decide) (hts (.fieldLink RX3 10 "OneShort" "orchestra" "LOneShort$Orchestra;") (List.mem_of_getElem? (i := 1) rfl)) (fun _ h9 => h9) rfl dX3_tells_50 ?_
                refine lv_iload_n hx hb dX3_tells_53 rfl (lv_at hl 1 rfl) ?_
                refine ro_V (n := 1) (As := [.int (nI ((i + 1 + k)))]) (rest := [.int (nI (bPlay X.1 i)), .int (nI mm), .ref (ad 4)]) ⟨hx, hb, hml, hown, hts⟩ (c_X0_barsPlayed l D ci G ka (sh ad 5) X.1 (z 0) (z 1) (z 2) ((i + 1 + k)) hWF (by omega)) gX3_tells_X0_barsPlayed rfl ⟨rfl, rfl⟩ (by decide +kernel) rfl ⟨Nat.le_of_ble_eq_true rfl, Nat.le_of_ble_eq_true rfl⟩ hE (en_S hGA hs0 hS) hK (wX_s5 hP) (ci := 0) (q0 := 0) rfl rfl hl.1 rfl (Nat.le_of_ble_eq_true rfl) dX3_tells_54 ⟨Nat.zero_le _, Nat.zero_le _⟩ ?_
                have f5 := bPlay_lt X.1 ((i + 1 + k))
                refine nv_ixor hx hb dX3_tells_57 ?_
                refine nv_iast hx hb hK hP hD hS 4 0 rfl rfl (by omega) (by decide) dX3_tells_58 (fun H locs hP hD hS => ?_)
                have hP : va_P D vwCl (wX ci ad X T tq la (upd tt (mm) (nI ((bPlay X.1 i ^^^ bPlay X.1 (i + 1 + k))))) z) H := va_P.re (wX_tt ci ad X T tq la tt z (mm) (nI ((bPlay X.1 i ^^^ bPlay X.1 (i + 1 + k))))) hP
                have hD : va_D (aX ad) (wX ci ad X T tq la (upd tt (mm) (nI ((bPlay X.1 i ^^^ bPlay X.1 (i + 1 + k))))) z) := wX_D hI
                refine lv_aload_n hx hb dX3_tells_59 rfl (lv_at hl 3 rfl) ?_
                refine va_get (D := D) (ci := 3) (v := .ref (ad 4)) (C := RX3) (T := TX3) (N := 9) hx hb hts hinX3 hown hK hP 0 rfl rfl 8 (by decide) (hts (.fieldLink RX3 46 "OneShort" "toTouch" "[I") (List.mem_of_getElem? (i := 3) rfl)) (fun _ h9 => h9) rfl dX3_tells_60 ?_
                refine lv_iload_n hx hb dX3_tells_63 rfl (lv_at hl 0 rfl) ?_
                refine nv_iald (v := (upd tt (mm) (nI ((bPlay X.1 i ^^^ bPlay X.1 (i + 1 + k))))) (mm)) hx hb hK hP 4 0 rfl rfl (by omega) (by decide) rfl dX3_tells_64 ?_
                have f6 := xor_lt9 X.1 i (i + 1 + k)
                refine nv_cv (show (upd tt (mm) (nI ((bPlay X.1 i ^^^ bPlay X.1 (i + 1 + k))))) (mm) = nI ((bPlay X.1 i ^^^ bPlay X.1 (i + 1 + k))) from pk_us) ?_
                refine nv_ifne (tgt := 74) hx hb (by omega) dX3_tells_65 (by decide) (fun c7 => ?_) (fun c7 => ?_)
                · refine nv_iinc1 (lv' := [(1, .int (nI (mm + 1))), (3, .int (nI ((i + 1 + k)))), (2, .int (nI i)), (0, .ref (ad 0))]) hx hb dX3_tells_74 hl (k := 0) rfl (by decide) rfl (fun ls hl => ?_)
                  refine nv_iinc1 (lv' := [(3, .int (nI ((i + 1 + k) + 1))), (1, .int (nI (mm + 1))), (2, .int (nI i)), (0, .ref (ad 0))]) hx hb dX3_tells_77 hl (k := 1) rfl (by decide) rfl (fun ls hl => ?_)
                  refine lv_goto (tgt := 19) hx hb dX3_tells_80 (by decide) ?_
                  exact ih19 (k + 1) (mm + 1) (updF tl mm (bPlay X.1 i ^^^ bPlay X.1 (i + 1 + k))) (upd tt (mm) (nI ((bPlay X.1 i ^^^ bPlay X.1 (i + 1 + k))))) (by omega) (by omega) (by omega) (fun j hj => by simp only [upd, updF]; split <;> first | rfl | exact h_tt2 j (by omega)) (fun t => tl_next (h_q2 t)) (by rw [anyTo, h_z2]; simpa using c7) (nI (mm + 1)) (nI ((i + 1 + k) + 1)) rfl (nv_e (by omega)) _ _ hP hS ls (lv_sub hl [1, 0, 2, 3] rfl)
                · refine lv_aload_n hx hb dX3_tells_68 rfl (lv_at hl 3 rfl) ?_
                  refine lv_iconst (v := nI (3)) hx hb dX3_tells_69 (by decide) ?_
                  refine mu_V (n := 1) (As := [.int (nI 3)]) (rest := []) ⟨hx, hb, hml, hown, hts⟩ (c_X3_finding l D ci G ka ad X T tq la (upd tt (mm) (nI ((bPlay X.1 i ^^^ bPlay X.1 (i + 1 + k))))) z hI hG (3) hWX (by omega)) gX3_tells_X3_finding rfl ⟨rfl, rfl⟩ (by decide +kernel) rfl ⟨Nat.le_of_ble_eq_true rfl, Nat.le_of_ble_eq_true rfl⟩ hE (en_S hGA hs0 hS) hK hP (ci := 3) (q0 := 0) rfl rfl hl.1 rfl (Nat.le_of_ble_eq_true rfl) dX3_tells_70 ⟨Nat.zero_le _, Nat.zero_le _⟩ hS (fun _ h => h) (fun H1 locs hz hfr hB hS => ?_)
                  obtain ⟨T, tq, la, tt, z, hP⟩ := hB
                  generalize H1 = H at hP hS ⊢
                  have hD : va_D (aX ad) (wX ci ad (toF X (inc X.2.2.2.1 3)) T tq la tt z) := wX_D hI
                  have hp : p_tells X = (fnd 3, toF X (inc X.2.2.2.1 3)) := by rw [p_tells, bk_f (tl_bad (i := i) (k := k) (by omega) (by omega) c7)]; rfl
                  refine nv_cv (show fnd 3 = (p_tells X).1 from by rw [hp]) ?_
                  exact mu_iret hx hb hr hlocks hS ((by rw [hp]; exact ⟨_, _, _, _, _, hP⟩)) dX3_tells_73
        exact L19 _ (0) (m9) (tl) (tt) (Nat.lt_succ_self _) (by omega) rfl h_tt (fun t => by rw [h_q t]; simp [anyTo]) rfl (nI (m9)) (nI ((i + 1))) rfl rfl _ _ hP hS ls (lv_sub hl [1, 0, 2, 3] rfl)
  exact L4 _ (0) (0) ((fun _ => 0)) (tt) (Nat.lt_succ_self _) (by omega) rfl (fun _ h => absurd h (Nat.not_lt_zero _)) (fun t => rfl) rfl (nI (0)) (nI (0)) rfl rfl _ _ hP hS ls (lv_sub hl [1, 0, 2] rfl)
