/-! walks laid by program -/
set_option maxHeartbeats 4000000 in
set_option maxRecDepth 100000 in
/-- X0_isOne -/
theorem c_X0_isOne (l : Launch) (D : va_G) (ci : Nat → ClassId) (G : Nat → Prop) (ka : Nat) (a : Nat → Nat) (S : OS) (w r nb : Nat → Int32) (q o : Nat) (hWF : WF S) (h_q : q < 8) (h_o : o < 7) : Met l yX0_isOne wsX0_isOne ({ frames := 0, cells := 0, slots := 0, locals := 0 } : Room) (va_Pc [.ref (a 0), .int (nI q), .int (nI o)] (ro_B D (tyL ci) (wO (ci 0) a S w r nb) (en D (ci 0) G ka))) (ro_Q (some (.int (bI (isK (S 1 q) o))))) 0 0 (fun _ => False) := by
  refine ro_Met (cc := cX0_isOne) (maxL := 5) (ret := (some .boolean)) [(0, .ref (a 0)), (1, .int (nI q)), (2, .int (nI o))] (by decide) rfl (Nat.le_of_ble_eq_true rfl) rfl ?_
  intro p e s m below meth c hx hb hml hr hlocks hts hown hP hK hs ls hl
  have hown : s.vm.findClass RX0 = some m.cls := hown
  have hinX0 : ∀ w ∈ wsX00, w ∈ wsX0_isOne := by decide +kernel
  have hE := hE_en D (ci 0) G ka
  have f_n := hWF.n
  refine lv_aload_n hx hb dX0_isOne_0 rfl (lv_at hl 0 rfl) ?_
  refine va_get (D := D) (ci := 0) (v := .ref (a 2)) (C := RX0) (T := TX0) (N := 13) hx hb hts hinX0 hown hK hP 0 rfl rfl 1 (by decide) (hts (.fieldLink RX0 15 "OneShort$Orchestra" "kind" "[I") (List.mem_of_getElem? (i := 1) rfl)) (fun _ h9 => h9) rfl dX0_isOne_1 ?_
  refine lv_iload_n hx hb dX0_isOne_4 rfl (lv_at hl 1 rfl) ?_
  have f1 := hWF.f1 (q)
  refine nv_iald (v := nI (S 1 (q))) hx hb hK hP 2 0 rfl rfl (by omega) (by decide) rfl dX0_isOne_5 ?_
  refine lv_istore_n (lv' := [(3, .int (nI (S 1 (q)))), (0, .ref (a 0)), (1, .int (nI q)), (2, .int (nI o))]) hx hb dX0_isOne_6 rfl hl (by decide) rfl (fun ls hl => ?_)
  refine lv_iconst (v := nI (0)) hx hb dX0_isOne_7 (by decide) ?_
  refine lv_istore (lv' := [(4, .int (nI 0)), (3, .int (nI (S 1 (q)))), (0, .ref (a 0)), (1, .int (nI q)), (2, .int (nI o))]) hx hb dX0_isOne_8 hl (by decide) rfl (fun ls hl => ?_)
  have L10 : ∀ (k10 : Nat) (i : Nat) (kk : Nat), 7 - i < k10 → (i ≤ 7) → (kk ≤ 7) → (isK (S 1 q) o = und (7 - i) kk o) → ∀ (x3 x4 : Int32), x3 = nI (kk) - nI (1) → x4 = nI (i) → ∀ ls : Array Slot, lv_has ls 5 [(3, .int (x3)), (4, .int (x4)), (0, .ref (a 0)), (1, .int (nI q)), (2, .int (nI o))] → W p l e (headSpec wsX0_isOne ({ frames := 0, cells := 0, slots := 0, locals := 0 } : Room)).room s m ([.ref (a 0), .int (nI q), .int (nI o)] : List Value).toArray below meth c s.heap [] 0 0 (MQ below (ro_Q (some (.int (bI (isK (S 1 q) o))))) ([.ref (a 0), .int (nI q), .int (nI o)] : List Value).toArray s 0 0 (fun _ => False)) (F0 m 10 ls []) := by
    intro k10
    induction k10 with
    | zero => intro i kk h0; exact absurd h0 (Nat.not_lt_zero _)
    | succ k10 ih10 =>
      intro i kk hk10 h_i h_k h_u x3 x4 e3 e4 ls hl
      subst e3
      subst e4
      refine lv_iload hx hb dX0_isOne_10 (lv_at hl 1 rfl) ?_
      refine lv_bipush (v := nI (7)) hx hb dX0_isOne_12 (by decide) ?_
      refine nv_icmp_ge (tgt := 46) hx hb (by omega) (by omega) dX0_isOne_14 (by decide) (fun c2 => ?_) (fun c2 => ?_)
      · refine lv_iconst (v := nI (0)) hx hb dX0_isOne_46 (by decide) ?_
        refine nv_cv (show nI (0) = bI (isK (S 1 q) o) from nv_f (by rw [h_u]; first | exact und_end (by omega) | exact und_zero _ _ | omega)) ?_
        exact ro_zret hx hb hr hlocks dX0_isOne_47
      · refine lv_iload_n hx hb dX0_isOne_17 rfl (lv_at hl 0 rfl) ?_
        refine lv_if_lt (tgt := 46) hx hb dX0_isOne_18 (by decide) (fun c3 => ?_) (fun c3 => ?_)
        · have e0 : kk = 0 := by rcases kk with _ | kk <;> first | rfl | exact absurd c3 (by rw [show nI (kk + 1) - nI 1 = nI kk from nI_pred kk]; exact nI_pos (by omega))
          subst e0
          refine lv_iconst (v := nI (0)) hx hb dX0_isOne_46 (by decide) ?_
          refine nv_cv (show nI (0) = bI (isK (S 1 q) o) from nv_f (by rw [h_u]; first | exact und_end (by omega) | exact und_zero _ _ | omega)) ?_
          exact ro_zret hx hb hr hlocks dX0_isOne_47
        · obtain ⟨k1, rfl⟩ : ∃ k1, kk = k1 + 1 := by rcases kk with _ | kk <;> first | exact absurd (by decide) c3 | exact ⟨kk, rfl⟩
          have e4 : nI (k1 + 1) - nI 1 = nI k1 := nI_pred k1
          rw [e4] at hl
          refine lv_iload_n hx hb dX0_isOne_21 rfl (lv_at hl 0 rfl) ?_
          refine lv_bipush (v := nI (7)) hx hb dX0_isOne_22 (by decide) ?_
          refine nv_icmp_ge (tgt := 46) hx hb (by omega) (by omega) dX0_isOne_24 (by decide) (fun c5 => ?_) (fun c5 => ?_)
          · refine lv_iconst (v := nI (0)) hx hb dX0_isOne_46 (by decide) ?_
            refine nv_cv (show nI (0) = bI (isK (S 1 q) o) from nv_f (by rw [h_u]; first | exact und_end (by omega) | exact und_zero _ _ | omega)) ?_
            exact ro_zret hx hb hr hlocks dX0_isOne_47
          · refine lv_iload_n hx hb dX0_isOne_27 rfl (lv_at hl 0 rfl) ?_
            refine lv_iload_n hx hb dX0_isOne_28 rfl (lv_at hl 4 rfl) ?_
            refine nv_icmp_ne (tgt := 34) hx hb (by omega) (by omega) dX0_isOne_29 (by decide) (fun c6 => ?_) (fun c6 => ?_)
            · refine va_getsN (v := .ref ka) hx hb hs.2.1 (va_S.rf (A := G)) hown (va_Nw.use rfl hs.1) (fun _ h => h) dX0_isOne_34 ?_
              refine lv_iload_n hx hb dX0_isOne_37 rfl (lv_at hl 0 rfl) ?_
              refine va_ti (v := .int (KAf (k1))) hx hb hs.2.2.1 (va_S.rf (A := G)) (vp_in_nI (show k1 < 7 by omega) (by decide)) (congrArg (fun z => Value.int (KAf z)) (nI_clamp (by omega))) dX0_isOne_38 ?_
              refine lv_istore_n (lv' := [(3, .int (KAf (k1))), (4, .int (nI i)), (0, .ref (a 0)), (1, .int (nI q)), (2, .int (nI o))]) hx hb dX0_isOne_39 rfl hl (by decide) rfl (fun ls hl => ?_)
              refine nv_iinc1 (lv' := [(4, .int (nI (i + 1))), (3, .int (KAf (k1))), (0, .ref (a 0)), (1, .int (nI q)), (2, .int (nI o))]) hx hb dX0_isOne_40 hl (k := 1) rfl (by decide) rfl (fun ls hl => ?_)
              refine lv_goto (tgt := 10) hx hb dX0_isOne_43 (by decide) ?_
              exact ih10 (i + 1) (abv (k1 + 1)) (by omega) (by omega) (abv_le _) (h_u.trans (und_step (by omega) c6)) (KAf (k1)) (nI (i + 1)) (by exact ka_abv k1 (by omega)) rfl ls (lv_sub hl [1, 0, 2, 3, 4] rfl)
            · refine lv_iconst (v := nI (1)) hx hb dX0_isOne_32 (by decide) ?_
              refine nv_cv (show nI (1) = bI (isK (S 1 q) o) from nv_t (by rw [h_u, c6]; exact und_hit (by omega))) ?_
              exact ro_zret hx hb hr hlocks dX0_isOne_33
  exact L10 _ (0) (S 1 q + 1) (Nat.lt_succ_self _) (by omega) (by omega) rfl (nI (S 1 (q))) (nI (0)) (nI_pred (S 1 q)).symm rfl ls (lv_sub hl [1, 0, 2, 3, 4] rfl)

set_option maxHeartbeats 4000000 in
set_option maxRecDepth 100000 in
/-- X0_isBold -/
theorem c_X0_isBold (l : Launch) (D : va_G) (ci : Nat → ClassId) (G : Nat → Prop) (ka : Nat) (a : Nat → Nat) (S : OS) (w r nb : Nat → Int32) (q : Nat) (hWF : WF S) (h_q : q < 8) : Met l yX0_isBold wsX0_isBold ({ frames := 1, cells := 0, slots := 0, locals := 24 } : Room) (va_Pc [.ref (a 0), .int (nI q)] (ro_B D (tyL ci) (wO (ci 0) a S w r nb) (en D (ci 0) G ka))) (ro_Q (some (.int (bI (bold S q))))) 0 0 (fun _ => False) := by
  refine ro_Met (cc := cX0_isBold) (maxL := 2) (ret := (some .boolean)) [(0, .ref (a 0)), (1, .int (nI q))] (by decide) rfl (Nat.le_of_ble_eq_true rfl) rfl ?_
  intro p e s m below meth c hx hb hml hr hlocks hts hown hP hK hs ls hl
  have hown : s.vm.findClass RX0 = some m.cls := hown
  have hinX0 : ∀ w ∈ wsX00, w ∈ wsX0_isBold := by decide +kernel
  have hE := hE_en D (ci 0) G ka
  have f_n := hWF.n
  refine lv_aload_n hx hb dX0_isBold_0 rfl (lv_at hl 0 rfl) ?_
  refine va_get (D := D) (ci := 0) (v := .ref (a 6)) (C := RX0) (T := TX0) (N := 13) hx hb hts hinX0 hown hK hP 0 rfl rfl 5 (by decide) (hts (.fieldLink RX0 27 "OneShort$Orchestra" "nerve" "[I") (List.mem_of_getElem? (i := 1) rfl)) (fun _ h9 => h9) rfl dX0_isBold_1 ?_
  refine lv_iload_n hx hb dX0_isBold_4 rfl (lv_at hl 1 rfl) ?_
  have f1 := hWF.f5 (q)
  refine nv_iald (v := nI (S 5 (q))) hx hb hK hP 6 0 rfl rfl (by omega) (by decide) rfl dX0_isBold_5 ?_
  refine lv_bipush (v := nI (80)) hx hb dX0_isBold_6 (by decide) ?_
  refine nv_icmp_lt (tgt := 24) hx hb (by omega) (by omega) dX0_isBold_8 (by decide) (fun c2 => ?_) (fun c2 => ?_)
  · refine lv_iconst (v := nI (0)) hx hb dX0_isBold_24 (by decide) ?_
    refine nv_cv (show nI (0) = bI (bold S q) from nv_f (by first | (simp [bold, c2]; done) | (simp [bold, c2] <;> omega) | omega)) ?_
    exact ro_zret hx hb hr hlocks dX0_isBold_25
  · refine lv_aload_n hx hb dX0_isBold_11 rfl (lv_at hl 0 rfl) ?_
    refine lv_iload_n hx hb dX0_isBold_12 rfl (lv_at hl 1 rfl) ?_
    refine lv_iconst (v := nI (4)) hx hb dX0_isBold_13 (by decide) ?_
    refine ro_V (n := 2) (As := [.int (nI q), .int (nI 4)]) (rest := []) ⟨hx, hb, hml, hown, hts⟩ (c_X0_isOne l D ci G ka a S w r nb (q) (4) hWF (by omega) (by omega)) gX0_isBold_X0_isOne rfl ⟨rfl, rfl⟩ (by decide +kernel) rfl ⟨Nat.le_of_ble_eq_true rfl, Nat.le_of_ble_eq_true rfl⟩ hE hs hK hP (ci := 0) (q0 := 0) rfl rfl hl.1 rfl (Nat.le_of_ble_eq_true rfl) dX0_isBold_14 ⟨Nat.zero_le _, Nat.zero_le _⟩ ?_
    refine nv_ifeq_b (tgt := 24) hx hb dX0_isBold_17 (by decide) (fun c3 => ?_) (fun c3 => ?_)
    · refine lv_iconst (v := nI (0)) hx hb dX0_isBold_24 (by decide) ?_
      refine nv_cv (show nI (0) = bI (bold S q) from nv_f (by first | (simp [bold, c2, c3]; done) | (simp [bold, c2, c3] <;> omega) | omega)) ?_
      exact ro_zret hx hb hr hlocks dX0_isBold_25
    · refine lv_iconst (v := nI (1)) hx hb dX0_isBold_20 (by decide) ?_
      refine lv_goto (tgt := 25) hx hb dX0_isBold_21 (by decide) ?_
      refine nv_cv (show nI (1) = bI (bold S q) from nv_t (by first | (simp [bold, c2, c3]; done) | (simp [bold, c2, c3] <;> omega) | omega)) ?_
      exact ro_zret hx hb hr hlocks dX0_isBold_25

set_option maxHeartbeats 4000000 in
set_option maxRecDepth 100000 in
/-- X0_hasOtherOfFirstPart -/
theorem c_X0_hasOtherOfFirstPart (l : Launch) (D : va_G) (ci : Nat → ClassId) (G : Nat → Prop) (ka : Nat) (a : Nat → Nat) (S : OS) (w r nb : Nat → Int32) (q : Nat) (hWF : WF S) (h_q : q < 8) : Met l yX0_hasOtherOfFirstPart wsX0_hasOtherOfFirstPart ({ frames := 0, cells := 0, slots := 0, locals := 0 } : Room) (va_Pc [.ref (a 0), .int (nI q)] (ro_B D (tyL ci) (wO (ci 0) a S w r nb) (en D (ci 0) G ka))) (ro_Q (some (.int (bI (othr S q))))) 0 0 (fun _ => False) := by
  refine ro_Met (cc := cX0_hasOtherOfFirstPart) (maxL := 3) (ret := (some .boolean)) [(0, .ref (a 0)), (1, .int (nI q))] (by decide) rfl (Nat.le_of_ble_eq_true rfl) rfl ?_
  intro p e s m below meth c hx hb hml hr hlocks hts hown hP hK hs ls hl
  have hown : s.vm.findClass RX0 = some m.cls := hown
  have hinX0 : ∀ w ∈ wsX00, w ∈ wsX0_hasOtherOfFirstPart := by decide +kernel
  have hE := hE_en D (ci 0) G ka
  have f_n := hWF.n
  refine lv_iconst (v := nI (0)) hx hb dX0_hasOtherOfFirstPart_0 (by decide) ?_
  refine lv_istore_n (lv' := [(2, .int (nI 0)), (0, .ref (a 0)), (1, .int (nI q))]) hx hb dX0_hasOtherOfFirstPart_1 rfl hl (by decide) rfl (fun ls hl => ?_)
  have L2 : ∀ (k2 : Nat) (i : Nat), S 7 0 - i < k2 → (i ≤ S 7 0) → (anyTo (fun o => o != q && S 3 o == 0) i = false) → ∀ (x2 : Int32), x2 = nI (i) → ∀ ls : Array Slot, lv_has ls 3 [(2, .int (x2)), (0, .ref (a 0)), (1, .int (nI q))] → W p l e (headSpec wsX0_hasOtherOfFirstPart ({ frames := 0, cells := 0, slots := 0, locals := 0 } : Room)).room s m ([.ref (a 0), .int (nI q)] : List Value).toArray below meth c s.heap [] 0 0 (MQ below (ro_Q (some (.int (bI (othr S q))))) ([.ref (a 0), .int (nI q)] : List Value).toArray s 0 0 (fun _ => False)) (F0 m 2 ls []) := by
    intro k2
    induction k2 with
    | zero => intro i h0; exact absurd h0 (Nat.not_lt_zero _)
    | succ k2 ih2 =>
      intro i hk2 h_i h_u x2 e2 ls hl
      subst e2
      refine lv_iload_n hx hb dX0_hasOtherOfFirstPart_2 rfl (lv_at hl 0 rfl) ?_
      refine lv_aload_n hx hb dX0_hasOtherOfFirstPart_3 rfl (lv_at hl 1 rfl) ?_
      refine va_get (D := D) (ci := 0) (v := .int (nI (S 7 0))) (C := RX0) (T := TX0) (N := 13) hx hb hts hinX0 hown hK hP 0 rfl rfl 7 (by decide) (hts (.fieldLink RX0 33 "OneShort$Orchestra" "size" "I") (List.mem_of_getElem? (i := 1) rfl)) (fun _ h9 => h9) rfl dX0_hasOtherOfFirstPart_4 ?_
      refine nv_icmp_ge (tgt := 32) hx hb (by omega) (by omega) dX0_hasOtherOfFirstPart_7 (by decide) (fun c1 => ?_) (fun c1 => ?_)
      · refine lv_iconst (v := nI (0)) hx hb dX0_hasOtherOfFirstPart_32 (by decide) ?_
        refine nv_cv (show nI (0) = bI (othr S q) from nv_f (by rw [othr, show S 7 0 = i by omega]; exact h_u)) ?_
        exact ro_zret hx hb hr hlocks dX0_hasOtherOfFirstPart_33
      · refine lv_iload_n hx hb dX0_hasOtherOfFirstPart_10 rfl (lv_at hl 0 rfl) ?_
        refine lv_iload_n hx hb dX0_hasOtherOfFirstPart_11 rfl (lv_at hl 2 rfl) ?_
        refine nv_icmp_eq (tgt := 26) hx hb (by omega) (by omega) dX0_hasOtherOfFirstPart_12 (by decide) (fun c2 => ?_) (fun c2 => ?_)
        · refine nv_iinc1 (lv' := [(2, .int (nI (i + 1))), (0, .ref (a 0)), (1, .int (nI q))]) hx hb dX0_hasOtherOfFirstPart_26 hl (k := 0) rfl (by decide) rfl (fun ls hl => ?_)
          refine lv_goto (tgt := 2) hx hb dX0_hasOtherOfFirstPart_29 (by decide) ?_
          exact ih2 (i + 1) (by omega) (by omega) (by rw [anyTo, h_u]; simp [c1, c2]) (nI (i + 1)) rfl ls (lv_sub hl [0, 1, 2] rfl)
        · refine lv_aload_n hx hb dX0_hasOtherOfFirstPart_15 rfl (lv_at hl 1 rfl) ?_
          refine va_get (D := D) (ci := 0) (v := .ref (a 4)) (C := RX0) (T := TX0) (N := 13) hx hb hts hinX0 hown hK hP 0 rfl rfl 3 (by decide) (hts (.fieldLink RX0 21 "OneShort$Orchestra" "part" "[I") (List.mem_of_getElem? (i := 2) rfl)) (fun _ h9 => h9) rfl dX0_hasOtherOfFirstPart_16 ?_
          refine lv_iload_n hx hb dX0_hasOtherOfFirstPart_19 rfl (lv_at hl 0 rfl) ?_
          have f3 := hWF.f3 (i)
          refine nv_iald (v := nI (S 3 (i))) hx hb hK hP 4 0 rfl rfl (by omega) (by decide) rfl dX0_hasOtherOfFirstPart_20 ?_
          refine nv_ifne (tgt := 26) hx hb (by omega) dX0_hasOtherOfFirstPart_21 (by decide) (fun c4 => ?_) (fun c4 => ?_)
          · refine nv_iinc1 (lv' := [(2, .int (nI (i + 1))), (0, .ref (a 0)), (1, .int (nI q))]) hx hb dX0_hasOtherOfFirstPart_26 hl (k := 0) rfl (by decide) rfl (fun ls hl => ?_)
            refine lv_goto (tgt := 2) hx hb dX0_hasOtherOfFirstPart_29 (by decide) ?_
            exact ih2 (i + 1) (by omega) (by omega) (by rw [anyTo, h_u]; simp [c1, c2, c4]) (nI (i + 1)) rfl ls (lv_sub hl [0, 1, 2] rfl)
          · refine lv_iconst (v := nI (1)) hx hb dX0_hasOtherOfFirstPart_24 (by decide) ?_
            refine nv_cv (show nI (1) = bI (othr S q) from nv_t ((anyTo_iff _ _).mpr ⟨i, by omega, by simp [c1, c2, c4]⟩)) ?_
            exact ro_zret hx hb hr hlocks dX0_hasOtherOfFirstPart_25
  exact L2 _ (0) (Nat.lt_succ_self _) (Nat.zero_le _) rfl (nI (0)) rfl ls (lv_sub hl [0, 1, 2] rfl)

set_option maxHeartbeats 4000000 in
set_option maxRecDepth 100000 in
/-- X0_barsWith -/
theorem c_X0_barsWith (l : Launch) (D : va_G) (ci : Nat → ClassId) (G : Nat → Prop) (ka : Nat) (a : Nat → Nat) (S : OS) (w r nb : Nat → Int32) (pt : Nat) (hWF : WF S) (h_pt : pt < 6) : Met l yX0_barsWith wsX0_barsWith ({ frames := 0, cells := 0, slots := 0, locals := 0 } : Room) (va_Pc [.ref (a 0), .int (nI pt)] (ro_B D (tyL ci) (wO (ci 0) a S w r nb) (en D (ci 0) G ka))) (ro_Q (some (.int (nI (barsWith S pt))))) 0 0 (fun _ => False) := by
  refine ro_Met (cc := cX0_barsWith) (maxL := 4) (ret := (some .int)) [(0, .ref (a 0)), (1, .int (nI pt))] (by decide) rfl (Nat.le_of_ble_eq_true rfl) rfl ?_
  intro p e s m below meth c hx hb hml hr hlocks hts hown hP hK hs ls hl
  have hown : s.vm.findClass RX0 = some m.cls := hown
  have hinX0 : ∀ w ∈ wsX00, w ∈ wsX0_barsWith := by decide +kernel
  have hE := hE_en D (ci 0) G ka
  have f_n := hWF.n
  refine lv_iconst (v := nI (0)) hx hb dX0_barsWith_0 (by decide) ?_
  refine lv_istore_n (lv' := [(2, .int (nI 0)), (0, .ref (a 0)), (1, .int (nI pt))]) hx hb dX0_barsWith_1 rfl hl (by decide) rfl (fun ls hl => ?_)
  refine lv_iconst (v := nI (0)) hx hb dX0_barsWith_2 (by decide) ?_
  refine lv_istore_n (lv' := [(3, .int (nI 0)), (2, .int (nI 0)), (0, .ref (a 0)), (1, .int (nI pt))]) hx hb dX0_barsWith_3 rfl hl (by decide) rfl (fun ls hl => ?_)
  have L4 : ∀ (k4 : Nat) (i : Nat), 12 - i < k4 → (i ≤ 12) → ∀ (x2 x3 : Int32), x2 = nI (setTo (fun j => (S 0 j).testBit pt) (i)) → x3 = nI (i) → ∀ ls : Array Slot, lv_has ls 4 [(2, .int (x2)), (3, .int (x3)), (0, .ref (a 0)), (1, .int (nI pt))] → W p l e (headSpec wsX0_barsWith ({ frames := 0, cells := 0, slots := 0, locals := 0 } : Room)).room s m ([.ref (a 0), .int (nI pt)] : List Value).toArray below meth c s.heap [] 0 0 (MQ below (ro_Q (some (.int (nI (barsWith S pt))))) ([.ref (a 0), .int (nI pt)] : List Value).toArray s 0 0 (fun _ => False)) (F0 m 4 ls []) := by
    intro k4
    induction k4 with
    | zero => intro i h0; exact absurd h0 (Nat.not_lt_zero _)
    | succ k4 ih4 =>
      intro i hk4 h_i x2 x3 e2 e3 ls hl
      subst e2
      subst e3
      refine lv_iload_n hx hb dX0_barsWith_4 rfl (lv_at hl 1 rfl) ?_
      refine lv_bipush (v := nI (12)) hx hb dX0_barsWith_5 (by decide) ?_
      refine nv_icmp_ge (tgt := 35) hx hb (by omega) (by omega) dX0_barsWith_7 (by decide) (fun c1 => ?_) (fun c1 => ?_)
      · refine lv_iload_n hx hb dX0_barsWith_35 rfl (lv_at hl 0 rfl) ?_
        refine nv_cv (show nI (setTo (fun j => (S 0 j).testBit pt) (i)) = nI (barsWith S pt) from nv_e (by rw [barsWith, show i = 12 by omega])) ?_
        exact ro_iret hx hb hr hlocks dX0_barsWith_36
      · refine lv_aload_n hx hb dX0_barsWith_10 rfl (lv_at hl 2 rfl) ?_
        refine va_get (D := D) (ci := 0) (v := .ref (a 1)) (C := RX0) (T := TX0) (N := 13) hx hb hts hinX0 hown hK hP 0 rfl rfl 0 (by decide) (hts (.fieldLink RX0 9 "OneShort$Orchestra" "bars" "[I") (List.mem_of_getElem? (i := 1) rfl)) (fun _ h9 => h9) rfl dX0_barsWith_11 ?_
        refine lv_iload_n hx hb dX0_barsWith_14 rfl (lv_at hl 1 rfl) ?_
        have f2 := hWF.f0 (i)
        refine nv_iald (v := nI (S 0 (i))) hx hb hK hP 1 0 rfl rfl (by omega) (by decide) rfl dX0_barsWith_15 ?_
        refine lv_iload_n hx hb dX0_barsWith_16 rfl (lv_at hl 3 rfl) ?_
        refine nv_ishr hx hb (by omega) (by omega) dX0_barsWith_17 ?_
        refine lv_iconst (v := nI (1)) hx hb dX0_barsWith_18 (by decide) ?_
        refine nv_iand hx hb dX0_barsWith_19 ?_
        have f3 : ((S 0 (i) / 2 ^ (pt)) &&& 1) ≤ 1 := Nat.and_le_right
        have f4 : ((S 0 (i) / 2 ^ (pt)) &&& 1) ≤ (S 0 (i) / 2 ^ (pt)) := Nat.and_le_left
        refine nv_ifeq (tgt := 29) hx hb (by omega) dX0_barsWith_20 (by decide) (fun c5 => ?_) (fun c5 => ?_)
        · refine nv_iinc1 (lv' := [(3, .int (nI (i + 1))), (2, .int (nI (setTo (fun j => (S 0 j).testBit pt) (i)))), (0, .ref (a 0)), (1, .int (nI pt))]) hx hb dX0_barsWith_29 hl (k := 1) rfl (by decide) rfl (fun ls hl => ?_)
          refine lv_goto (tgt := 4) hx hb dX0_barsWith_32 (by decide) ?_
          exact ih4 (i + 1) (by omega) (by omega) (nI (setTo (fun j => (S 0 j).testBit pt) (i))) (nI (i + 1)) (nv_e (by first | exact setTo_t (bit_t c5) | exact setTo_f (bit_f c5))) rfl ls (lv_sub hl [1, 0, 2, 3] rfl)
        · refine lv_iload_n hx hb dX0_barsWith_23 rfl (lv_at hl 0 rfl) ?_
          refine lv_iconst (v := nI (1)) hx hb dX0_barsWith_24 (by decide) ?_
          refine lv_iload_n hx hb dX0_barsWith_25 rfl (lv_at hl 1 rfl) ?_
          refine nv_ishl hx hb (by omega) dX0_barsWith_26 ?_
          refine nv_ior hx hb dX0_barsWith_27 ?_
          refine lv_istore_n (lv' := [(2, .int (nI ((setTo (fun j => (S 0 j).testBit pt) (i) ||| (1 * 2 ^ (i)))))), (3, .int (nI i)), (0, .ref (a 0)), (1, .int (nI pt))]) hx hb dX0_barsWith_28 rfl hl (by decide) rfl (fun ls hl => ?_)
          refine nv_iinc1 (lv' := [(3, .int (nI (i + 1))), (2, .int (nI ((setTo (fun j => (S 0 j).testBit pt) (i) ||| (1 * 2 ^ (i)))))), (0, .ref (a 0)), (1, .int (nI pt))]) hx hb dX0_barsWith_29 hl (k := 1) rfl (by decide) rfl (fun ls hl => ?_)
          refine lv_goto (tgt := 4) hx hb dX0_barsWith_32 (by decide) ?_
          exact ih4 (i + 1) (by omega) (by omega) (nI ((setTo (fun j => (S 0 j).testBit pt) (i) ||| (1 * 2 ^ (i))))) (nI (i + 1)) (nv_e (by first | exact setTo_t (bit_t c5) | exact setTo_f (bit_f c5))) rfl ls (lv_sub hl [1, 0, 2, 3] rfl)
  exact L4 _ (0) (Nat.lt_succ_self _) (by omega) (nI (0)) (nI (0)) rfl rfl ls (lv_sub hl [1, 0, 2, 3] rfl)
