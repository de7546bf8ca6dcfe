/-! walks laid by program -/
set_option maxHeartbeats 4000000 in
set_option maxRecDepth 100000 in
/-- X4_finding -/
theorem c_X4_finding (l : Launch) (D : va_G) (ci : Nat → ClassId) (am : Nat → Nat) (X : AS) (kr : Nat → Int32) (q0 q1 q2 q3 q4 q5 : Int32) (iw : Bool) (kn : Nat → Option Nat) (y0 y1 y2 y3 y4 y5 y6 : Nat → Int32) (hI : injA am 16) (w : Int32) (k : Nat) (h_k : k < 7) (h_w : w = fnd k) : Met l yX4_finding wsX4_finding ({ frames := 0, cells := 0, slots := 0, locals := 0 } : Room) (va_Pc [.ref (am 0), .int (w)] (ro_B D (tyL ci) (wN ci am X kr q0 q1 q2 q3 q4 q5 iw kn y0 y1 y2 y3 y4 y5 y6) (enT))) (mu_Q (aM am) (some (.int (fnd k))) (fun H => va_P D vwCl (wN ci am (toF X (inc X.2.2.2.1 k)) kr q0 q1 q2 q3 q4 q5 iw kn y0 y1 y2 y3 y4 y5 y6) H)) 0 0 (aM am) := by
  refine mu_Met (cc := cX4_finding) (maxL := 2) (ret := (some .int)) [(0, .ref (am 0)), (1, .int (w))] (wN_D hI) (by decide) rfl (Nat.le_of_ble_eq_true rfl) rfl ?_
  intro p e s m below meth c H locs hx hb hml hr hlocks hts hown hP hK hs0 hD hS ls hl
  have hown : s.vm.findClass RX4 = some m.cls := hown
  have hinX4 : ∀ w ∈ wsX40, w ∈ wsX4_finding := by decide +kernel
  have hE := hE_T
  refine lv_aload_n hx hb dX4_finding_0 rfl (lv_at hl 0 rfl) ?_
  refine va_get (D := D) (ci := 4) (v := .ref (am 4)) (C := RX4) (T := TX4) (N := 24) hx hb hts hinX4 hown hK hP 0 rfl rfl 4 (by decide) (hts (.fieldLink RX4 19 "OneShortModel" "found" "[I") (List.mem_of_getElem? (i := 1) rfl)) (fun _ h9 => h9) rfl dX4_finding_1 ?_
  refine lv_ldc (v := -1000001) hx hb hown (hts (.constant RX4 72 (-1000001)) (List.mem_of_getElem? (i := 2) rfl)) dX4_finding_4 ?_
  refine lv_iload_n hx hb dX4_finding_6 rfl (lv_at hl 1 rfl) ?_
  refine lv_isub hx hb dX4_finding_7 ?_
  refine lv_iconst (v := nI (1)) hx hb dX4_finding_8 (by decide) ?_
  refine lv_iadd hx hb dX4_finding_9 ?_
  refine nv_cv (show ((-1000001 - w) + nI (1)) = nI ((k + 1)) from fd_idx h_w) ?_
  refine lv_dup2_11 hx hb dX4_finding_10 rfl rfl ?_
  refine nv_iald (v := nI ((fdm X.2.2.2.1) ((k + 1)))) hx hb hK hP 4 0 rfl rfl (by omega) (by decide) rfl dX4_finding_11 ?_
  refine lv_iconst (v := nI (1)) hx hb dX4_finding_12 (by decide) ?_
  refine nv_iadd hx hb dX4_finding_13 ?_
  refine nv_iast hx hb hK hP hD hS 4 0 rfl rfl (by omega) (by decide) dX4_finding_14 (fun H locs hP hD hS => ?_)
  have hP : va_P D vwCl (wNg ci am X kr q0 q1 q2 q3 q4 q5 iw kn y0 y1 y2 y3 y4 y5 y6 (updF (fdm X.2.2.2.1) ((k + 1)) (((fdm X.2.2.2.1) ((k + 1)) + 1)))) H := va_P.re (wNg_fd ci am X kr q0 q1 q2 q3 q4 q5 iw kn y0 y1 y2 y3 y4 y5 y6 ((k + 1)) (((fdm X.2.2.2.1) ((k + 1)) + 1)) (fdm X.2.2.2.1)) hP
  have hD : va_D (aM am) (wNg ci am X kr q0 q1 q2 q3 q4 q5 iw kn y0 y1 y2 y3 y4 y5 y6 (updF (fdm X.2.2.2.1) ((k + 1)) (((fdm X.2.2.2.1) ((k + 1)) + 1)))) := wNg_D hI
  refine lv_aload_n hx hb dX4_finding_15 rfl (lv_at hl 0 rfl) ?_
  refine va_get (D := D) (ci := 4) (v := .ref (am 4)) (C := RX4) (T := TX4) (N := 24) hx hb hts hinX4 hown hK hP 0 rfl rfl 4 (by decide) (hts (.fieldLink RX4 19 "OneShortModel" "found" "[I") (List.mem_of_getElem? (i := 1) rfl)) (fun _ h9 => h9) rfl dX4_finding_16 ?_
  refine lv_iconst (v := nI (0)) hx hb dX4_finding_19 (by decide) ?_
  refine lv_dup2_11 hx hb dX4_finding_20 rfl rfl ?_
  refine nv_iald (v := nI ((updF (fdm X.2.2.2.1) ((k + 1)) (((fdm X.2.2.2.1) ((k + 1)) + 1))) (0))) hx hb hK hP 4 0 rfl rfl (by omega) (by decide) rfl dX4_finding_21 ?_
  refine nv_cv (show nI ((updF (fdm X.2.2.2.1) ((k + 1)) (((fdm X.2.2.2.1) ((k + 1)) + 1))) (0)) = nI (fdm X.2.2.2.1 0) from by simp [updF]) ?_
  refine lv_iconst (v := nI (1)) hx hb dX4_finding_22 (by decide) ?_
  refine nv_iadd hx hb dX4_finding_23 ?_
  refine nv_iast hx hb hK hP hD hS 4 0 rfl rfl (by omega) (by decide) dX4_finding_24 (fun H locs hP hD hS => ?_)
  have hP : va_P D vwCl (wNg ci am X kr q0 q1 q2 q3 q4 q5 iw kn y0 y1 y2 y3 y4 y5 y6 (updF (updF (fdm X.2.2.2.1) ((k + 1)) (((fdm X.2.2.2.1) ((k + 1)) + 1))) (0) ((fdm X.2.2.2.1 0 + 1)))) H := va_P.re (wNg_fd ci am X kr q0 q1 q2 q3 q4 q5 iw kn y0 y1 y2 y3 y4 y5 y6 (0) ((fdm X.2.2.2.1 0 + 1)) (updF (fdm X.2.2.2.1) ((k + 1)) (((fdm X.2.2.2.1) ((k + 1)) + 1)))) hP
  have hD : va_D (aM am) (wNg ci am X kr q0 q1 q2 q3 q4 q5 iw kn y0 y1 y2 y3 y4 y5 y6 (updF (updF (fdm X.2.2.2.1) ((k + 1)) (((fdm X.2.2.2.1) ((k + 1)) + 1))) (0) ((fdm X.2.2.2.1 0 + 1)))) := wNg_D hI
  refine lv_iload_n hx hb dX4_finding_25 rfl (lv_at hl 1 rfl) ?_
  refine nv_cv (show w = fnd k from h_w) ?_
  exact mu_iret hx hb hr hlocks hS ((by rw [fdm_inc _ h_k] at hP; exact hP)) dX4_finding_26

set_option maxHeartbeats 4000000 in
set_option maxRecDepth 100000 in
/-- X4_become -/
theorem c_X4_become (l : Launch) (D : va_G) (ci : Nat → ClassId) (am : Nat → Nat) (X : AS) (kr : Nat → Int32) (q0 q1 q2 q3 q4 q5 : Int32) (iw : Bool) (kn : Nat → Option Nat) (y0 y1 y2 y3 y4 y5 y6 : Nat → Int32) (hI : injA am 16) (at0 : Nat) (v : Int32) (S1 : OS) (r0 : Int32) (h_a : at0 < 65) (h_r : pk X.1 at0 = r0) (h_S : upd (pk X.1) at0 v = pk S1) : Met l yX4_become wsX4_become ({ frames := 0, cells := 0, slots := 0, locals := 0 } : Room) (va_Pc [.ref (am 0), .int (nI at0), .int (v)] (ro_B D (tyL ci) (wN ci am X kr q0 q1 q2 q3 q4 q5 iw kn y0 y1 y2 y3 y4 y5 y6) (enT))) (mu_Q (aM am) (some (.int (r0))) (fun H => va_P D vwCl (wN ci am (toS X (S1)) kr q0 q1 q2 q3 q4 q5 iw kn y0 y1 y2 y3 y4 y5 y6) H)) 0 0 (aM am) := by
  refine mu_Met (cc := cX4_become) (maxL := 4) (ret := (some .int)) [(0, .ref (am 0)), (1, .int (nI at0)), (2, .int (v))] (wN_D hI) (by decide) rfl (Nat.le_of_ble_eq_true rfl) rfl ?_
  intro p e s m below meth c H locs hx hb hml hr hlocks hts hown hP hK hs0 hD hS ls hl
  have hown : s.vm.findClass RX4 = some m.cls := hown
  have hinX4 : ∀ w ∈ wsX40, w ∈ wsX4_become := by decide +kernel
  have hE := hE_T
  refine lv_aload_n hx hb dX4_become_0 rfl (lv_at hl 0 rfl) ?_
  refine va_get (D := D) (ci := 4) (v := .ref (am 1)) (C := RX4) (T := TX4) (N := 24) hx hb hts hinX4 hown hK hP 0 rfl rfl 0 (by decide) (hts (.fieldLink RX4 9 "OneShortModel" "now" "[I") (List.mem_of_getElem? (i := 1) rfl)) (fun _ h9 => h9) rfl dX4_become_1 ?_
  refine lv_iload_n hx hb dX4_become_4 rfl (lv_at hl 1 rfl) ?_
  refine nv_iald (v := pk X.1 (at0)) hx hb hK hP 1 0 rfl rfl (by omega) (by decide) rfl dX4_become_5 ?_
  refine lv_istore_n (lv' := [(3, .int (pk X.1 (at0))), (0, .ref (am 0)), (1, .int (nI at0)), (2, .int (v))]) hx hb dX4_become_6 rfl hl (by decide) rfl (fun ls hl => ?_)
  refine lv_aload_n hx hb dX4_become_7 rfl (lv_at hl 1 rfl) ?_
  refine va_get (D := D) (ci := 4) (v := .ref (am 1)) (C := RX4) (T := TX4) (N := 24) hx hb hts hinX4 hown hK hP 0 rfl rfl 0 (by decide) (hts (.fieldLink RX4 9 "OneShortModel" "now" "[I") (List.mem_of_getElem? (i := 1) rfl)) (fun _ h9 => h9) rfl dX4_become_8 ?_
  refine lv_iload_n hx hb dX4_become_11 rfl (lv_at hl 2 rfl) ?_
  refine lv_iload_n hx hb dX4_become_12 rfl (lv_at hl 3 rfl) ?_
  refine nv_iast hx hb hK hP hD hS 1 0 rfl rfl (by omega) (by decide) dX4_become_13 (fun H locs hP hD hS => ?_)
  have hP : va_P D vwCl (wN ci am (toS X S1) kr q0 q1 q2 q3 q4 q5 iw kn y0 y1 y2 y3 y4 y5 y6) H := va_P.re (wN_now ci am X kr q0 q1 q2 q3 q4 q5 iw kn y0 y1 y2 y3 y4 y5 y6 (at0) (v) h_S) hP
  have hD : va_D (aM am) (wN ci am (toS X S1) kr q0 q1 q2 q3 q4 q5 iw kn y0 y1 y2 y3 y4 y5 y6) := wN_D hI
  refine lv_iload_n hx hb dX4_become_14 rfl (lv_at hl 0 rfl) ?_
  refine nv_cv (show pk X.1 (at0) = r0 from h_r) ?_
  exact mu_iret hx hb hr hlocks hS (hP) dX4_become_15

set_option maxHeartbeats 4000000 in
set_option maxRecDepth 100000 in
/-- X4_copyRow -/
theorem c_X4_copyRow (l : Launch) (D : va_G) (ci : Nat → ClassId) (u0 u1 : Nat) (f g : Nat → Int32) (h_ne : u0 ≠ u1) : Met l yX4_copyRow wsX4_copyRow ({ frames := 0, cells := 0, slots := 0, locals := 0 } : Room) (va_Pc [.ref (u0), .ref (u1)] (ro_B D (tyL ci) ([(u0, .inl (ci 0, 65, .inl f)), (u1, .inl (ci 0, 65, .inl g))] : va_W) (enT))) (mu_Q (fun q => q = u0 ∨ q = u1) (none) (fun H => va_P D vwCl [(u0, .inl (ci 0, 65, .inl f)), (u1, .inl (ci 0, 65, .inl f))] H)) 0 0 (fun q => q = u0 ∨ q = u1) := by
  refine mu_Met (cc := cX4_copyRow) (maxL := 3) (ret := none) [(0, .ref (u0)), (1, .ref (u1))] (cw_D h_ne) (by decide) rfl (Nat.le_of_ble_eq_true rfl) rfl ?_
  intro p e s m below meth c H locs hx hb hml hr hlocks hts hown hP hK hs0 hD hS ls hl
  have hown : s.vm.findClass RX4 = some m.cls := hown
  have hE := hE_T
  refine lv_iconst (v := nI (0)) hx hb dX4_copyRow_0 (by decide) ?_
  refine lv_istore_n (lv' := [(2, .int (nI 0)), (0, .ref (u0)), (1, .ref (u1))]) hx hb dX4_copyRow_1 rfl hl (by decide) rfl (fun ls hl => ?_)
  have L2 : ∀ (k2 : Nat) (i : Nat) (g : Nat → Int32), 65 - i < k2 → (i ≤ 65) → (∀ q, q < i → g q = f q) → ∀ (x2 : Int32), x2 = nI (i) → ∀ (H : Heap) (locs : List Loc), va_P D vwCl ([(u0, .inl (ci 0, 65, .inl f)), (u1, .inl (ci 0, 65, .inl g))] : va_W) H → va_S (fun q => q = u0 ∨ q = u1) s.heap H locs → ∀ ls : Array Slot, lv_has ls 3 [(2, .int (x2)), (0, .ref (u0)), (1, .ref (u1))] → W p l e (headSpec wsX4_copyRow ({ frames := 0, cells := 0, slots := 0, locals := 0 } : Room)).room s m ([.ref (u0), .ref (u1)] : List Value).toArray below meth c H locs 0 0 (MQ below (mu_Q (fun q => q = u0 ∨ q = u1) (none) (fun H => va_P D vwCl [(u0, .inl (ci 0, 65, .inl f)), (u1, .inl (ci 0, 65, .inl f))] H)) ([.ref (u0), .ref (u1)] : List Value).toArray s 0 0 (fun q => q = u0 ∨ q = u1)) (F0 m 2 ls []) := by
    intro k2
    induction k2 with
    | zero => intro i g h0; exact absurd h0 (Nat.not_lt_zero _)
    | succ k2 ih2 =>
      intro i g hk2 h_i h_r x2 e2  H locs hP hS ls hl
      subst e2
      have hD : va_D (fun q => q = u0 ∨ q = u1) ([(u0, .inl (ci 0, 65, .inl f)), (u1, .inl (ci 0, 65, .inl g))] : va_W) := cw_D h_ne
      refine lv_iload_n hx hb dX4_copyRow_2 rfl (lv_at hl 0 rfl) ?_
      refine lv_bipush (v := nI (65)) hx hb dX4_copyRow_3 (by decide) ?_
      refine nv_icmp_ge (tgt := 20) hx hb (by omega) (by omega) dX4_copyRow_5 (by decide) (fun c1 => ?_) (fun c1 => ?_)
      · exact mu_vret hx hb hr hlocks hS ((cw_end (fun q hq => h_r q (by omega)) hP)) dX4_copyRow_20
      · refine lv_aload_n hx hb dX4_copyRow_8 rfl (lv_at hl 2 rfl) ?_
        refine lv_iload_n hx hb dX4_copyRow_9 rfl (lv_at hl 0 rfl) ?_
        refine lv_aload_n hx hb dX4_copyRow_10 rfl (lv_at hl 1 rfl) ?_
        refine lv_iload_n hx hb dX4_copyRow_11 rfl (lv_at hl 0 rfl) ?_
        refine nv_iald (v := f (i)) hx hb hK hP 0 0 rfl rfl (by omega) (by decide) rfl dX4_copyRow_12 ?_
        refine nv_iast hx hb hK hP hD hS 1 0 rfl rfl (by omega) (by decide) dX4_copyRow_13 (fun H locs hP hD hS => ?_)
        have hP := va_P.re (show _ = ([(u0, .inl (ci 0, 65, .inl f)), (u1, .inl (ci 0, 65, .inl (upd g (i) (f (i)))))] : va_W) from rfl) hP
        have hD := va_D.re (show _ = ([(u0, .inl (ci 0, 65, .inl f)), (u1, .inl (ci 0, 65, .inl (upd g (i) (f (i)))))] : va_W) from rfl) hD
        refine nv_iinc1 (lv' := [(2, .int (nI (i + 1))), (0, .ref (u0)), (1, .ref (u1))]) hx hb dX4_copyRow_14 hl (k := 0) rfl (by decide) rfl (fun ls hl => ?_)
        refine lv_goto (tgt := 2) hx hb dX4_copyRow_17 (by decide) ?_
        exact ih2 (i + 1) (upd g (i) (f (i))) (by omega) (by omega) (upd_all h_r rfl) (nI (i + 1)) rfl _ _ hP hS ls (lv_sub hl [0, 1, 2] rfl)
  exact L2 _ (0) (g) (Nat.lt_succ_self _) (by omega) (fun _ h => absurd h (Nat.not_lt_zero _)) (nI (0)) rfl _ _ hP hS ls (lv_sub hl [0, 1, 2] rfl)

set_option maxHeartbeats 4000000 in
set_option maxRecDepth 100000 in
/-- X4_putBack -/
theorem c_X4_putBack (l : Launch) (D : va_G) (ci : Nat → ClassId) (am : Nat → Nat) (X : AS) (kr : Nat → Int32) (q0 q1 q2 q3 q4 q5 : Int32) (iw : Bool) (kn : Nat → Option Nat) (y0 y1 y2 y3 y4 y5 y6 : Nat → Int32) (hI : injA am 16) (v : Int32) (S0 : OS) (h_as : ∀ j, j < 65 → y0 j = pk S0 j) : Met l yX4_putBack wsX4_putBack ({ frames := 1, cells := 0, slots := 0, locals := 22 } : Room) (va_Pc [.ref (am 0), .int (v)] (ro_B D (tyL ci) (wN ci am X kr q0 q1 q2 q3 q4 q5 iw kn y0 y1 y2 y3 y4 y5 y6) (enT))) (mu_Q (aM am) (some (.int (v))) (fun H => va_P D vwCl (wN ci am (toS X (S0)) kr q0 q1 q2 q3 q4 q5 iw kn y0 y1 y2 y3 y4 y5 y6) H)) 0 0 (aM am) := by
  refine mu_Met (cc := cX4_putBack) (maxL := 2) (ret := (some .int)) [(0, .ref (am 0)), (1, .int (v))] (wN_D hI) (by decide) rfl (Nat.le_of_ble_eq_true rfl) rfl ?_
  intro p e s m below meth c H locs hx hb hml hr hlocks hts hown hP hK hs0 hD hS ls hl
  have hown : s.vm.findClass RX4 = some m.cls := hown
  have hinX4 : ∀ w ∈ wsX40, w ∈ wsX4_putBack := by decide +kernel
  have hE := hE_T
  refine lv_aload_n hx hb dX4_putBack_0 rfl (lv_at hl 0 rfl) ?_
  refine va_get (D := D) (ci := 4) (v := .ref (am 3)) (C := RX4) (T := TX4) (N := 24) hx hb hts hinX4 hown hK hP 0 rfl rfl 2 (by decide) (hts (.fieldLink RX4 16 "OneShortModel" "aside" "[I") (List.mem_of_getElem? (i := 1) rfl)) (fun _ h9 => h9) rfl dX4_putBack_1 ?_
  refine lv_aload_n hx hb dX4_putBack_4 rfl (lv_at hl 0 rfl) ?_
  refine va_get (D := D) (ci := 4) (v := .ref (am 1)) (C := RX4) (T := TX4) (N := 24) hx hb hts hinX4 hown hK hP 0 rfl rfl 0 (by decide) (hts (.fieldLink RX4 9 "OneShortModel" "now" "[I") (List.mem_of_getElem? (i := 2) rfl)) (fun _ h9 => h9) rfl dX4_putBack_5 ?_
  refine mu_S (n := 2) (As := [.ref (am 3), .ref (am 1)]) (rest := []) ⟨hx, hb, hml, hown, hts⟩ (c_X4_copyRow l D ci (am 3) (am 1) (y0) (pk X.1) (am_ne hI (by decide) (by decide) (by decide))) gX4_putBack_X4_copyRow rfl ⟨rfl, rfl⟩ (by decide +kernel) rfl ⟨Nat.le_of_ble_eq_true rfl, Nat.le_of_ble_eq_true rfl⟩ hE trivial hK (va_P2 (k := 3) (k2 := 1) hP rfl rfl) hl.1 rfl (Nat.le_of_ble_eq_true rfl) dX4_putBack_8 ⟨Nat.zero_le _, Nat.zero_le _⟩ hS (fun q h => h.elim (aM_m (k := 3) (by decide) q) (aM_m (k := 1) (by decide) q)) (fun H1 locs hz hfr hB hS => ?_)
  have hP : va_P D vwCl (wN ci am (toS X S0) kr q0 q1 q2 q3 q4 q5 iw kn y0 y1 y2 y3 y4 y5 y6) H1 := wN_c31 (S0 := S0) h_as hI hP hfr hB
  generalize H1 = H at hP hS ⊢
  have hD : va_D (aM am) (wN ci am (toS X S0) kr q0 q1 q2 q3 q4 q5 iw kn y0 y1 y2 y3 y4 y5 y6) := wN_D hI
  refine lv_iload_n hx hb dX4_putBack_11 rfl (lv_at hl 1 rfl) ?_
  exact mu_iret hx hb hr hlocks hS (hP) dX4_putBack_12

set_option maxHeartbeats 4000000 in
set_option maxRecDepth 100000 in
/-- X4_orNone -/
theorem c_X4_orNone (l : Launch) (D : va_G) (ci : Nat → ClassId) (am : Nat → Nat) (X : AS) (kr : Nat → Int32) (q0 q1 q2 q3 q4 q5 : Int32) (iw : Bool) (kn : Nat → Option Nat) (y0 y1 y2 y3 y4 y5 y6 : Nat → Int32) (hI : injA am 16) (m0 : Nat) (h_m : m0 < 1000000) : Met l yX4_orNone wsX4_orNone ({ frames := 1, cells := 0, slots := 0, locals := 21 } : Room) (va_Pc [.ref (am 0), .int (nI (m0) - nI (1))] (ro_B D (tyL ci) (wN ci am X kr q0 q1 q2 q3 q4 q5 iw kn y0 y1 y2 y3 y4 y5 y6) (enT))) (mu_Q (aM am) (some (.int ((bk X (decide (0 < m0)) 3 (nI (m0 - 1), X)).1))) (fun H => va_P D vwCl (wN ci am ((bk X (decide (0 < m0)) 3 (nI (m0 - 1), X)).2) kr q0 q1 q2 q3 q4 q5 iw kn y0 y1 y2 y3 y4 y5 y6) H)) 0 0 (aM am) := by
  refine mu_Met (cc := cX4_orNone) (maxL := 2) (ret := (some .int)) [(0, .ref (am 0)), (1, .int (nI (m0) - nI (1)))] (wN_D hI) (by decide) rfl (Nat.le_of_ble_eq_true rfl) rfl ?_
  intro p e s m below meth c H locs hx hb hml hr hlocks hts hown hP hK hs0 hD hS ls hl
  have hown : s.vm.findClass RX4 = some m.cls := hown
  have hE := hE_T
  refine lv_iload_n hx hb dX4_orNone_0 rfl (lv_at hl 1 rfl) ?_
  refine nv_ifge_D (tgt := 13) hx hb (by omega) dX4_orNone_1 (by decide) (fun c1 => ?_) (fun c1 => ?_)
  · refine lv_iload_n hx hb dX4_orNone_13 rfl (lv_at hl 1 rfl) ?_
    have hp : bk X (decide (0 < m0)) 3 (nI (m0 - 1), X) = (nI (m0) - nI (1), X) := by first | (simp [bk, fl_eq, c1]; done) | (rw [pk_sub c1]; simp [bk, c1])
    refine nv_cv (show nI (m0) - nI (1) = (bk X (decide (0 < m0)) 3 (nI (m0 - 1), X)).1 from by rw [hp]) ?_
    exact mu_iret hx hb hr hlocks hS ((by rw [hp]; exact hP)) dX4_orNone_14
  · refine lv_aload_n hx hb dX4_orNone_4 rfl (lv_at hl 0 rfl) ?_
    refine lv_ldc (v := -1000004) hx hb hown (hts (.constant RX4 77 (-1000004)) (List.mem_of_getElem? (i := 1) rfl)) dX4_orNone_5 ?_
    refine mu_V (n := 1) (As := [.int (-1000004)]) (rest := []) ⟨hx, hb, hml, hown, hts⟩ (c_X4_finding l D ci am X kr q0 q1 q2 q3 q4 q5 iw kn y0 y1 y2 y3 y4 y5 y6 hI (-1000004) (3) (by omega) (by decide)) gX4_orNone_X4_finding rfl ⟨rfl, rfl⟩ (by decide +kernel) rfl ⟨Nat.le_of_ble_eq_true rfl, Nat.le_of_ble_eq_true rfl⟩ hE trivial hK hP (ci := 4) (q0 := 0) rfl rfl hl.1 rfl (Nat.le_of_ble_eq_true rfl) dX4_orNone_7 ⟨Nat.zero_le _, Nat.zero_le _⟩ hS (fun _ h => h) (fun H1 locs hz hfr hB hS => ?_)
    have hP := hB
    have hP : va_P D vwCl (wN ci am (toF X (inc X.2.2.2.1 3)) kr q0 q1 q2 q3 q4 q5 iw kn y0 y1 y2 y3 y4 y5 y6) H1 := hP
    generalize H1 = H at hP hS ⊢
    have hD : va_D (aM am) (wN ci am (toF X (inc X.2.2.2.1 3)) kr q0 q1 q2 q3 q4 q5 iw kn y0 y1 y2 y3 y4 y5 y6) := wN_D hI
    refine lv_goto (tgt := 14) hx hb dX4_orNone_10 (by decide) ?_
    have hp : bk X (decide (0 < m0)) 3 (nI (m0 - 1), X) = (fnd 3, toF X (inc X.2.2.2.1 3)) := by first | (simp [bk, fl_eq, c1]; done) | (rw [pk_sub c1]; simp [bk, c1])
    refine nv_cv (show fnd 3 = (bk X (decide (0 < m0)) 3 (nI (m0 - 1), X)).1 from by rw [hp]) ?_
    exact mu_iret hx hb hr hlocks hS ((by rw [hp]; exact hP)) dX4_orNone_14

set_option maxHeartbeats 4000000 in
set_option maxRecDepth 100000 in
/-- X4_bits -/
theorem c_X4_bits (l : Launch) (D : va_G) (ci : Nat → ClassId) (wc : va_W) (x : Nat) (h_x : x < 4096) : Met l yX4_bits wsX4_bits ({ frames := 0, cells := 0, slots := 0, locals := 0 } : Room) (va_Pc [.int (nI x)] (ro_B D (tyL ci) wc (enT))) (ro_Q (some (.int (nI (pop x))))) 0 0 (fun _ => False) := by
  refine ro_Met (cc := cX4_bits) (maxL := 3) (ret := (some .int)) [(0, .int (nI x))] (by decide) rfl (Nat.le_of_ble_eq_true rfl) rfl ?_
  intro p e s m below meth c hx hb hml hr hlocks hts hown hP hK hs ls hl
  have hown : s.vm.findClass RX4 = some m.cls := hown
  have hE := hE_T
  refine lv_iconst (v := nI (0)) hx hb dX4_bits_0 (by decide) ?_
  refine lv_istore_n (lv' := [(1, .int (nI 0)), (0, .int (nI x))]) hx hb dX4_bits_1 rfl hl (by decide) rfl (fun ls hl => ?_)
  refine lv_iload_n hx hb dX4_bits_2 rfl (lv_at hl 1 rfl) ?_
  refine lv_istore_n (lv' := [(2, .int (nI x)), (1, .int (nI 0)), (0, .int (nI x))]) hx hb dX4_bits_3 rfl hl (by decide) rfl (fun ls hl => ?_)
  have L4 : ∀ (k4 : Nat) (n : Nat) (lf : Nat), lf < k4 → (lf < 4096) → (n + pop lf = pop x) → ∀ (x1 x2 : Int32), x1 = nI (n) → x2 = nI (lf) → ∀ ls : Array Slot, lv_has ls 3 [(1, .int (x1)), (2, .int (x2)), (0, .int (nI x))] → W p l e (headSpec wsX4_bits ({ frames := 0, cells := 0, slots := 0, locals := 0 } : Room)).room s m ([.int (nI x)] : List Value).toArray below meth c s.heap [] 0 0 (MQ below (ro_Q (some (.int (nI (pop x))))) ([.int (nI x)] : List Value).toArray s 0 0 (fun _ => False)) (F0 m 4 ls []) := by
    intro k4
    induction k4 with
    | zero => intro n lf h0; exact absurd h0 (Nat.not_lt_zero _)
    | succ k4 ih4 =>
      intro n lf hk4 h_lf h_q x1 x2 e1 e2 ls hl
      subst e1
      subst e2
      refine lv_iload_n hx hb dX4_bits_4 rfl (lv_at hl 1 rfl) ?_
      refine nv_ifeq (tgt := 20) hx hb (by omega) dX4_bits_5 (by decide) (fun c1 => ?_) (fun c1 => ?_)
      · refine lv_iload_n hx hb dX4_bits_20 rfl (lv_at hl 0 rfl) ?_
        refine nv_cv (show nI (n) = nI (pop x) from nv_e (by subst c1; exact h_q)) ?_
        exact ro_iret hx hb hr hlocks dX4_bits_21
      · refine nv_iinc1 (lv' := [(1, .int (nI (n + 1))), (2, .int (nI lf)), (0, .int (nI x))]) hx hb dX4_bits_8 hl (k := 0) rfl (by decide) rfl (fun ls hl => ?_)
        refine lv_iload_n hx hb dX4_bits_11 rfl (lv_at hl 1 rfl) ?_
        refine lv_iload_n hx hb dX4_bits_12 rfl (lv_at hl 1 rfl) ?_
        refine lv_iconst (v := nI (1)) hx hb dX4_bits_13 (by decide) ?_
        refine nv_isub hx hb (by omega) dX4_bits_14 ?_
        refine nv_iand hx hb dX4_bits_15 ?_
        have f2 : (lf &&& (lf - 1)) ≤ (lf - 1) := Nat.and_le_right
        have f3 : (lf &&& (lf - 1)) ≤ lf := Nat.and_le_left
        refine lv_istore_n (lv' := [(2, .int (nI ((lf &&& (lf - 1))))), (1, .int (nI (n + 1))), (0, .int (nI x))]) hx hb dX4_bits_16 rfl hl (by decide) rfl (fun ls hl => ?_)
        refine lv_goto (tgt := 4) hx hb dX4_bits_17 (by decide) ?_
        exact ih4 (n + 1) ((lf &&& (lf - 1))) (by omega) (by omega) (by have := pop_dec c1 h_lf; omega) (nI (n + 1)) (nI ((lf &&& (lf - 1)))) rfl rfl ls (lv_sub hl [1, 0, 2] rfl)
  exact L4 _ (0) (x) (Nat.lt_succ_self _) h_x (Nat.zero_add _) (nI (0)) (nI (x)) rfl rfl ls (lv_sub hl [1, 0, 2] rfl)

set_option maxHeartbeats 4000000 in
set_option maxRecDepth 100000 in
/-- X4_isPlayer -/
theorem c_X4_isPlayer (l : Launch) (D : va_G) (ci : Nat → ClassId) (am : Nat → Nat) (X : AS) (kr : Nat → Int32) (q0 q1 q2 q3 q4 q5 : Int32) (iw : Bool) (kn : Nat → Option Nat) (y0 y1 y2 y3 y4 y5 y6 : Nat → Int32) (x : Int32) (hWF : WF X.1) : Met l yX4_isPlayer wsX4_isPlayer ({ frames := 1, cells := 0, slots := 0, locals := 22 } : Room) (va_Pc [.ref (am 0), .int (x)] (ro_B D (tyL ci) (wN ci am X kr q0 q1 q2 q3 q4 q5 iw kn y0 y1 y2 y3 y4 y5 y6) (enT))) (ro_Q (some (.int (bI (inN x (X.1 7 0)))))) 0 0 (fun _ => False) := by
  refine ro_Met (cc := cX4_isPlayer) (maxL := 2) (ret := (some .boolean)) [(0, .ref (am 0)), (1, .int (x))] (by decide) rfl (Nat.le_of_ble_eq_true rfl) rfl ?_
  intro p e s m below meth c hx hb hml hr hlocks hts hown hP hK hs ls hl
  have hown : s.vm.findClass RX4 = some m.cls := hown
  have hinX4 : ∀ w ∈ wsX40, w ∈ wsX4_isPlayer := by decide +kernel
  have hE := hE_T
  have f_n := hWF.n
  refine lv_iload_n hx hb dX4_isPlayer_0 rfl (lv_at hl 1 rfl) ?_
  refine lv_iconst (v := nI (0)) hx hb dX4_isPlayer_1 (by decide) ?_
  refine lv_aload_n hx hb dX4_isPlayer_2 rfl (lv_at hl 0 rfl) ?_
  refine va_get (D := D) (ci := 4) (v := .ref (am 1)) (C := RX4) (T := TX4) (N := 24) hx hb hts hinX4 hown hK hP 0 rfl rfl 0 (by decide) (hts (.fieldLink RX4 9 "OneShortModel" "now" "[I") (List.mem_of_getElem? (i := 1) rfl)) (fun _ h9 => h9) rfl dX4_isPlayer_3 ?_
  refine lv_iconst (v := nI (1)) hx hb dX4_isPlayer_6 (by decide) ?_
  refine nv_iald (v := nI (X.1 7 0)) hx hb hK hP 1 0 rfl rfl (by omega) (by decide) (pk_n X.1) dX4_isPlayer_7 ?_
  refine lv_iconst (v := nI (1)) hx hb dX4_isPlayer_8 (by decide) ?_
  refine lv_isub hx hb dX4_isPlayer_9 ?_
  refine ro_S (n := 3) (As := [.int (x), .int (nI 0), .int (nI (X.1 7 0) - nI (1))]) (rest := []) ⟨hx, hb, hml, hown, hts⟩ (c_X4_within l D ci (wN ci am X kr q0 q1 q2 q3 q4 q5 iw kn y0 y1 y2 y3 y4 y5 y6) (x) (nI (0)) (nI (X.1 7 0) - nI (1)) ) gX4_isPlayer_X4_within rfl ⟨rfl, rfl⟩ (by decide +kernel) rfl ⟨Nat.le_of_ble_eq_true rfl, Nat.le_of_ble_eq_true rfl⟩ hE hs hK hP hl.1 rfl (Nat.le_of_ble_eq_true rfl) dX4_isPlayer_10 ⟨Nat.zero_le _, Nat.zero_le _⟩ ?_
  refine nv_cv (congrArg bI (wth_n x (by omega))) ?_
  exact ro_zret hx hb hr hlocks dX4_isPlayer_13

set_option maxHeartbeats 4000000 in
set_option maxRecDepth 100000 in
/-- X4_everybody -/
theorem c_X4_everybody (l : Launch) (D : va_G) (ci : Nat → ClassId) (am : Nat → Nat) (X : AS) (kr : Nat → Int32) (q0 q1 q2 q3 q4 q5 : Int32) (iw : Bool) (kn : Nat → Option Nat) (y0 y1 y2 y3 y4 y5 y6 : Nat → Int32)  (hWF : WF X.1) : Met l yX4_everybody wsX4_everybody ({ frames := 0, cells := 0, slots := 0, locals := 0 } : Room) (va_Pc [.ref (am 0)] (ro_B D (tyL ci) (wN ci am X kr q0 q1 q2 q3 q4 q5 iw kn y0 y1 y2 y3 y4 y5 y6) (enT))) (ro_Q (some (.int (nI ((1 * 2 ^ X.1 7 0 - 1)))))) 0 0 (fun _ => False) := by
  refine ro_Met (cc := cX4_everybody) (maxL := 1) (ret := (some .int)) [(0, .ref (am 0))] (by decide) rfl (Nat.le_of_ble_eq_true rfl) rfl ?_
  intro p e s m below meth c hx hb hml hr hlocks hts hown hP hK hs ls hl
  have hown : s.vm.findClass RX4 = some m.cls := hown
  have hinX4 : ∀ w ∈ wsX40, w ∈ wsX4_everybody := by decide +kernel
  have hE := hE_T
  have f_n := hWF.n
  have f_ev := two_le hWF.n
  have f_ev0 := two_pos (X.1 7 0)
  refine lv_iconst (v := nI (1)) hx hb dX4_everybody_0 (by decide) ?_
  refine lv_aload_n hx hb dX4_everybody_1 rfl (lv_at hl 0 rfl) ?_
  refine va_get (D := D) (ci := 4) (v := .ref (am 1)) (C := RX4) (T := TX4) (N := 24) hx hb hts hinX4 hown hK hP 0 rfl rfl 0 (by decide) (hts (.fieldLink RX4 9 "OneShortModel" "now" "[I") (List.mem_of_getElem? (i := 1) rfl)) (fun _ h9 => h9) rfl dX4_everybody_2 ?_
  refine lv_iconst (v := nI (1)) hx hb dX4_everybody_5 (by decide) ?_
  refine nv_iald (v := nI (X.1 7 0)) hx hb hK hP 1 0 rfl rfl (by omega) (by decide) (pk_n X.1) dX4_everybody_6 ?_
  refine nv_ishl hx hb (by omega) dX4_everybody_7 ?_
  refine lv_iconst (v := nI (1)) hx hb dX4_everybody_8 (by decide) ?_
  refine nv_isub hx hb (by omega) dX4_everybody_9 ?_
  refine nv_cv (show nI (((1 * 2 ^ (X.1 7 0)) - 1)) = nI ((1 * 2 ^ X.1 7 0 - 1)) from nv_e (rfl)) ?_
  exact ro_iret hx hb hr hlocks dX4_everybody_10

set_option maxHeartbeats 4000000 in
set_option maxRecDepth 100000 in
/-- X4_isAnotherFirst -/
theorem c_X4_isAnotherFirst (l : Launch) (D : va_G) (ci : Nat → ClassId) (am : Nat → Nat) (X : AS) (kr : Nat → Int32) (q0 q1 q2 q3 q4 q5 : Int32) (iw : Bool) (kn : Nat → Option Nat) (y0 y1 y2 y3 y4 y5 y6 : Nat → Int32) (u : Nat) (hWF : WF X.1) (h_u : u < 8) : Met l yX4_isAnotherFirst wsX4_isAnotherFirst ({ frames := 2, cells := 0, slots := 0, locals := 43 } : Room) (va_Pc [.ref (am 0), .int (nI u)] (ro_B D (tyL ci) (wN ci am X kr q0 q1 q2 q3 q4 q5 iw kn y0 y1 y2 y3 y4 y5 y6) (enT))) (ro_Q (some (.int (bI (othr X.1 u))))) 0 0 (fun _ => False) := by
  refine ro_Met (cc := cX4_isAnotherFirst) (maxL := 4) (ret := (some .boolean)) [(0, .ref (am 0)), (1, .int (nI u))] (by decide) rfl (Nat.le_of_ble_eq_true rfl) rfl ?_
  intro p e s m below meth c hx hb hml hr hlocks hts hown hP hK hs ls hl
  have hown : s.vm.findClass RX4 = some m.cls := hown
  have hinX4 : ∀ w ∈ wsX40, w ∈ wsX4_isAnotherFirst := by decide +kernel
  have hE := hE_T
  have f_n := hWF.n
  refine lv_iconst (v := nI (0)) hx hb dX4_isAnotherFirst_0 (by decide) ?_
  refine lv_istore_n (lv' := [(2, .int (nI 0)), (0, .ref (am 0)), (1, .int (nI u))]) hx hb dX4_isAnotherFirst_1 rfl hl (by decide) rfl (fun ls hl => ?_)
  refine lv_iconst (v := nI (0)) hx hb dX4_isAnotherFirst_2 (by decide) ?_
  refine lv_istore_n (lv' := [(3, .int (nI 0)), (2, .int (nI 0)), (0, .ref (am 0)), (1, .int (nI u))]) hx hb dX4_isAnotherFirst_3 rfl hl (by decide) rfl (fun ls hl => ?_)
  have L4 : ∀ (k4 : Nat) (i : Nat), X.1 7 0 - i < k4 → (i ≤ X.1 7 0) → ∀ (x2 x3 : Int32), x2 = bI (anyTo (fun o => o != u && X.1 3 o == 0) (i)) → x3 = nI (i) → ∀ ls : Array Slot, lv_has ls 4 [(2, .int (x2)), (3, .int (x3)), (0, .ref (am 0)), (1, .int (nI u))] → W p l e (headSpec wsX4_isAnotherFirst ({ frames := 2, cells := 0, slots := 0, locals := 43 } : Room)).room s m ([.ref (am 0), .int (nI u)] : List Value).toArray below meth c s.heap [] 0 0 (MQ below (ro_Q (some (.int (bI (othr X.1 u))))) ([.ref (am 0), .int (nI u)] : List Value).toArray s 0 0 (fun _ => False)) (F0 m 4 ls []) := by
    intro k4
    induction k4 with
    | zero => intro i h0; exact absurd h0 (Nat.not_lt_zero _)
    | succ k4 ih4 =>
      intro i hk4 h_i x2 x3 e2 e3 ls hl
      subst e2
      subst e3
      refine lv_iload_n hx hb dX4_isAnotherFirst_4 rfl (lv_at hl 1 rfl) ?_
      refine lv_aload_n hx hb dX4_isAnotherFirst_5 rfl (lv_at hl 2 rfl) ?_
      refine va_get (D := D) (ci := 4) (v := .ref (am 1)) (C := RX4) (T := TX4) (N := 24) hx hb hts hinX4 hown hK hP 0 rfl rfl 0 (by decide) (hts (.fieldLink RX4 9 "OneShortModel" "now" "[I") (List.mem_of_getElem? (i := 1) rfl)) (fun _ h9 => h9) rfl dX4_isAnotherFirst_6 ?_
      refine lv_iconst (v := nI (1)) hx hb dX4_isAnotherFirst_9 (by decide) ?_
      refine nv_iald (v := nI (X.1 7 0)) hx hb hK hP 1 0 rfl rfl (by omega) (by decide) (pk_n X.1) dX4_isAnotherFirst_10 ?_
      refine nv_icmp_ge (tgt := 44) hx hb (by omega) (by omega) dX4_isAnotherFirst_11 (by decide) (fun c1 => ?_) (fun c1 => ?_)
      · refine lv_iload_n hx hb dX4_isAnotherFirst_44 rfl (lv_at hl 0 rfl) ?_
        refine nv_cv (show bI (anyTo (fun o => o != u && X.1 3 o == 0) (i)) = bI (othr X.1 u) from congrArg bI (by rw [othr, show X.1 7 0 = i by omega])) ?_
        exact ro_zret hx hb hr hlocks dX4_isAnotherFirst_45
      · refine lv_iload_n hx hb dX4_isAnotherFirst_14 rfl (lv_at hl 0 rfl) ?_
        refine nv_ifne_b (tgt := 32) hx hb dX4_isAnotherFirst_15 (by decide) (fun c2 => ?_) (fun c2 => ?_)
        · refine lv_iconst (v := nI (1)) hx hb dX4_isAnotherFirst_32 (by decide) ?_
          refine lv_goto (tgt := 37) hx hb dX4_isAnotherFirst_33 (by decide) ?_
          refine lv_istore_n (lv' := [(2, .int (nI 1)), (3, .int (nI i)), (0, .ref (am 0)), (1, .int (nI u))]) hx hb dX4_isAnotherFirst_37 rfl hl (by decide) rfl (fun ls hl => ?_)
          refine nv_iinc1 (lv' := [(3, .int (nI (i + 1))), (2, .int (nI 1)), (0, .ref (am 0)), (1, .int (nI u))]) hx hb dX4_isAnotherFirst_38 hl (k := 1) rfl (by decide) rfl (fun ls hl => ?_)
          refine lv_goto (tgt := 4) hx hb dX4_isAnotherFirst_41 (by decide) ?_
          exact ih4 (i + 1) (by omega) (by omega) (nI (1)) (nI (i + 1)) (by first | exact nv_t (any_t1 c2) | exact nv_t (any_t2 (by simp [c1, c2])) | exact nv_f (any_f c2 (by simp [c1, c2]))) rfl ls (lv_sub hl [1, 0, 2, 3] rfl)
        · refine lv_iload_n hx hb dX4_isAnotherFirst_18 rfl (lv_at hl 1 rfl) ?_
          refine lv_iload_n hx hb dX4_isAnotherFirst_19 rfl (lv_at hl 3 rfl) ?_
          refine nv_icmp_eq (tgt := 36) hx hb (by omega) (by omega) dX4_isAnotherFirst_20 (by decide) (fun c3 => ?_) (fun c3 => ?_)
          · refine lv_iconst (v := nI (0)) hx hb dX4_isAnotherFirst_36 (by decide) ?_
            refine lv_istore_n (lv' := [(2, .int (nI 0)), (3, .int (nI i)), (0, .ref (am 0)), (1, .int (nI u))]) hx hb dX4_isAnotherFirst_37 rfl hl (by decide) rfl (fun ls hl => ?_)
            refine nv_iinc1 (lv' := [(3, .int (nI (i + 1))), (2, .int (nI 0)), (0, .ref (am 0)), (1, .int (nI u))]) hx hb dX4_isAnotherFirst_38 hl (k := 1) rfl (by decide) rfl (fun ls hl => ?_)
            refine lv_goto (tgt := 4) hx hb dX4_isAnotherFirst_41 (by decide) ?_
            exact ih4 (i + 1) (by omega) (by omega) (nI (0)) (nI (i + 1)) (by first | exact nv_t (any_t1 c2) | exact nv_t (any_t2 (by simp [c1, c2, c3])) | exact nv_f (any_f c2 (by simp [c1, c2, c3]))) rfl ls (lv_sub hl [1, 0, 2, 3] rfl)
          · refine lv_aload_n hx hb dX4_isAnotherFirst_23 rfl (lv_at hl 2 rfl) ?_
            refine lv_iload_n hx hb dX4_isAnotherFirst_24 rfl (lv_at hl 1 rfl) ?_
            refine lv_iconst (v := nI (2)) hx hb dX4_isAnotherFirst_25 (by decide) ?_
            refine ro_V (n := 2) (As := [.int (nI i), .int (nI 2)]) (rest := []) ⟨hx, hb, hml, hown, hts⟩ (c_X4_playerIs l D ci am X kr q0 q1 q2 q3 q4 q5 iw kn y0 y1 y2 y3 y4 y5 y6 (i) (2) hWF (by omega) (by omega)) gX4_isAnotherFirst_X4_playerIs rfl ⟨rfl, rfl⟩ (by decide +kernel) rfl ⟨Nat.le_of_ble_eq_true rfl, Nat.le_of_ble_eq_true rfl⟩ hE hs hK hP (ci := 4) (q0 := 0) rfl rfl hl.1 rfl (Nat.le_of_ble_eq_true rfl) dX4_isAnotherFirst_26 ⟨Nat.zero_le _, Nat.zero_le _⟩ ?_
            refine nv_cv (show nI (X.1 (2 + 1) i) = nI (X.1 3 i) from rfl) ?_
            have f4 := hWF.f3 i
            refine nv_ifne (tgt := 36) hx hb (by omega) dX4_isAnotherFirst_29 (by decide) (fun c5 => ?_) (fun c5 => ?_)
            · refine lv_iconst (v := nI (0)) hx hb dX4_isAnotherFirst_36 (by decide) ?_
              refine lv_istore_n (lv' := [(2, .int (nI 0)), (3, .int (nI i)), (0, .ref (am 0)), (1, .int (nI u))]) hx hb dX4_isAnotherFirst_37 rfl hl (by decide) rfl (fun ls hl => ?_)
              refine nv_iinc1 (lv' := [(3, .int (nI (i + 1))), (2, .int (nI 0)), (0, .ref (am 0)), (1, .int (nI u))]) hx hb dX4_isAnotherFirst_38 hl (k := 1) rfl (by decide) rfl (fun ls hl => ?_)
              refine lv_goto (tgt := 4) hx hb dX4_isAnotherFirst_41 (by decide) ?_
              exact ih4 (i + 1) (by omega) (by omega) (nI (0)) (nI (i + 1)) (by first | exact nv_t (any_t1 c2) | exact nv_t (any_t2 (by simp [c1, c2, c3, c5])) | exact nv_f (any_f c2 (by simp [c1, c2, c3, c5]))) rfl ls (lv_sub hl [1, 0, 2, 3] rfl)
            · refine lv_iconst (v := nI (1)) hx hb dX4_isAnotherFirst_32 (by decide) ?_
              refine lv_goto (tgt := 37) hx hb dX4_isAnotherFirst_33 (by decide) ?_
              refine lv_istore_n (lv' := [(2, .int (nI 1)), (3, .int (nI i)), (0, .ref (am 0)), (1, .int (nI u))]) hx hb dX4_isAnotherFirst_37 rfl hl (by decide) rfl (fun ls hl => ?_)
              refine nv_iinc1 (lv' := [(3, .int (nI (i + 1))), (2, .int (nI 1)), (0, .ref (am 0)), (1, .int (nI u))]) hx hb dX4_isAnotherFirst_38 hl (k := 1) rfl (by decide) rfl (fun ls hl => ?_)
              refine lv_goto (tgt := 4) hx hb dX4_isAnotherFirst_41 (by decide) ?_
              exact ih4 (i + 1) (by omega) (by omega) (nI (1)) (nI (i + 1)) (by first | exact nv_t (any_t1 c2) | exact nv_t (any_t2 (by simp [c1, c2, c3, c5])) | exact nv_f (any_f c2 (by simp [c1, c2, c3, c5]))) rfl ls (lv_sub hl [1, 0, 2, 3] rfl)
  exact L4 _ (0) (Nat.lt_succ_self _) (by omega) (nI (0)) (nI (0)) (nv_f rfl) rfl ls (lv_sub hl [1, 0, 2, 3] rfl)
