/-! walks laid by program -/
set_option maxHeartbeats 4000000 in
set_option maxRecDepth 100000 in
/-- X4_swapped -/
theorem c_X4_swapped (l : Launch) (D : va_G) (ci : Nat → ClassId) (am : Nat → Nat) (X : AS) (kr : Nat → Int32) (q0 q1 q2 q3 q4 q5 : Int32) (iw : Bool) (kn : Nat → Option Nat) (y0 y1 y2 y3 y4 y5 y6 : Nat → Int32) (hI : injA am 16) (u o : Nat) (hWF : WF X.1) (h_u : u < 8) (h_o : o < 8) (h_ne : u ≠ o) : Met l yX4_swapped wsX4_swapped ({ frames := 2, cells := 0, slots := 0, locals := 43 } : Room) (va_Pc [.ref (am 0), .int (nI u), .int (nI o)] (ro_B D (tyL ci) (wN ci am X kr q0 q1 q2 q3 q4 q5 iw kn y0 y1 y2 y3 y4 y5 y6) (enT))) (mu_Q (aM am) (some (.int (nI (if X.1 2 u = X.1 2 o then 0 else 1)))) (fun H => va_P D vwCl (wN ci am (toS X (swS X.1 u o)) kr q0 q1 q2 q3 q4 q5 iw kn y0 y1 y2 y3 y4 y5 y6) H)) 0 0 (aM am) := by
  refine mu_Met (cc := cX4_swapped) (maxL := 4) (ret := (some .int)) [(0, .ref (am 0)), (1, .int (nI u)), (2, .int (nI o))] (wN_D hI) (by decide) rfl (Nat.le_of_ble_eq_true rfl) rfl ?_
  intro p e s m below meth c H locs hx hb hml hr hlocks hts hown hP hK hs0 hD hS ls hl
  have hown : s.vm.findClass RX4 = some m.cls := hown
  have hE := hE_T
  have f_n := hWF.n
  have f_20 := hWF.f2 u
  have f_21 := hWF.f2 o
  refine lv_aload_n hx hb dX4_swapped_0 rfl (lv_at hl 0 rfl) ?_
  refine lv_iload_n hx hb dX4_swapped_1 rfl (lv_at hl 1 rfl) ?_
  refine lv_iconst (v := nI (1)) hx hb dX4_swapped_2 (by decide) ?_
  refine ro_S (n := 2) (As := [.int (nI u), .int (nI 1)]) (rest := [.ref (am 0)]) ⟨hx, hb, hml, hown, hts⟩ (c_X4_at l D ci (wN ci am X kr q0 q1 q2 q3 q4 q5 iw kn y0 y1 y2 y3 y4 y5 y6) (u) (1) ) gX4_swapped_X4_at rfl ⟨rfl, rfl⟩ (by decide +kernel) rfl ⟨Nat.le_of_ble_eq_true rfl, Nat.le_of_ble_eq_true rfl⟩ hE trivial hK hP hl.1 rfl (Nat.le_of_ble_eq_true rfl) dX4_swapped_3 ⟨Nat.zero_le _, Nat.zero_le _⟩ ?_
  refine lv_aload_n hx hb dX4_swapped_6 rfl (lv_at hl 0 rfl) ?_
  refine lv_iload_n hx hb dX4_swapped_7 rfl (lv_at hl 2 rfl) ?_
  refine lv_iconst (v := nI (1)) hx hb dX4_swapped_8 (by decide) ?_
  refine ro_V (n := 2) (As := [.int (nI o), .int (nI 1)]) (rest := [.int (nI (25 + 5 * u + 1)), .ref (am 0)]) ⟨hx, hb, hml, hown, hts⟩ (c_X4_playerIs l D ci am X kr q0 q1 q2 q3 q4 q5 iw kn y0 y1 y2 y3 y4 y5 y6 (o) (1) hWF (by omega) (by omega)) gX4_swapped_X4_playerIs rfl ⟨rfl, rfl⟩ (by decide +kernel) rfl ⟨Nat.le_of_ble_eq_true rfl, Nat.le_of_ble_eq_true rfl⟩ hE trivial hK hP (ci := 4) (q0 := 0) rfl rfl hl.1 rfl (Nat.le_of_ble_eq_true rfl) dX4_swapped_9 ⟨Nat.zero_le _, Nat.zero_le _⟩ ?_
  refine nv_cv (show nI (X.1 (1 + 1) o) = nI (X.1 2 o) from rfl) ?_
  have f1 := hWF.f2 o
  refine mu_V (n := 2) (As := [.int (nI (25 + 5 * u + 1)), .int (nI (X.1 2 o))]) (rest := []) ⟨hx, hb, hml, hown, hts⟩ (c_X4_become l D ci am X kr q0 q1 q2 q3 q4 q5 iw kn y0 y1 y2 y3 y4 y5 y6 hI (25 + 5 * u + 1) (nI (X.1 2 o)) (st X.1 2 u (X.1 2 o)) (nI (X.1 2 u)) (by omega) (pk_f X.1 u (by omega)) (pku_f X.1 u (by omega))) gX4_swapped_X4_become rfl ⟨rfl, rfl⟩ (by decide +kernel) rfl ⟨Nat.le_of_ble_eq_true rfl, Nat.le_of_ble_eq_true rfl⟩ hE trivial hK hP (ci := 4) (q0 := 0) rfl rfl hl.1 rfl (Nat.le_of_ble_eq_true rfl) dX4_swapped_12 ⟨Nat.zero_le _, Nat.zero_le _⟩ hS (fun _ h => h) (fun H1 locs hz hfr hB hS => ?_)
  have hP := hB
  have hP : va_P D vwCl (wN ci am (toS X (st X.1 2 u (X.1 2 o))) kr q0 q1 q2 q3 q4 q5 iw kn y0 y1 y2 y3 y4 y5 y6) H1 := hP
  generalize H1 = H at hP hS ⊢
  have hD : va_D (aM am) (wN ci am (toS X (st X.1 2 u (X.1 2 o))) kr q0 q1 q2 q3 q4 q5 iw kn y0 y1 y2 y3 y4 y5 y6) := wN_D hI
  refine lv_istore_n (lv' := [(3, .int (nI (X.1 2 u))), (0, .ref (am 0)), (1, .int (nI u)), (2, .int (nI o))]) hx hb dX4_swapped_15 rfl hl (by decide) rfl (fun ls hl => ?_)
  refine lv_aload_n hx hb dX4_swapped_16 rfl (lv_at hl 1 rfl) ?_
  refine lv_iload_n hx hb dX4_swapped_17 rfl (lv_at hl 3 rfl) ?_
  refine lv_iconst (v := nI (1)) hx hb dX4_swapped_18 (by decide) ?_
  refine ro_S (n := 2) (As := [.int (nI o), .int (nI 1)]) (rest := [.ref (am 0)]) ⟨hx, hb, hml, hown, hts⟩ (c_X4_at l D ci (wN ci am (toS X (st X.1 2 u (X.1 2 o))) kr q0 q1 q2 q3 q4 q5 iw kn y0 y1 y2 y3 y4 y5 y6) (o) (1) ) gX4_swapped_X4_at rfl ⟨rfl, rfl⟩ (by decide +kernel) rfl ⟨Nat.le_of_ble_eq_true rfl, Nat.le_of_ble_eq_true rfl⟩ hE trivial hK hP hl.1 rfl (Nat.le_of_ble_eq_true rfl) dX4_swapped_19 ⟨Nat.zero_le _, Nat.zero_le _⟩ ?_
  refine lv_iload_n hx hb dX4_swapped_22 rfl (lv_at hl 0 rfl) ?_
  refine mu_V (n := 2) (As := [.int (nI (25 + 5 * o + 1)), .int (nI (X.1 2 u))]) (rest := []) ⟨hx, hb, hml, hown, hts⟩ (c_X4_become l D ci am (toS X (st X.1 2 u (X.1 2 o))) kr q0 q1 q2 q3 q4 q5 iw kn y0 y1 y2 y3 y4 y5 y6 hI (25 + 5 * o + 1) (nI (X.1 2 u)) (st (st X.1 2 u (X.1 2 o)) 2 o (X.1 2 u)) (nI ((st X.1 2 u (X.1 2 o)) 2 o)) (by omega) (pk_f (st X.1 2 u (X.1 2 o)) o (by omega)) (pku_f (st X.1 2 u (X.1 2 o)) o (by omega))) gX4_swapped_X4_become rfl ⟨rfl, rfl⟩ (by decide +kernel) rfl ⟨Nat.le_of_ble_eq_true rfl, Nat.le_of_ble_eq_true rfl⟩ hE trivial hK hP (ci := 4) (q0 := 0) rfl rfl hl.1 rfl (Nat.le_of_ble_eq_true rfl) dX4_swapped_23 ⟨Nat.zero_le _, Nat.zero_le _⟩ hS (fun _ h => h) (fun H1 locs hz hfr hB hS => ?_)
  have hP := hB
  have hP : va_P D vwCl (wN ci am (toS X (st (st X.1 2 u (X.1 2 o)) 2 o (X.1 2 u))) kr q0 q1 q2 q3 q4 q5 iw kn y0 y1 y2 y3 y4 y5 y6) H1 := hP
  generalize H1 = H at hP hS ⊢
  have hD : va_D (aM am) (wN ci am (toS X (st (st X.1 2 u (X.1 2 o)) 2 o (X.1 2 u))) kr q0 q1 q2 q3 q4 q5 iw kn y0 y1 y2 y3 y4 y5 y6) := wN_D hI
  refine nv_cv (show nI ((st X.1 2 u (X.1 2 o)) 2 o) = nI (X.1 2 o) from congrArg nI (by simp [st, h_ne.symm])) ?_
  refine lv_iload_n hx hb dX4_swapped_26 rfl (lv_at hl 0 rfl) ?_
  refine nv_icmp_ne (tgt := 34) hx hb (by omega) (by omega) dX4_swapped_27 (by decide) (fun c2 => ?_) (fun c2 => ?_)
  · refine lv_iconst (v := nI (1)) hx hb dX4_swapped_34 (by decide) ?_
    refine nv_cv (show nI (1) = nI (if X.1 2 u = X.1 2 o then 0 else 1) from nv_e (by first | rw [if_neg (fun z => c2 z.symm)] | rw [if_pos c2.symm])) ?_
    exact mu_iret hx hb hr hlocks hS (hP) dX4_swapped_35
  · refine lv_iconst (v := nI (0)) hx hb dX4_swapped_30 (by decide) ?_
    refine lv_goto (tgt := 35) hx hb dX4_swapped_31 (by decide) ?_
    refine nv_cv (show nI (0) = nI (if X.1 2 u = X.1 2 o then 0 else 1) from nv_e (by first | rw [if_neg (fun z => c2 z.symm)] | rw [if_pos c2.symm])) ?_
    exact mu_iret hx hb hr hlocks hS (hP) dX4_swapped_35

set_option maxHeartbeats 4000000 in
set_option maxRecDepth 100000 in
/-- X4_playBar -/
theorem c_X4_playBar (l : Launch) (D : va_G) (ci : Nat → ClassId) (am : Nat → Nat) (X : AS) (kr : Nat → Int32) (q0 q1 q2 q3 q4 q5 : Int32) (iw : Bool) (kn : Nat → Option Nat) (y0 y1 y2 y3 y4 y5 y6 : Nat → Int32) (hI : injA am 16) (bb : Nat) (hWF : WF X.1) (h_bb : bb < 12) : Met l yX4_playBar wsX4_playBar ({ frames := 7, cells := 0, slots := 0, locals := 162 } : Room) (va_Pc [.ref (am 0), .int (nI bb)] (ro_B D (tyL ci) (wN ci am X kr q0 q1 q2 q3 q4 q5 iw kn y0 y1 y2 y3 y4 y5 y6) (enT))) (mu_Q (aM am) (none) (fun H => ∃ (y1 : Nat → Int32), va_P D vwCl (wN ci am (toS X (barS X.1 bb)) kr q0 q1 q2 q3 q4 q5 iw kn y0 y1 y2 y3 y4 y5 y6) H)) 0 0 (aM am) := by
  refine mu_Met (cc := cX4_playBar) (maxL := 4) (ret := none) [(0, .ref (am 0)), (1, .int (nI bb))] (wN_D hI) (by decide) rfl (Nat.le_of_ble_eq_true rfl) rfl ?_
  intro p e s m below meth c H locs hx hb hml hr hlocks hts hown hP hK hs0 hD hS ls hl
  have hown : s.vm.findClass RX4 = some m.cls := hown
  have hinX4 : ∀ w ∈ wsX40, w ∈ wsX4_playBar := by decide +kernel
  have hE := hE_T
  have f_n := hWF.n
  refine lv_iconst (v := nI (0)) hx hb dX4_playBar_0 (by decide) ?_
  refine lv_istore_n (lv' := [(2, .int (nI 0)), (0, .ref (am 0)), (1, .int (nI bb))]) hx hb dX4_playBar_1 rfl hl (by decide) rfl (fun ls hl => ?_)
  have L2 : ∀ (k2 : Nat) (i : Nat) (y1 : Nat → Int32), X.1 7 0 - i < k2 → (i ≤ X.1 7 0) → (∀ q, q < i → y1 q = nI (nnv X.1 bb q)) → ∀ (x2 : Int32), x2 = nI (i) → ∀ (H : Heap) (locs : List Loc), va_P D vwCl (wN ci am X kr q0 q1 q2 q3 q4 q5 iw kn y0 y1 y2 y3 y4 y5 y6) H → va_S (aM am) s.heap H locs → ∀ ls : Array Slot, lv_has ls 4 [(2, .int (x2)), (0, .ref (am 0)), (1, .int (nI bb))] → W p l e (headSpec wsX4_playBar ({ frames := 7, cells := 0, slots := 0, locals := 162 } : Room)).room s m ([.ref (am 0), .int (nI bb)] : List Value).toArray below meth c H locs 0 0 (MQ below (mu_Q (aM am) (none) (fun H => ∃ (y1 : Nat → Int32), va_P D vwCl (wN ci am (toS X (barS X.1 bb)) kr q0 q1 q2 q3 q4 q5 iw kn y0 y1 y2 y3 y4 y5 y6) H)) ([.ref (am 0), .int (nI bb)] : List Value).toArray s 0 0 (aM am)) (F0 m 2 ls []) := by
    intro k2
    induction k2 with
    | zero => intro i y1 h0; exact absurd h0 (Nat.not_lt_zero _)
    | succ k2 ih2 =>
      intro i y1 hk2 h_i h_y x2 e2  H locs hP hS ls hl
      subst e2
      have hD : va_D (aM am) (wN ci am X kr q0 q1 q2 q3 q4 q5 iw kn y0 y1 y2 y3 y4 y5 y6) := wN_D hI
      refine lv_iload_n hx hb dX4_playBar_2 rfl (lv_at hl 0 rfl) ?_
      refine lv_aload_n hx hb dX4_playBar_3 rfl (lv_at hl 1 rfl) ?_
      refine va_get (D := D) (ci := 4) (v := .ref (am 1)) (C := RX4) (T := TX4) (N := 24) hx hb hts hinX4 hown hK hP 0 rfl rfl 0 (by decide) (hts (.fieldLink RX4 9 "OneShortModel" "now" "[I") (List.mem_of_getElem? (i := 1) rfl)) (fun _ h9 => h9) rfl dX4_playBar_4 ?_
      refine lv_iconst (v := nI (1)) hx hb dX4_playBar_7 (by decide) ?_
      refine nv_iald (v := nI (X.1 7 0)) hx hb hK hP 1 0 rfl rfl (by omega) (by decide) (pk_n X.1) dX4_playBar_8 ?_
      refine nv_icmp_ge (tgt := 70) hx hb (by omega) (by omega) dX4_playBar_9 (by decide) (fun c1 => ?_) (fun c1 => ?_)
      · refine lv_iconst (v := nI (0)) hx hb dX4_playBar_70 (by decide) ?_
        refine lv_istore_n (lv' := [(2, .int (nI 0)), (0, .ref (am 0)), (1, .int (nI bb))]) hx hb dX4_playBar_71 rfl hl (by decide) rfl (fun ls hl => ?_)
        have L72 : ∀ (k72 : Nat) (j : Nat), X.1 7 0 - j < k72 → (j ≤ X.1 7 0) → ∀ (x2 : Int32), x2 = nI (j) → ∀ (H : Heap) (locs : List Loc), va_P D vwCl (wN ci am (toS X (upF X.1 5 (nnv X.1 bb) j)) kr q0 q1 q2 q3 q4 q5 iw kn y0 y1 y2 y3 y4 y5 y6) H → va_S (aM am) s.heap H locs → ∀ ls : Array Slot, lv_has ls 4 [(2, .int (x2)), (0, .ref (am 0)), (1, .int (nI bb))] → W p l e (headSpec wsX4_playBar ({ frames := 7, cells := 0, slots := 0, locals := 162 } : Room)).room s m ([.ref (am 0), .int (nI bb)] : List Value).toArray below meth c H locs 0 0 (MQ below (mu_Q (aM am) (none) (fun H => ∃ (y1 : Nat → Int32), va_P D vwCl (wN ci am (toS X (barS X.1 bb)) kr q0 q1 q2 q3 q4 q5 iw kn y0 y1 y2 y3 y4 y5 y6) H)) ([.ref (am 0), .int (nI bb)] : List Value).toArray s 0 0 (aM am)) (F0 m 72 ls []) := by
          intro k72
          induction k72 with
          | zero => intro j h0; exact absurd h0 (Nat.not_lt_zero _)
          | succ k72 ih72 =>
            intro j hk72 h_j x2 e2  H locs hP hS ls hl
            subst e2
            have hD : va_D (aM am) (wN ci am (toS X (upF X.1 5 (nnv X.1 bb) j)) kr q0 q1 q2 q3 q4 q5 iw kn y0 y1 y2 y3 y4 y5 y6) := wN_D hI
            refine lv_iload_n hx hb dX4_playBar_72 rfl (lv_at hl 0 rfl) ?_
            refine lv_aload_n hx hb dX4_playBar_73 rfl (lv_at hl 1 rfl) ?_
            refine va_get (D := D) (ci := 4) (v := .ref (am 1)) (C := RX4) (T := TX4) (N := 24) hx hb hts hinX4 hown hK hP 0 rfl rfl 0 (by decide) (hts (.fieldLink RX4 9 "OneShortModel" "now" "[I") (List.mem_of_getElem? (i := 1) rfl)) (fun _ h9 => h9) rfl dX4_playBar_74 ?_
            refine lv_iconst (v := nI (1)) hx hb dX4_playBar_77 (by decide) ?_
            refine nv_iald (v := nI ((upF X.1 5 (nnv X.1 bb) j) 7 0)) hx hb hK hP 1 0 rfl rfl (by omega) (by decide) (pk_n (upF X.1 5 (nnv X.1 bb) j)) dX4_playBar_78 ?_
            refine nv_cv (show nI ((upF X.1 5 (nnv X.1 bb) j) 7 0) = nI (X.1 7 0) from rfl) ?_
            refine nv_icmp_ge (tgt := 104) hx hb (by omega) (by omega) dX4_playBar_79 (by decide) (fun c2 => ?_) (fun c2 => ?_)
            · exact mu_vret hx hb hr hlocks hS ((by rw [show j = X.1 7 0 by omega] at hP; exact ⟨_, hP⟩)) dX4_playBar_104
            · refine lv_aload_n hx hb dX4_playBar_82 rfl (lv_at hl 1 rfl) ?_
              refine va_get (D := D) (ci := 4) (v := .ref (am 1)) (C := RX4) (T := TX4) (N := 24) hx hb hts hinX4 hown hK hP 0 rfl rfl 0 (by decide) (hts (.fieldLink RX4 9 "OneShortModel" "now" "[I") (List.mem_of_getElem? (i := 1) rfl)) (fun _ h9 => h9) rfl dX4_playBar_83 ?_
              refine lv_iload_n hx hb dX4_playBar_86 rfl (lv_at hl 0 rfl) ?_
              refine lv_iconst (v := nI (4)) hx hb dX4_playBar_87 (by decide) ?_
              refine ro_S (n := 2) (As := [.int (nI j), .int (nI 4)]) (rest := [.ref (am 1)]) ⟨hx, hb, hml, hown, hts⟩ (c_X4_at l D ci (wN ci am (toS X (upF X.1 5 (nnv X.1 bb) j)) kr q0 q1 q2 q3 q4 q5 iw kn y0 y1 y2 y3 y4 y5 y6) (j) (4) ) gX4_playBar_X4_at rfl ⟨rfl, rfl⟩ (by decide +kernel) rfl ⟨Nat.le_of_ble_eq_true rfl, Nat.le_of_ble_eq_true rfl⟩ hE trivial hK hP hl.1 rfl (Nat.le_of_ble_eq_true rfl) dX4_playBar_88 ⟨Nat.zero_le _, Nat.zero_le _⟩ ?_
              refine lv_aload_n hx hb dX4_playBar_91 rfl (lv_at hl 1 rfl) ?_
              refine va_get (D := D) (ci := 4) (v := .ref (am 5)) (C := RX4) (T := TX4) (N := 24) hx hb hts hinX4 hown hK hP 0 rfl rfl 5 (by decide) (hts (.fieldLink RX4 22 "OneShortModel" "nerves" "[I") (List.mem_of_getElem? (i := 2) rfl)) (fun _ h9 => h9) rfl dX4_playBar_92 ?_
              refine lv_iload_n hx hb dX4_playBar_95 rfl (lv_at hl 0 rfl) ?_
              refine nv_iald (v := nI (nnv X.1 bb j)) hx hb hK hP 5 0 rfl rfl (by omega) (by decide) (h_y _ (by omega)) dX4_playBar_96 ?_
              refine nv_iast hx hb hK hP hD hS 1 0 rfl rfl (by omega) (by decide) dX4_playBar_97 (fun H locs hP hD hS => ?_)
              have hP : va_P D vwCl (wN ci am (toS X (st (upF X.1 5 (nnv X.1 bb) j) 5 j (nnv X.1 bb j))) kr q0 q1 q2 q3 q4 q5 iw kn y0 y1 y2 y3 y4 y5 y6) H := va_P.re (wN_now ci am (toS X (upF X.1 5 (nnv X.1 bb) j)) kr q0 q1 q2 q3 q4 q5 iw kn y0 y1 y2 y3 y4 y5 y6 (25 + 5 * j + 4) (nI (nnv X.1 bb j)) (pku_f (upF X.1 5 (nnv X.1 bb) j) j (by omega))) hP
              have hD : va_D (aM am) (wN ci am (toS X (st (upF X.1 5 (nnv X.1 bb) j) 5 j (nnv X.1 bb j))) kr q0 q1 q2 q3 q4 q5 iw kn y0 y1 y2 y3 y4 y5 y6) := wN_D hI
              refine nv_iinc1 (lv' := [(2, .int (nI (j + 1))), (0, .ref (am 0)), (1, .int (nI bb))]) hx hb dX4_playBar_98 hl (k := 0) rfl (by decide) rfl (fun ls hl => ?_)
              refine lv_goto (tgt := 72) hx hb dX4_playBar_101 (by decide) ?_
              exact ih72 (j + 1) (by omega) (by omega) (nI (j + 1)) rfl _ _ (va_P.re (by rw [upF_st rfl]) hP) hS ls (lv_sub hl [0, 1, 2] rfl)
        exact L72 _ (0) (Nat.lt_succ_self _) (by omega) (nI (0)) rfl _ _ (va_P.re (by rw [upF_0]; rfl) hP) hS ls (lv_sub hl [0, 1, 2] rfl)
      · refine lv_aload_n hx hb dX4_playBar_12 rfl (lv_at hl 1 rfl) ?_
        refine lv_iload_n hx hb dX4_playBar_13 rfl (lv_at hl 0 rfl) ?_
        refine lv_iload_n hx hb dX4_playBar_14 rfl (lv_at hl 2 rfl) ?_
        refine ro_V (n := 2) (As := [.int (nI i), .int (nI bb)]) (rest := []) ⟨hx, hb, hml, hown, hts⟩ (c_X4_plays l D ci am X kr q0 q1 q2 q3 q4 q5 iw kn y0 y1 y2 y3 y4 y5 y6 (i) (bb) hWF (by omega) (by omega)) gX4_playBar_X4_plays rfl ⟨rfl, rfl⟩ (by decide +kernel) rfl ⟨Nat.le_of_ble_eq_true rfl, Nat.le_of_ble_eq_true rfl⟩ hE trivial hK hP (ci := 4) (q0 := 0) rfl rfl hl.1 rfl (Nat.le_of_ble_eq_true rfl) dX4_playBar_15 ⟨Nat.zero_le _, Nat.zero_le _⟩ ?_
        refine nv_ifne_b (tgt := 25) hx hb dX4_playBar_18 (by decide) (fun c3 => ?_) (fun c3 => ?_)
        · refine lv_aload_n hx hb dX4_playBar_25 rfl (lv_at hl 1 rfl) ?_
          refine lv_iload_n hx hb dX4_playBar_26 rfl (lv_at hl 0 rfl) ?_
          refine lv_iload_n hx hb dX4_playBar_27 rfl (lv_at hl 2 rfl) ?_
          refine ro_V (n := 2) (As := [.int (nI i), .int (nI bb)]) (rest := []) ⟨hx, hb, hml, hown, hts⟩ (c_X4_hearingOf l D ci am X kr q0 q1 q2 q3 q4 q5 iw kn y0 y1 y2 y3 y4 y5 y6 (i) (bb) hWF (by omega) (by omega)) gX4_playBar_X4_hearingOf rfl ⟨rfl, rfl⟩ (by decide +kernel) rfl ⟨Nat.le_of_ble_eq_true rfl, Nat.le_of_ble_eq_true rfl⟩ hE trivial hK hP (ci := 4) (q0 := 0) rfl rfl hl.1 rfl (Nat.le_of_ble_eq_true rfl) dX4_playBar_28 ⟨Nat.zero_le _, Nat.zero_le _⟩ ?_
          have f4 := hearP_lt X.1 (i) (bb) hWF.n
          refine nv_ifeq (tgt := 38) hx hb (by omega) dX4_playBar_31 (by decide) (fun c5 => ?_) (fun c5 => ?_)
          · refine lv_bipush (v := -3) hx hb dX4_playBar_38 (by decide) ?_
            refine lv_istore_n (lv' := [(3, .int (-3)), (2, .int (nI i)), (0, .ref (am 0)), (1, .int (nI bb))]) hx hb dX4_playBar_40 rfl hl (by decide) rfl (fun ls hl => ?_)
            refine lv_aload_n hx hb dX4_playBar_41 rfl (lv_at hl 2 rfl) ?_
            refine va_get (D := D) (ci := 4) (v := .ref (am 5)) (C := RX4) (T := TX4) (N := 24) hx hb hts hinX4 hown hK hP 0 rfl rfl 5 (by decide) (hts (.fieldLink RX4 22 "OneShortModel" "nerves" "[I") (List.mem_of_getElem? (i := 2) rfl)) (fun _ h9 => h9) rfl dX4_playBar_42 ?_
            refine lv_iload_n hx hb dX4_playBar_45 rfl (lv_at hl 1 rfl) ?_
            refine lv_iconst (v := nI (0)) hx hb dX4_playBar_46 (by decide) ?_
            refine lv_bipush (v := nI (99)) hx hb dX4_playBar_47 (by decide) ?_
            refine lv_aload_n hx hb dX4_playBar_49 rfl (lv_at hl 2 rfl) ?_
            refine lv_iload_n hx hb dX4_playBar_50 rfl (lv_at hl 1 rfl) ?_
            refine lv_iconst (v := nI (4)) hx hb dX4_playBar_51 (by decide) ?_
            refine ro_V (n := 2) (As := [.int (nI i), .int (nI 4)]) (rest := [.int (nI 99), .int (nI 0), .int (nI i), .ref (am 5)]) ⟨hx, hb, hml, hown, hts⟩ (c_X4_playerIs l D ci am X kr q0 q1 q2 q3 q4 q5 iw kn y0 y1 y2 y3 y4 y5 y6 (i) (4) hWF (by omega) (by omega)) gX4_playBar_X4_playerIs rfl ⟨rfl, rfl⟩ (by decide +kernel) rfl ⟨Nat.le_of_ble_eq_true rfl, Nat.le_of_ble_eq_true rfl⟩ hE trivial hK hP (ci := 4) (q0 := 0) rfl rfl hl.1 rfl (Nat.le_of_ble_eq_true rfl) dX4_playBar_52 ⟨Nat.zero_le _, Nat.zero_le _⟩ ?_
            refine nv_cv (show nI (X.1 (4 + 1) i) = nI (X.1 5 i) from rfl) ?_
            have f6 := hWF.f5 i
            refine lv_iload_n hx hb dX4_playBar_55 rfl (lv_at hl 0 rfl) ?_
            refine lv_iadd hx hb dX4_playBar_56 ?_
            refine nv_cv (show (nI (X.1 5 i) + -3) = nI (X.1 5 i) - nI (3) from nI_m3 _) ?_
            refine va_mmin hx hb (hml.trans hl.1.symm) hown (hts (.methodLink RX4 173 Lib.Math.min.name) (List.mem_of_getElem? (i := 3) rfl)) (hts (.static Lib.Math.min.name) (List.mem_of_getElem? (i := 4) rfl)) (hts (.initialized "java/lang/Math") (List.mem_of_getElem? (i := 5) rfl)) (hts (.code Lib.Math.min.name Lib.Math.min.code 2 (some .int)) (List.mem_of_getElem? (i := 6) rfl)) (Nat.le_of_ble_eq_true rfl) (Nat.le_of_ble_eq_true rfl) (Nat.zero_le _) (Nat.zero_le _) dX4_playBar_57 (nv_cv (nv_minD (m := 99) (x := X.1 5 i) (y := 3) (by omega) (by omega) (by omega)) ?_)
            refine va_mmax hx hb (hml.trans hl.1.symm) hown (hts (.methodLink RX4 118 Lib.Math.max.name) (List.mem_of_getElem? (i := 7) rfl)) (hts (.static Lib.Math.max.name) (List.mem_of_getElem? (i := 8) rfl)) (hts (.initialized "java/lang/Math") (List.mem_of_getElem? (i := 5) rfl)) (hts (.code Lib.Math.max.name Lib.Math.max.code 2 (some .int)) (List.mem_of_getElem? (i := 9) rfl)) (Nat.le_of_ble_eq_true rfl) (Nat.le_of_ble_eq_true rfl) (Nat.zero_le _) (Nat.zero_le _) dX4_playBar_60 (nv_cv (nv_max0 (x := X.1 5 i) (y := 3) (by omega) (by omega)) ?_)
            refine nv_iast hx hb hK hP hD hS 5 0 rfl rfl (by omega) (by decide) dX4_playBar_63 (fun H locs hP hD hS => ?_)
            have hP : va_P D vwCl (wN ci am X kr q0 q1 q2 q3 q4 q5 iw kn y0 (upd y1 (i) (nI ((X.1 5 i - (3))))) y2 y3 y4 y5 y6) H := va_P.re (wN_y1 ci am X kr q0 q1 q2 q3 q4 q5 iw kn y0 y1 y2 y3 y4 y5 y6 (i) (nI ((X.1 5 i - (3))))) hP
            have hD : va_D (aM am) (wN ci am X kr q0 q1 q2 q3 q4 q5 iw kn y0 (upd y1 (i) (nI ((X.1 5 i - (3))))) y2 y3 y4 y5 y6) := wN_D hI
            refine nv_iinc1 (lv' := [(2, .int (nI (i + 1))), (3, .int (-3)), (0, .ref (am 0)), (1, .int (nI bb))]) hx hb dX4_playBar_64 hl (k := 1) rfl (by decide) rfl (fun ls hl => ?_)
            refine lv_goto (tgt := 2) hx hb dX4_playBar_67 (by decide) ?_
            exact ih2 (i + 1) ((upd y1 (i) (nI ((X.1 5 i - (3)))))) (by omega) (by omega) (upd_all h_y (nv_e (by first | (simp [nnv, c1, c3, c5]; done) | (simp [nnv, c1, c3, c5]; omega)))) (nI (i + 1)) rfl _ _ hP hS ls (lv_sub hl [0, 2, 3] rfl)
          · refine lv_iconst (v := nI (1)) hx hb dX4_playBar_34 (by decide) ?_
            refine lv_goto (tgt := 40) hx hb dX4_playBar_35 (by decide) ?_
            refine lv_istore_n (lv' := [(3, .int (nI 1)), (2, .int (nI i)), (0, .ref (am 0)), (1, .int (nI bb))]) hx hb dX4_playBar_40 rfl hl (by decide) rfl (fun ls hl => ?_)
            refine lv_aload_n hx hb dX4_playBar_41 rfl (lv_at hl 2 rfl) ?_
            refine va_get (D := D) (ci := 4) (v := .ref (am 5)) (C := RX4) (T := TX4) (N := 24) hx hb hts hinX4 hown hK hP 0 rfl rfl 5 (by decide) (hts (.fieldLink RX4 22 "OneShortModel" "nerves" "[I") (List.mem_of_getElem? (i := 2) rfl)) (fun _ h9 => h9) rfl dX4_playBar_42 ?_
            refine lv_iload_n hx hb dX4_playBar_45 rfl (lv_at hl 1 rfl) ?_
            refine lv_iconst (v := nI (0)) hx hb dX4_playBar_46 (by decide) ?_
            refine lv_bipush (v := nI (99)) hx hb dX4_playBar_47 (by decide) ?_
            refine lv_aload_n hx hb dX4_playBar_49 rfl (lv_at hl 2 rfl) ?_
            refine lv_iload_n hx hb dX4_playBar_50 rfl (lv_at hl 1 rfl) ?_
            refine lv_iconst (v := nI (4)) hx hb dX4_playBar_51 (by decide) ?_
            refine ro_V (n := 2) (As := [.int (nI i), .int (nI 4)]) (rest := [.int (nI 99), .int (nI 0), .int (nI i), .ref (am 5)]) ⟨hx, hb, hml, hown, hts⟩ (c_X4_playerIs l D ci am X kr q0 q1 q2 q3 q4 q5 iw kn y0 y1 y2 y3 y4 y5 y6 (i) (4) hWF (by omega) (by omega)) gX4_playBar_X4_playerIs rfl ⟨rfl, rfl⟩ (by decide +kernel) rfl ⟨Nat.le_of_ble_eq_true rfl, Nat.le_of_ble_eq_true rfl⟩ hE trivial hK hP (ci := 4) (q0 := 0) rfl rfl hl.1 rfl (Nat.le_of_ble_eq_true rfl) dX4_playBar_52 ⟨Nat.zero_le _, Nat.zero_le _⟩ ?_
            refine nv_cv (show nI (X.1 (4 + 1) i) = nI (X.1 5 i) from rfl) ?_
            have f7 := hWF.f5 i
            refine lv_iload_n hx hb dX4_playBar_55 rfl (lv_at hl 0 rfl) ?_
            refine nv_iadd hx hb dX4_playBar_56 ?_
            refine va_mmin hx hb (hml.trans hl.1.symm) hown (hts (.methodLink RX4 173 Lib.Math.min.name) (List.mem_of_getElem? (i := 3) rfl)) (hts (.static Lib.Math.min.name) (List.mem_of_getElem? (i := 4) rfl)) (hts (.initialized "java/lang/Math") (List.mem_of_getElem? (i := 5) rfl)) (hts (.code Lib.Math.min.name Lib.Math.min.code 2 (some .int)) (List.mem_of_getElem? (i := 6) rfl)) (Nat.le_of_ble_eq_true rfl) (Nat.le_of_ble_eq_true rfl) (Nat.zero_le _) (Nat.zero_le _) dX4_playBar_57 (nv_cv (nv_min (x := 99) (y := (X.1 5 i + 1)) (by omega) (by omega)) ?_)
            refine va_mmax hx hb (hml.trans hl.1.symm) hown (hts (.methodLink RX4 118 Lib.Math.max.name) (List.mem_of_getElem? (i := 7) rfl)) (hts (.static Lib.Math.max.name) (List.mem_of_getElem? (i := 8) rfl)) (hts (.initialized "java/lang/Math") (List.mem_of_getElem? (i := 5) rfl)) (hts (.code Lib.Math.max.name Lib.Math.max.code 2 (some .int)) (List.mem_of_getElem? (i := 9) rfl)) (Nat.le_of_ble_eq_true rfl) (Nat.le_of_ble_eq_true rfl) (Nat.zero_le _) (Nat.zero_le _) dX4_playBar_60 (nv_cv (nv_max (x := 0) (y := min (99) ((X.1 5 i + 1))) (by omega) (by omega)) ?_)
            refine nv_iast hx hb hK hP hD hS 5 0 rfl rfl (by omega) (by decide) dX4_playBar_63 (fun H locs hP hD hS => ?_)
            have hP : va_P D vwCl (wN ci am X kr q0 q1 q2 q3 q4 q5 iw kn y0 (upd y1 (i) (nI (max (0) (min (99) ((X.1 5 i + 1)))))) y2 y3 y4 y5 y6) H := va_P.re (wN_y1 ci am X kr q0 q1 q2 q3 q4 q5 iw kn y0 y1 y2 y3 y4 y5 y6 (i) (nI (max (0) (min (99) ((X.1 5 i + 1)))))) hP
            have hD : va_D (aM am) (wN ci am X kr q0 q1 q2 q3 q4 q5 iw kn y0 (upd y1 (i) (nI (max (0) (min (99) ((X.1 5 i + 1)))))) y2 y3 y4 y5 y6) := wN_D hI
            refine nv_iinc1 (lv' := [(2, .int (nI (i + 1))), (3, .int (nI 1)), (0, .ref (am 0)), (1, .int (nI bb))]) hx hb dX4_playBar_64 hl (k := 1) rfl (by decide) rfl (fun ls hl => ?_)
            refine lv_goto (tgt := 2) hx hb dX4_playBar_67 (by decide) ?_
            exact ih2 (i + 1) ((upd y1 (i) (nI (max (0) (min (99) ((X.1 5 i + 1))))))) (by omega) (by omega) (upd_all h_y (nv_e (by first | (simp [nnv, c1, c3, c5]; done) | (simp [nnv, c1, c3, c5]; omega)))) (nI (i + 1)) rfl _ _ hP hS ls (lv_sub hl [0, 2, 3] rfl)
        · refine lv_iconst (v := nI (0)) hx hb dX4_playBar_21 (by decide) ?_
          refine lv_goto (tgt := 40) hx hb dX4_playBar_22 (by decide) ?_
          refine lv_istore_n (lv' := [(3, .int (nI 0)), (2, .int (nI i)), (0, .ref (am 0)), (1, .int (nI bb))]) hx hb dX4_playBar_40 rfl hl (by decide) rfl (fun ls hl => ?_)
          refine lv_aload_n hx hb dX4_playBar_41 rfl (lv_at hl 2 rfl) ?_
          refine va_get (D := D) (ci := 4) (v := .ref (am 5)) (C := RX4) (T := TX4) (N := 24) hx hb hts hinX4 hown hK hP 0 rfl rfl 5 (by decide) (hts (.fieldLink RX4 22 "OneShortModel" "nerves" "[I") (List.mem_of_getElem? (i := 2) rfl)) (fun _ h9 => h9) rfl dX4_playBar_42 ?_
          refine lv_iload_n hx hb dX4_playBar_45 rfl (lv_at hl 1 rfl) ?_
          refine lv_iconst (v := nI (0)) hx hb dX4_playBar_46 (by decide) ?_
          refine lv_bipush (v := nI (99)) hx hb dX4_playBar_47 (by decide) ?_
          refine lv_aload_n hx hb dX4_playBar_49 rfl (lv_at hl 2 rfl) ?_
          refine lv_iload_n hx hb dX4_playBar_50 rfl (lv_at hl 1 rfl) ?_
          refine lv_iconst (v := nI (4)) hx hb dX4_playBar_51 (by decide) ?_
          refine ro_V (n := 2) (As := [.int (nI i), .int (nI 4)]) (rest := [.int (nI 99), .int (nI 0), .int (nI i), .ref (am 5)]) ⟨hx, hb, hml, hown, hts⟩ (c_X4_playerIs l D ci am X kr q0 q1 q2 q3 q4 q5 iw kn y0 y1 y2 y3 y4 y5 y6 (i) (4) hWF (by omega) (by omega)) gX4_playBar_X4_playerIs rfl ⟨rfl, rfl⟩ (by decide +kernel) rfl ⟨Nat.le_of_ble_eq_true rfl, Nat.le_of_ble_eq_true rfl⟩ hE trivial hK hP (ci := 4) (q0 := 0) rfl rfl hl.1 rfl (Nat.le_of_ble_eq_true rfl) dX4_playBar_52 ⟨Nat.zero_le _, Nat.zero_le _⟩ ?_
          refine nv_cv (show nI (X.1 (4 + 1) i) = nI (X.1 5 i) from rfl) ?_
          have f8 := hWF.f5 i
          refine lv_iload_n hx hb dX4_playBar_55 rfl (lv_at hl 0 rfl) ?_
          refine nv_iadd hx hb dX4_playBar_56 ?_
          refine va_mmin hx hb (hml.trans hl.1.symm) hown (hts (.methodLink RX4 173 Lib.Math.min.name) (List.mem_of_getElem? (i := 3) rfl)) (hts (.static Lib.Math.min.name) (List.mem_of_getElem? (i := 4) rfl)) (hts (.initialized "java/lang/Math") (List.mem_of_getElem? (i := 5) rfl)) (hts (.code Lib.Math.min.name Lib.Math.min.code 2 (some .int)) (List.mem_of_getElem? (i := 6) rfl)) (Nat.le_of_ble_eq_true rfl) (Nat.le_of_ble_eq_true rfl) (Nat.zero_le _) (Nat.zero_le _) dX4_playBar_57 (nv_cv (nv_min (x := 99) (y := (X.1 5 i + 0)) (by omega) (by omega)) ?_)
          refine va_mmax hx hb (hml.trans hl.1.symm) hown (hts (.methodLink RX4 118 Lib.Math.max.name) (List.mem_of_getElem? (i := 7) rfl)) (hts (.static Lib.Math.max.name) (List.mem_of_getElem? (i := 8) rfl)) (hts (.initialized "java/lang/Math") (List.mem_of_getElem? (i := 5) rfl)) (hts (.code Lib.Math.max.name Lib.Math.max.code 2 (some .int)) (List.mem_of_getElem? (i := 9) rfl)) (Nat.le_of_ble_eq_true rfl) (Nat.le_of_ble_eq_true rfl) (Nat.zero_le _) (Nat.zero_le _) dX4_playBar_60 (nv_cv (nv_max (x := 0) (y := min (99) ((X.1 5 i + 0))) (by omega) (by omega)) ?_)
          refine nv_iast hx hb hK hP hD hS 5 0 rfl rfl (by omega) (by decide) dX4_playBar_63 (fun H locs hP hD hS => ?_)
          have hP : va_P D vwCl (wN ci am X kr q0 q1 q2 q3 q4 q5 iw kn y0 (upd y1 (i) (nI (max (0) (min (99) ((X.1 5 i + 0)))))) y2 y3 y4 y5 y6) H := va_P.re (wN_y1 ci am X kr q0 q1 q2 q3 q4 q5 iw kn y0 y1 y2 y3 y4 y5 y6 (i) (nI (max (0) (min (99) ((X.1 5 i + 0)))))) hP
          have hD : va_D (aM am) (wN ci am X kr q0 q1 q2 q3 q4 q5 iw kn y0 (upd y1 (i) (nI (max (0) (min (99) ((X.1 5 i + 0)))))) y2 y3 y4 y5 y6) := wN_D hI
          refine nv_iinc1 (lv' := [(2, .int (nI (i + 1))), (3, .int (nI 0)), (0, .ref (am 0)), (1, .int (nI bb))]) hx hb dX4_playBar_64 hl (k := 1) rfl (by decide) rfl (fun ls hl => ?_)
          refine lv_goto (tgt := 2) hx hb dX4_playBar_67 (by decide) ?_
          exact ih2 (i + 1) ((upd y1 (i) (nI (max (0) (min (99) ((X.1 5 i + 0))))))) (by omega) (by omega) (upd_all h_y (nv_e (by first | (simp [nnv, c1, c3]; done) | (simp [nnv, c1, c3]; omega)))) (nI (i + 1)) rfl _ _ hP hS ls (lv_sub hl [0, 2, 3] rfl)
  exact L2 _ (0) (y1) (Nat.lt_succ_self _) (by omega) (fun _ h => absurd h (Nat.not_lt_zero _)) (nI (0)) rfl _ _ hP hS ls (lv_sub hl [0, 1, 2] rfl)

set_option maxHeartbeats 4000000 in
set_option maxRecDepth 100000 in
/-- X4_evening -/
theorem c_X4_evening (l : Launch) (D : va_G) (ci : Nat → ClassId) (am : Nat → Nat) (X : AS) (kr : Nat → Int32) (q0 q1 q2 q3 q4 q5 : Int32) (iw : Bool) (kn : Nat → Option Nat) (y0 y1 y2 y3 y4 y5 y6 : Nat → Int32) (hI : injA am 16)  (hWF : WF X.1) (h_8 : X.1 8 0 < 199999) : Met l yX4_evening wsX4_evening ({ frames := 8, cells := 0, slots := 0, locals := 185 } : Room) (va_Pc [.ref (am 0)] (ro_B D (tyL ci) (wN ci am X kr q0 q1 q2 q3 q4 q5 iw kn y0 y1 y2 y3 y4 y5 y6) (enT))) (mu_Q (aM am) (none) (fun H => ∃ (y1 : Nat → Int32), va_P D vwCl (wN ci am (toS X (evM X.1)) kr q0 q1 q2 q3 q4 q5 iw kn y0 y1 y2 y3 y4 y5 y6) H)) 0 0 (aM am) := by
  refine mu_Met (cc := cX4_evening) (maxL := 2) (ret := none) [(0, .ref (am 0))] (wN_D hI) (by decide) rfl (Nat.le_of_ble_eq_true rfl) rfl ?_
  intro p e s m below meth c H locs hx hb hml hr hlocks hts hown hP hK hs0 hD hS ls hl
  have hown : s.vm.findClass RX4 = some m.cls := hown
  have hinX4 : ∀ w ∈ wsX40, w ∈ wsX4_evening := by decide +kernel
  have hE := hE_T
  have f_n := hWF.n
  refine lv_iconst (v := nI (0)) hx hb dX4_evening_0 (by decide) ?_
  refine lv_istore_n (lv' := [(1, .int (nI 0)), (0, .ref (am 0))]) hx hb dX4_evening_1 rfl hl (by decide) rfl (fun ls hl => ?_)
  have L2 : ∀ (k2 : Nat) (i : Nat), 12 - i < k2 → (i ≤ 12) → ∀ (x1 : Int32), x1 = nI (i) → ∀ (y1 : Nat → Int32), ∀ (H : Heap) (locs : List Loc), va_P D vwCl (wN ci am (toS X (barTo X.1 i)) kr q0 q1 q2 q3 q4 q5 iw kn y0 y1 y2 y3 y4 y5 y6) H → va_S (aM am) s.heap H locs → ∀ ls : Array Slot, lv_has ls 2 [(1, .int (x1)), (0, .ref (am 0))] → W p l e (headSpec wsX4_evening ({ frames := 8, cells := 0, slots := 0, locals := 185 } : Room)).room s m ([.ref (am 0)] : List Value).toArray below meth c H locs 0 0 (MQ below (mu_Q (aM am) (none) (fun H => ∃ (y1 : Nat → Int32), va_P D vwCl (wN ci am (toS X (evM X.1)) kr q0 q1 q2 q3 q4 q5 iw kn y0 y1 y2 y3 y4 y5 y6) H)) ([.ref (am 0)] : List Value).toArray s 0 0 (aM am)) (F0 m 2 ls []) := by
    intro k2
    induction k2 with
    | zero => intro i h0; exact absurd h0 (Nat.not_lt_zero _)
    | succ k2 ih2 =>
      intro i hk2 h_i x1 e1 y1 H locs hP hS ls hl
      subst e1
      have hD : va_D (aM am) (wN ci am (toS X (barTo X.1 i)) kr q0 q1 q2 q3 q4 q5 iw kn y0 y1 y2 y3 y4 y5 y6) := wN_D hI
      have hWFi := WF_barTo hWF i
      refine lv_iload_n hx hb dX4_evening_2 rfl (lv_at hl 0 rfl) ?_
      refine lv_bipush (v := nI (12)) hx hb dX4_evening_3 (by decide) ?_
      refine nv_icmp_ge (tgt := 19) hx hb (by omega) (by omega) dX4_evening_5 (by decide) (fun c1 => ?_) (fun c1 => ?_)
      · refine lv_iconst (v := nI (0)) hx hb dX4_evening_19 (by decide) ?_
        refine lv_istore_n (lv' := [(1, .int (nI 0)), (0, .ref (am 0))]) hx hb dX4_evening_20 rfl hl (by decide) rfl (fun ls hl => ?_)
        have L21 : ∀ (k21 : Nat) (k : Nat), X.1 7 0 - k < k21 → (k ≤ X.1 7 0) → ∀ (x1 : Int32), x1 = nI (k) → ∀ (y1 : Nat → Int32), ∀ (H : Heap) (locs : List Loc), va_P D vwCl (wN ci am (toS X (upF (barTo X.1 12) 4 (nld (barTo X.1 12)) k)) kr q0 q1 q2 q3 q4 q5 iw kn y0 y1 y2 y3 y4 y5 y6) H → va_S (aM am) s.heap H locs → ∀ ls : Array Slot, lv_has ls 2 [(1, .int (x1)), (0, .ref (am 0))] → W p l e (headSpec wsX4_evening ({ frames := 8, cells := 0, slots := 0, locals := 185 } : Room)).room s m ([.ref (am 0)] : List Value).toArray below meth c H locs 0 0 (MQ below (mu_Q (aM am) (none) (fun H => ∃ (y1 : Nat → Int32), va_P D vwCl (wN ci am (toS X (evM X.1)) kr q0 q1 q2 q3 q4 q5 iw kn y0 y1 y2 y3 y4 y5 y6) H)) ([.ref (am 0)] : List Value).toArray s 0 0 (aM am)) (F0 m 21 ls []) := by
          intro k21
          induction k21 with
          | zero => intro k h0; exact absurd h0 (Nat.not_lt_zero _)
          | succ k21 ih21 =>
            intro k hk21 h_k x1 e1 y1 H locs hP hS ls hl
            subst e1
            have hD : va_D (aM am) (wN ci am (toS X (upF (barTo X.1 12) 4 (nld (barTo X.1 12)) k)) kr q0 q1 q2 q3 q4 q5 iw kn y0 y1 y2 y3 y4 y5 y6) := wN_D hI
            have hWB := WF_barTo hWF 12
            have f_5 := hWB.f5 k
            have f_4 := hWB.f4 k
            refine lv_iload_n hx hb dX4_evening_21 rfl (lv_at hl 0 rfl) ?_
            refine lv_aload_n hx hb dX4_evening_22 rfl (lv_at hl 1 rfl) ?_
            refine va_get (D := D) (ci := 4) (v := .ref (am 1)) (C := RX4) (T := TX4) (N := 24) hx hb hts hinX4 hown hK hP 0 rfl rfl 0 (by decide) (hts (.fieldLink RX4 9 "OneShortModel" "now" "[I") (List.mem_of_getElem? (i := 1) rfl)) (fun _ h9 => h9) rfl dX4_evening_23 ?_
            refine lv_iconst (v := nI (1)) hx hb dX4_evening_26 (by decide) ?_
            refine nv_iald (v := nI ((upF (barTo X.1 12) 4 (nld (barTo X.1 12)) k) 7 0)) hx hb hK hP 1 0 rfl rfl (by omega) (by decide) (pk_n (upF (barTo X.1 12) 4 (nld (barTo X.1 12)) k)) dX4_evening_27 ?_
            refine nv_cv (show nI ((upF (barTo X.1 12) 4 (nld (barTo X.1 12)) k) 7 0) = nI (X.1 7 0) from congrArg nI (barTo_ne (S := X.1) (a := 7) 0 (by decide) 12)) ?_
            refine nv_icmp_ge (tgt := 73) hx hb (by omega) (by omega) dX4_evening_28 (by decide) (fun c2 => ?_) (fun c2 => ?_)
            · refine lv_aload_n hx hb dX4_evening_73 rfl (lv_at hl 1 rfl) ?_
              refine va_get (D := D) (ci := 4) (v := .ref (am 1)) (C := RX4) (T := TX4) (N := 24) hx hb hts hinX4 hown hK hP 0 rfl rfl 0 (by decide) (hts (.fieldLink RX4 9 "OneShortModel" "now" "[I") (List.mem_of_getElem? (i := 1) rfl)) (fun _ h9 => h9) rfl dX4_evening_74 ?_
              refine lv_iconst (v := nI (0)) hx hb dX4_evening_77 (by decide) ?_
              refine lv_dup2_11 hx hb dX4_evening_78 rfl rfl ?_
              refine nv_iald (v := nI ((upF (barTo X.1 12) 4 (nld (barTo X.1 12)) k) 8 0)) hx hb hK hP 1 0 rfl rfl (by omega) (by decide) (pk_ev (upF (barTo X.1 12) 4 (nld (barTo X.1 12)) k)) dX4_evening_79 ?_
              refine nv_cv (show nI ((upF (barTo X.1 12) 4 (nld (barTo X.1 12)) k) 8 0) = nI (X.1 8 0) from congrArg nI (barTo_ne (S := X.1) (a := 8) 0 (by decide) 12)) ?_
              refine lv_iconst (v := nI (1)) hx hb dX4_evening_80 (by decide) ?_
              refine nv_iadd hx hb dX4_evening_81 ?_
              refine nv_iast hx hb hK hP hD hS 1 0 rfl rfl (by omega) (by decide) dX4_evening_82 (fun H locs hP hD hS => ?_)
              have hP : va_P D vwCl (wN ci am (toS X (st (upF (barTo X.1 12) 4 (nld (barTo X.1 12)) k) 8 0 (X.1 8 0 + 1))) kr q0 q1 q2 q3 q4 q5 iw kn y0 y1 y2 y3 y4 y5 y6) H := va_P.re (wN_now ci am (toS X (upF (barTo X.1 12) 4 (nld (barTo X.1 12)) k)) kr q0 q1 q2 q3 q4 q5 iw kn y0 y1 y2 y3 y4 y5 y6 (0) (nI ((X.1 8 0 + 1))) (pku_ev (upF (barTo X.1 12) 4 (nld (barTo X.1 12)) k))) hP
              have hD : va_D (aM am) (wN ci am (toS X (st (upF (barTo X.1 12) 4 (nld (barTo X.1 12)) k) 8 0 (X.1 8 0 + 1))) kr q0 q1 q2 q3 q4 q5 iw kn y0 y1 y2 y3 y4 y5 y6) := wN_D hI
              exact mu_vret hx hb hr hlocks hS ((by rw [show k = X.1 7 0 by omega] at hP; exact ⟨_, hP⟩)) dX4_evening_83
            · refine lv_aload_n hx hb dX4_evening_31 rfl (lv_at hl 1 rfl) ?_
              refine va_get (D := D) (ci := 4) (v := .ref (am 1)) (C := RX4) (T := TX4) (N := 24) hx hb hts hinX4 hown hK hP 0 rfl rfl 0 (by decide) (hts (.fieldLink RX4 9 "OneShortModel" "now" "[I") (List.mem_of_getElem? (i := 1) rfl)) (fun _ h9 => h9) rfl dX4_evening_32 ?_
              refine lv_iload_n hx hb dX4_evening_35 rfl (lv_at hl 0 rfl) ?_
              refine lv_iconst (v := nI (3)) hx hb dX4_evening_36 (by decide) ?_
              refine ro_S (n := 2) (As := [.int (nI k), .int (nI 3)]) (rest := [.ref (am 1)]) ⟨hx, hb, hml, hown, hts⟩ (c_X4_at l D ci (wN ci am (toS X (upF (barTo X.1 12) 4 (nld (barTo X.1 12)) k)) kr q0 q1 q2 q3 q4 q5 iw kn y0 y1 y2 y3 y4 y5 y6) (k) (3) ) gX4_evening_X4_at rfl ⟨rfl, rfl⟩ (by decide +kernel) rfl ⟨Nat.le_of_ble_eq_true rfl, Nat.le_of_ble_eq_true rfl⟩ hE trivial hK hP hl.1 rfl (Nat.le_of_ble_eq_true rfl) dX4_evening_37 ⟨Nat.zero_le _, Nat.zero_le _⟩ ?_
              refine lv_dup2_11 hx hb dX4_evening_40 rfl rfl ?_
              refine nv_iald (v := nI ((upF (barTo X.1 12) 4 (nld (barTo X.1 12)) k) 4 k)) hx hb hK hP 1 0 rfl rfl (by omega) (by decide) (pk_f (upF (barTo X.1 12) 4 (nld (barTo X.1 12)) k) k (by omega)) dX4_evening_41 ?_
              refine nv_cv (show nI ((upF (barTo X.1 12) 4 (nld (barTo X.1 12)) k) 4 k) = nI (barTo X.1 12 4 k) from congrArg nI (upF_at _ _ _ _)) ?_
              refine lv_aload_n hx hb dX4_evening_42 rfl (lv_at hl 1 rfl) ?_
              refine lv_iload_n hx hb dX4_evening_43 rfl (lv_at hl 0 rfl) ?_
              refine lv_iconst (v := nI (4)) hx hb dX4_evening_44 (by decide) ?_
              refine ro_V (n := 2) (As := [.int (nI k), .int (nI 4)]) (rest := [.int (nI (barTo X.1 12 4 k)), .int (nI (25 + 5 * k + 3)), .ref (am 1)]) ⟨hx, hb, hml, hown, hts⟩ (c_X4_playerIs l D ci am (toS X (upF (barTo X.1 12) 4 (nld (barTo X.1 12)) k)) kr q0 q1 q2 q3 q4 q5 iw kn y0 y1 y2 y3 y4 y5 y6 (k) (4) (WF_upF4 hWB _ (nld_lt hWB)) (by omega) (by omega)) gX4_evening_X4_playerIs rfl ⟨rfl, rfl⟩ (by decide +kernel) rfl ⟨Nat.le_of_ble_eq_true rfl, Nat.le_of_ble_eq_true rfl⟩ hE trivial hK hP (ci := 4) (q0 := 0) rfl rfl hl.1 rfl (Nat.le_of_ble_eq_true rfl) dX4_evening_45 ⟨Nat.zero_le _, Nat.zero_le _⟩ ?_
              refine nv_cv (show nI ((toS X (upF (barTo X.1 12) 4 (nld (barTo X.1 12)) k)).1 (4 + 1) k) = nI ((upF (barTo X.1 12) 4 (nld (barTo X.1 12)) k) 5 k) from rfl) ?_
              refine nv_cv (show nI ((upF (barTo X.1 12) 4 (nld (barTo X.1 12)) k) 5 k) = nI (barTo X.1 12 5 k) from rfl) ?_
              refine nv_ifne (tgt := 64) hx hb (by omega) dX4_evening_48 (by decide) (fun c3 => ?_) (fun c3 => ?_)
              · refine lv_iconst (v := nI (0)) hx hb dX4_evening_64 (by decide) ?_
                refine nv_isub hx hb (by omega) dX4_evening_65 ?_
                refine nv_iast hx hb hK hP hD hS 1 0 rfl rfl (by omega) (by decide) dX4_evening_66 (fun H locs hP hD hS => ?_)
                have hP : va_P D vwCl (wN ci am (toS X (st (upF (barTo X.1 12) 4 (nld (barTo X.1 12)) k) 4 k (barTo X.1 12 4 k - 0))) kr q0 q1 q2 q3 q4 q5 iw kn y0 y1 y2 y3 y4 y5 y6) H := va_P.re (wN_now ci am (toS X (upF (barTo X.1 12) 4 (nld (barTo X.1 12)) k)) kr q0 q1 q2 q3 q4 q5 iw kn y0 y1 y2 y3 y4 y5 y6 (25 + 5 * k + 3) (nI ((barTo X.1 12 4 k - 0))) (pku_f (upF (barTo X.1 12) 4 (nld (barTo X.1 12)) k) k (by omega))) hP
                have hD : va_D (aM am) (wN ci am (toS X (st (upF (barTo X.1 12) 4 (nld (barTo X.1 12)) k) 4 k (barTo X.1 12 4 k - 0))) kr q0 q1 q2 q3 q4 q5 iw kn y0 y1 y2 y3 y4 y5 y6) := wN_D hI
                refine nv_iinc1 (lv' := [(1, .int (nI (k + 1))), (0, .ref (am 0))]) hx hb dX4_evening_67 hl (k := 0) rfl (by decide) rfl (fun ls hl => ?_)
                refine lv_goto (tgt := 21) hx hb dX4_evening_70 (by decide) ?_
                exact ih21 (k + 1) (by omega) (by omega) (nI (k + 1)) rfl (y1) _ _ (va_P.re (by rw [upF_st (by first | (simp [nld, c1, c2, c3]; done) | (simp [nld, c1, c2, c3]; omega))]) hP) hS ls (lv_sub hl [0, 1] rfl)
              · refine lv_aload_n hx hb dX4_evening_51 rfl (lv_at hl 1 rfl) ?_
                refine lv_iload_n hx hb dX4_evening_52 rfl (lv_at hl 0 rfl) ?_
                refine lv_iconst (v := nI (3)) hx hb dX4_evening_53 (by decide) ?_
                refine ro_V (n := 2) (As := [.int (nI k), .int (nI 3)]) (rest := [.int (nI (barTo X.1 12 4 k)), .int (nI (25 + 5 * k + 3)), .ref (am 1)]) ⟨hx, hb, hml, hown, hts⟩ (c_X4_playerIs l D ci am (toS X (upF (barTo X.1 12) 4 (nld (barTo X.1 12)) k)) kr q0 q1 q2 q3 q4 q5 iw kn y0 y1 y2 y3 y4 y5 y6 (k) (3) (WF_upF4 hWB _ (nld_lt hWB)) (by omega) (by omega)) gX4_evening_X4_playerIs rfl ⟨rfl, rfl⟩ (by decide +kernel) rfl ⟨Nat.le_of_ble_eq_true rfl, Nat.le_of_ble_eq_true rfl⟩ hE trivial hK hP (ci := 4) (q0 := 0) rfl rfl hl.1 rfl (Nat.le_of_ble_eq_true rfl) dX4_evening_54 ⟨Nat.zero_le _, Nat.zero_le _⟩ ?_
                refine nv_cv (show nI ((toS X (upF (barTo X.1 12) 4 (nld (barTo X.1 12)) k)).1 (3 + 1) k) = nI ((upF (barTo X.1 12) 4 (nld (barTo X.1 12)) k) 4 k) from rfl) ?_
                refine nv_cv (show nI ((upF (barTo X.1 12) 4 (nld (barTo X.1 12)) k) 4 k) = nI (barTo X.1 12 4 k) from congrArg nI (upF_at _ _ _ _)) ?_
                refine nv_ifle (tgt := 64) hx hb (by omega) dX4_evening_57 (by decide) (fun c4 => ?_) (fun c4 => ?_)
                · refine lv_iconst (v := nI (0)) hx hb dX4_evening_64 (by decide) ?_
                  refine nv_isub hx hb (by omega) dX4_evening_65 ?_
                  refine nv_iast hx hb hK hP hD hS 1 0 rfl rfl (by omega) (by decide) dX4_evening_66 (fun H locs hP hD hS => ?_)
                  have hP : va_P D vwCl (wN ci am (toS X (st (upF (barTo X.1 12) 4 (nld (barTo X.1 12)) k) 4 k (barTo X.1 12 4 k - 0))) kr q0 q1 q2 q3 q4 q5 iw kn y0 y1 y2 y3 y4 y5 y6) H := va_P.re (wN_now ci am (toS X (upF (barTo X.1 12) 4 (nld (barTo X.1 12)) k)) kr q0 q1 q2 q3 q4 q5 iw kn y0 y1 y2 y3 y4 y5 y6 (25 + 5 * k + 3) (nI ((barTo X.1 12 4 k - 0))) (pku_f (upF (barTo X.1 12) 4 (nld (barTo X.1 12)) k) k (by omega))) hP
                  have hD : va_D (aM am) (wN ci am (toS X (st (upF (barTo X.1 12) 4 (nld (barTo X.1 12)) k) 4 k (barTo X.1 12 4 k - 0))) kr q0 q1 q2 q3 q4 q5 iw kn y0 y1 y2 y3 y4 y5 y6) := wN_D hI
                  refine nv_iinc1 (lv' := [(1, .int (nI (k + 1))), (0, .ref (am 0))]) hx hb dX4_evening_67 hl (k := 0) rfl (by decide) rfl (fun ls hl => ?_)
                  refine lv_goto (tgt := 21) hx hb dX4_evening_70 (by decide) ?_
                  exact ih21 (k + 1) (by omega) (by omega) (nI (k + 1)) rfl (y1) _ _ (va_P.re (by rw [upF_st (by first | (simp [nld, c1, c2, c3, c4]; done) | (simp [nld, c1, c2, c3, c4]; omega))]) hP) hS ls (lv_sub hl [0, 1] rfl)
                · refine lv_iconst (v := nI (1)) hx hb dX4_evening_60 (by decide) ?_
                  refine lv_goto (tgt := 65) hx hb dX4_evening_61 (by decide) ?_
                  refine nv_isub hx hb (by omega) dX4_evening_65 ?_
                  refine nv_iast hx hb hK hP hD hS 1 0 rfl rfl (by omega) (by decide) dX4_evening_66 (fun H locs hP hD hS => ?_)
                  have hP : va_P D vwCl (wN ci am (toS X (st (upF (barTo X.1 12) 4 (nld (barTo X.1 12)) k) 4 k (barTo X.1 12 4 k - 1))) kr q0 q1 q2 q3 q4 q5 iw kn y0 y1 y2 y3 y4 y5 y6) H := va_P.re (wN_now ci am (toS X (upF (barTo X.1 12) 4 (nld (barTo X.1 12)) k)) kr q0 q1 q2 q3 q4 q5 iw kn y0 y1 y2 y3 y4 y5 y6 (25 + 5 * k + 3) (nI ((barTo X.1 12 4 k - 1))) (pku_f (upF (barTo X.1 12) 4 (nld (barTo X.1 12)) k) k (by omega))) hP
                  have hD : va_D (aM am) (wN ci am (toS X (st (upF (barTo X.1 12) 4 (nld (barTo X.1 12)) k) 4 k (barTo X.1 12 4 k - 1))) kr q0 q1 q2 q3 q4 q5 iw kn y0 y1 y2 y3 y4 y5 y6) := wN_D hI
                  refine nv_iinc1 (lv' := [(1, .int (nI (k + 1))), (0, .ref (am 0))]) hx hb dX4_evening_67 hl (k := 0) rfl (by decide) rfl (fun ls hl => ?_)
                  refine lv_goto (tgt := 21) hx hb dX4_evening_70 (by decide) ?_
                  exact ih21 (k + 1) (by omega) (by omega) (nI (k + 1)) rfl (y1) _ _ (va_P.re (by rw [upF_st (by first | (simp [nld, c1, c2, c3, c4]; done) | (simp [nld, c1, c2, c3, c4]; omega))]) hP) hS ls (lv_sub hl [0, 1] rfl)
        exact L21 _ (0) (Nat.lt_succ_self _) (by omega) (nI (0)) rfl (y1) _ _ (va_P.re (by rw [show i = 12 by omega, upF_0]) hP) hS ls (lv_sub hl [0, 1] rfl)
      · refine lv_aload_n hx hb dX4_evening_8 rfl (lv_at hl 1 rfl) ?_
        refine lv_iload_n hx hb dX4_evening_9 rfl (lv_at hl 0 rfl) ?_
        refine mu_V (n := 1) (As := [.int (nI i)]) (rest := []) ⟨hx, hb, hml, hown, hts⟩ (c_X4_playBar l D ci am (toS X (barTo X.1 i)) kr q0 q1 q2 q3 q4 q5 iw kn y0 y1 y2 y3 y4 y5 y6 hI (i) hWFi (by omega)) gX4_evening_X4_playBar rfl ⟨rfl, rfl⟩ (by decide +kernel) rfl ⟨Nat.le_of_ble_eq_true rfl, Nat.le_of_ble_eq_true rfl⟩ hE trivial hK hP (ci := 4) (q0 := 0) rfl rfl hl.1 rfl (Nat.le_of_ble_eq_true rfl) dX4_evening_10 ⟨Nat.zero_le _, Nat.zero_le _⟩ hS (fun _ h => h) (fun H1 locs hz hfr hB hS => ?_)
        obtain ⟨y1_5, hP⟩ := hB
        have hP : va_P D vwCl (wN ci am (toS X (barS (barTo X.1 i) i)) kr q0 q1 q2 q3 q4 q5 iw kn y0 y1_5 y2 y3 y4 y5 y6) H1 := hP
        generalize H1 = H at hP hS ⊢
        have hD : va_D (aM am) (wN ci am (toS X (barS (barTo X.1 i) i)) kr q0 q1 q2 q3 q4 q5 iw kn y0 y1_5 y2 y3 y4 y5 y6) := wN_D hI
        refine nv_iinc1 (lv' := [(1, .int (nI (i + 1))), (0, .ref (am 0))]) hx hb dX4_evening_13 hl (k := 0) rfl (by decide) rfl (fun ls hl => ?_)
        refine lv_goto (tgt := 2) hx hb dX4_evening_16 (by decide) ?_
        exact ih2 (i + 1) (by omega) (by omega) (nI (i + 1)) rfl (y1_5) _ _ (va_P.re (by rfl) hP) hS ls (lv_sub hl [0, 1] rfl)
  exact L2 _ (0) (Nat.lt_succ_self _) (by omega) (nI (0)) rfl (y1) _ _ (va_P.re (by rfl) hP) hS ls (lv_sub hl [0, 1] rfl)

set_option maxHeartbeats 4000000 in
set_option maxRecDepth 100000 in
/-- X4_evenings -/
theorem c_X4_evenings (l : Launch) (D : va_G) (ci : Nat → ClassId) (am : Nat → Nat) (X : AS) (kr : Nat → Int32) (q0 q1 q2 q3 q4 q5 : Int32) (iw : Bool) (kn : Nat → Option Nat) (y0 y1 y2 y3 y4 y5 y6 : Nat → Int32) (hI : injA am 16) (n : Nat) (hWF : WF X.1) (h_n : n ≤ 40) (h_8 : X.1 8 0 + n < 200000) : Met l yX4_evenings wsX4_evenings ({ frames := 9, cells := 0, slots := 0, locals := 206 } : Room) (va_Pc [.ref (am 0), .int (nI n)] (ro_B D (tyL ci) (wN ci am X kr q0 q1 q2 q3 q4 q5 iw kn y0 y1 y2 y3 y4 y5 y6) (enT))) (mu_Q (aM am) (none) (fun H => ∃ (y1 : Nat → Int32), va_P D vwCl (wN ci am (toS X (evMn X.1 n)) kr q0 q1 q2 q3 q4 q5 iw kn y0 y1 y2 y3 y4 y5 y6) H)) 0 0 (aM am) := by
  refine mu_Met (cc := cX4_evenings) (maxL := 3) (ret := none) [(0, .ref (am 0)), (1, .int (nI n))] (wN_D hI) (by decide) rfl (Nat.le_of_ble_eq_true rfl) rfl ?_
  intro p e s m below meth c H locs hx hb hml hr hlocks hts hown hP hK hs0 hD hS ls hl
  have hown : s.vm.findClass RX4 = some m.cls := hown
  have hE := hE_T
  have f_n := hWF.n
  refine lv_iconst (v := nI (0)) hx hb dX4_evenings_0 (by decide) ?_
  refine lv_istore_n (lv' := [(2, .int (nI 0)), (0, .ref (am 0)), (1, .int (nI n))]) hx hb dX4_evenings_1 rfl hl (by decide) rfl (fun ls hl => ?_)
  have L2 : ∀ (k2 : Nat) (i : Nat), n - i < k2 → (i ≤ n) → ∀ (x2 : Int32), x2 = nI (i) → ∀ (y1 : Nat → Int32), ∀ (H : Heap) (locs : List Loc), va_P D vwCl (wN ci am (toS X (evMn X.1 i)) kr q0 q1 q2 q3 q4 q5 iw kn y0 y1 y2 y3 y4 y5 y6) H → va_S (aM am) s.heap H locs → ∀ ls : Array Slot, lv_has ls 3 [(2, .int (x2)), (0, .ref (am 0)), (1, .int (nI n))] → W p l e (headSpec wsX4_evenings ({ frames := 9, cells := 0, slots := 0, locals := 206 } : Room)).room s m ([.ref (am 0), .int (nI n)] : List Value).toArray below meth c H locs 0 0 (MQ below (mu_Q (aM am) (none) (fun H => ∃ (y1 : Nat → Int32), va_P D vwCl (wN ci am (toS X (evMn X.1 n)) kr q0 q1 q2 q3 q4 q5 iw kn y0 y1 y2 y3 y4 y5 y6) H)) ([.ref (am 0), .int (nI n)] : List Value).toArray s 0 0 (aM am)) (F0 m 2 ls []) := by
    intro k2
    induction k2 with
    | zero => intro i h0; exact absurd h0 (Nat.not_lt_zero _)
    | succ k2 ih2 =>
      intro i hk2 h_i x2 e2 y1 H locs hP hS ls hl
      subst e2
      have hD : va_D (aM am) (wN ci am (toS X (evMn X.1 i)) kr q0 q1 q2 q3 q4 q5 iw kn y0 y1 y2 y3 y4 y5 y6) := wN_D hI
      have hWFi := WF_evMn hWF i (by omega)
      have f_8 := evMn_8 X.1 i
      refine lv_iload_n hx hb dX4_evenings_2 rfl (lv_at hl 0 rfl) ?_
      refine lv_iload_n hx hb dX4_evenings_3 rfl (lv_at hl 2 rfl) ?_
      refine nv_icmp_ge (tgt := 17) hx hb (by omega) (by omega) dX4_evenings_4 (by decide) (fun c1 => ?_) (fun c1 => ?_)
      · exact mu_vret hx hb hr hlocks hS ((by rw [show i = n by omega] at hP; exact ⟨_, hP⟩)) dX4_evenings_17
      · refine lv_aload_n hx hb dX4_evenings_7 rfl (lv_at hl 1 rfl) ?_
        refine mu_V (n := 0) (As := []) (rest := []) ⟨hx, hb, hml, hown, hts⟩ (c_X4_evening l D ci am (toS X (evMn X.1 i)) kr q0 q1 q2 q3 q4 q5 iw kn y0 y1 y2 y3 y4 y5 y6 hI  hWFi (show evMn X.1 i 8 0 < 199999 by omega)) gX4_evenings_X4_evening rfl ⟨rfl, rfl⟩ (by decide +kernel) rfl ⟨Nat.le_of_ble_eq_true rfl, Nat.le_of_ble_eq_true rfl⟩ hE trivial hK hP (ci := 4) (q0 := 0) rfl rfl hl.1 rfl (Nat.le_of_ble_eq_true rfl) dX4_evenings_8 ⟨Nat.zero_le _, Nat.zero_le _⟩ hS (fun _ h => h) (fun H1 locs hz hfr hB hS => ?_)
        obtain ⟨y1_2, hP⟩ := hB
        have hP : va_P D vwCl (wN ci am (toS X (evM (evMn X.1 i))) kr q0 q1 q2 q3 q4 q5 iw kn y0 y1_2 y2 y3 y4 y5 y6) H1 := hP
        generalize H1 = H at hP hS ⊢
        have hD : va_D (aM am) (wN ci am (toS X (evM (evMn X.1 i))) kr q0 q1 q2 q3 q4 q5 iw kn y0 y1_2 y2 y3 y4 y5 y6) := wN_D hI
        refine nv_iinc1 (lv' := [(2, .int (nI (i + 1))), (0, .ref (am 0)), (1, .int (nI n))]) hx hb dX4_evenings_11 hl (k := 0) rfl (by decide) rfl (fun ls hl => ?_)
        refine lv_goto (tgt := 2) hx hb dX4_evenings_14 (by decide) ?_
        exact ih2 (i + 1) (by omega) (by omega) (nI (i + 1)) rfl (y1_2) _ _ (va_P.re (by rfl) hP) hS ls (lv_sub hl [0, 1, 2] rfl)
  exact L2 _ (0) (Nat.lt_succ_self _) (by omega) (nI (0)) rfl (y1) _ _ (va_P.re (by rfl) hP) hS ls (lv_sub hl [0, 1, 2] rfl)

set_option maxHeartbeats 4000000 in
set_option maxRecDepth 100000 in
/-- X4_sumOf -/
theorem c_X4_sumOf (l : Launch) (D : va_G) (ci : Nat → ClassId) (am : Nat → Nat) (X : AS) (kr : Nat → Int32) (q0 q1 q2 q3 q4 q5 : Int32) (iw : Bool) (kn : Nat → Option Nat) (y0 y1 y2 y3 y4 y5 y6 : Nat → Int32) (f : Nat) (hWF : WF X.1) (h_f : f < 5) : Met l yX4_sumOf wsX4_sumOf ({ frames := 2, cells := 0, slots := 0, locals := 43 } : Room) (va_Pc [.ref (am 0), .int (nI f)] (ro_B D (tyL ci) (wN ci am X kr q0 q1 q2 q3 q4 q5 iw kn y0 y1 y2 y3 y4 y5 y6) (enT))) (ro_Q (some (.int (nI (sumTo (fun q => X.1 (f + 1) q) (X.1 7 0)))))) 0 0 (fun _ => False) := by
  refine ro_Met (cc := cX4_sumOf) (maxL := 4) (ret := (some .int)) [(0, .ref (am 0)), (1, .int (nI f))] (by decide) rfl (Nat.le_of_ble_eq_true rfl) rfl ?_
  intro p e s m below meth c hx hb hml hr hlocks hts hown hP hK hs ls hl
  have hown : s.vm.findClass RX4 = some m.cls := hown
  have hinX4 : ∀ w ∈ wsX40, w ∈ wsX4_sumOf := by decide +kernel
  have hE := hE_T
  have f_n := hWF.n
  refine lv_iconst (v := nI (0)) hx hb dX4_sumOf_0 (by decide) ?_
  refine lv_istore_n (lv' := [(2, .int (nI 0)), (0, .ref (am 0)), (1, .int (nI f))]) hx hb dX4_sumOf_1 rfl hl (by decide) rfl (fun ls hl => ?_)
  refine lv_iconst (v := nI (0)) hx hb dX4_sumOf_2 (by decide) ?_
  refine lv_istore_n (lv' := [(3, .int (nI 0)), (2, .int (nI 0)), (0, .ref (am 0)), (1, .int (nI f))]) hx hb dX4_sumOf_3 rfl hl (by decide) rfl (fun ls hl => ?_)
  have L4 : ∀ (k4 : Nat) (i : Nat), X.1 7 0 - i < k4 → (i ≤ X.1 7 0) → ∀ (x2 x3 : Int32), x2 = nI (sumTo (fun q => X.1 (f + 1) q) (i)) → x3 = nI (i) → ∀ ls : Array Slot, lv_has ls 4 [(2, .int (x2)), (3, .int (x3)), (0, .ref (am 0)), (1, .int (nI f))] → W p l e (headSpec wsX4_sumOf ({ frames := 2, cells := 0, slots := 0, locals := 43 } : Room)).room s m ([.ref (am 0), .int (nI f)] : List Value).toArray below meth c s.heap [] 0 0 (MQ below (ro_Q (some (.int (nI (sumTo (fun q => X.1 (f + 1) q) (X.1 7 0)))))) ([.ref (am 0), .int (nI f)] : List Value).toArray s 0 0 (fun _ => False)) (F0 m 4 ls []) := by
    intro k4
    induction k4 with
    | zero => intro i h0; exact absurd h0 (Nat.not_lt_zero _)
    | succ k4 ih4 =>
      intro i hk4 h_i x2 x3 e2 e3 ls hl
      subst e2
      subst e3
      refine lv_iload_n hx hb dX4_sumOf_4 rfl (lv_at hl 1 rfl) ?_
      refine lv_aload_n hx hb dX4_sumOf_5 rfl (lv_at hl 2 rfl) ?_
      refine va_get (D := D) (ci := 4) (v := .ref (am 1)) (C := RX4) (T := TX4) (N := 24) hx hb hts hinX4 hown hK hP 0 rfl rfl 0 (by decide) (hts (.fieldLink RX4 9 "OneShortModel" "now" "[I") (List.mem_of_getElem? (i := 1) rfl)) (fun _ h9 => h9) rfl dX4_sumOf_6 ?_
      refine lv_iconst (v := nI (1)) hx hb dX4_sumOf_9 (by decide) ?_
      refine nv_iald (v := nI (X.1 7 0)) hx hb hK hP 1 0 rfl rfl (by omega) (by decide) (pk_n X.1) dX4_sumOf_10 ?_
      refine nv_icmp_ge (tgt := 29) hx hb (by omega) (by omega) dX4_sumOf_11 (by decide) (fun c1 => ?_) (fun c1 => ?_)
      · refine lv_iload_n hx hb dX4_sumOf_29 rfl (lv_at hl 0 rfl) ?_
        refine nv_cv (show nI (sumTo (fun q => X.1 (f + 1) q) (i)) = nI (sumTo (fun q => X.1 (f + 1) q) (X.1 7 0)) from nv_e (by rw [show X.1 7 0 = i by omega])) ?_
        exact ro_iret hx hb hr hlocks dX4_sumOf_30
      · refine lv_iload_n hx hb dX4_sumOf_14 rfl (lv_at hl 0 rfl) ?_
        refine lv_aload_n hx hb dX4_sumOf_15 rfl (lv_at hl 2 rfl) ?_
        refine lv_iload_n hx hb dX4_sumOf_16 rfl (lv_at hl 1 rfl) ?_
        refine lv_iload_n hx hb dX4_sumOf_17 rfl (lv_at hl 3 rfl) ?_
        refine ro_V (n := 2) (As := [.int (nI i), .int (nI f)]) (rest := [.int (nI (sumTo (fun q => X.1 (f + 1) q) (i)))]) ⟨hx, hb, hml, hown, hts⟩ (c_X4_playerIs l D ci am X kr q0 q1 q2 q3 q4 q5 iw kn y0 y1 y2 y3 y4 y5 y6 (i) (f) hWF (by omega) (by omega)) gX4_sumOf_X4_playerIs rfl ⟨rfl, rfl⟩ (by decide +kernel) rfl ⟨Nat.le_of_ble_eq_true rfl, Nat.le_of_ble_eq_true rfl⟩ hE hs hK hP (ci := 4) (q0 := 0) rfl rfl hl.1 rfl (Nat.le_of_ble_eq_true rfl) dX4_sumOf_18 ⟨Nat.zero_le _, Nat.zero_le _⟩ ?_
        refine nv_iadd hx hb dX4_sumOf_21 ?_
        refine lv_istore_n (lv' := [(2, .int (nI ((sumTo (fun q => X.1 (f + 1) q) (i) + X.1 (f + 1) i)))), (3, .int (nI i)), (0, .ref (am 0)), (1, .int (nI f))]) hx hb dX4_sumOf_22 rfl hl (by decide) rfl (fun ls hl => ?_)
        refine nv_iinc1 (lv' := [(3, .int (nI (i + 1))), (2, .int (nI ((sumTo (fun q => X.1 (f + 1) q) (i) + X.1 (f + 1) i)))), (0, .ref (am 0)), (1, .int (nI f))]) hx hb dX4_sumOf_23 hl (k := 1) rfl (by decide) rfl (fun ls hl => ?_)
        refine lv_goto (tgt := 4) hx hb dX4_sumOf_26 (by decide) ?_
        exact ih4 (i + 1) (by omega) (by omega) (nI ((sumTo (fun q => X.1 (f + 1) q) (i) + X.1 (f + 1) i))) (nI (i + 1)) (nv_e (by rfl)) rfl ls (lv_sub hl [1, 0, 2, 3] rfl)
  exact L4 _ (0) (Nat.lt_succ_self _) (by omega) (nI (0)) (nI (0)) rfl rfl ls (lv_sub hl [1, 0, 2, 3] rfl)

set_option maxHeartbeats 4000000 in
set_option maxRecDepth 100000 in
/-- X4_downNow -/
theorem c_X4_downNow (l : Launch) (D : va_G) (ci : Nat → ClassId) (am : Nat → Nat) (X : AS) (kr : Nat → Int32) (q0 q1 q2 q3 q4 q5 : Int32) (iw : Bool) (kn : Nat → Option Nat) (y0 y1 y2 y3 y4 y5 y6 : Nat → Int32)  (hWF : WF X.1) : Met l yX4_downNow wsX4_downNow ({ frames := 2, cells := 0, slots := 0, locals := 43 } : Room) (va_Pc [.ref (am 0)] (ro_B D (tyL ci) (wN ci am X kr q0 q1 q2 q3 q4 q5 iw kn y0 y1 y2 y3 y4 y5 y6) (enT))) (ro_Q (some (.int (nI (unner X.1))))) 0 0 (fun _ => False) := by
  refine ro_Met (cc := cX4_downNow) (maxL := 3) (ret := (some .int)) [(0, .ref (am 0))] (by decide) rfl (Nat.le_of_ble_eq_true rfl) rfl ?_
  intro p e s m below meth c hx hb hml hr hlocks hts hown hP hK hs ls hl
  have hown : s.vm.findClass RX4 = some m.cls := hown
  have hinX4 : ∀ w ∈ wsX40, w ∈ wsX4_downNow := by decide +kernel
  have hE := hE_T
  have f_n := hWF.n
  refine lv_iconst (v := nI (0)) hx hb dX4_downNow_0 (by decide) ?_
  refine lv_istore_n (lv' := [(1, .int (nI 0)), (0, .ref (am 0))]) hx hb dX4_downNow_1 rfl hl (by decide) rfl (fun ls hl => ?_)
  refine lv_iconst (v := nI (0)) hx hb dX4_downNow_2 (by decide) ?_
  refine lv_istore_n (lv' := [(2, .int (nI 0)), (1, .int (nI 0)), (0, .ref (am 0))]) hx hb dX4_downNow_3 rfl hl (by decide) rfl (fun ls hl => ?_)
  have L4 : ∀ (k4 : Nat) (i : Nat), X.1 7 0 - i < k4 → (i ≤ X.1 7 0) → ∀ (x1 x2 : Int32), x1 = nI (setTo (fun q => X.1 5 q == 0) (i)) → x2 = nI (i) → ∀ ls : Array Slot, lv_has ls 3 [(1, .int (x1)), (2, .int (x2)), (0, .ref (am 0))] → W p l e (headSpec wsX4_downNow ({ frames := 2, cells := 0, slots := 0, locals := 43 } : Room)).room s m ([.ref (am 0)] : List Value).toArray below meth c s.heap [] 0 0 (MQ below (ro_Q (some (.int (nI (unner X.1))))) ([.ref (am 0)] : List Value).toArray s 0 0 (fun _ => False)) (F0 m 4 ls []) := by
    intro k4
    induction k4 with
    | zero => intro i h0; exact absurd h0 (Nat.not_lt_zero _)
    | succ k4 ih4 =>
      intro i hk4 h_i x1 x2 e1 e2 ls hl
      subst e1
      subst e2
      refine lv_iload_n hx hb dX4_downNow_4 rfl (lv_at hl 1 rfl) ?_
      refine lv_aload_n hx hb dX4_downNow_5 rfl (lv_at hl 2 rfl) ?_
      refine va_get (D := D) (ci := 4) (v := .ref (am 1)) (C := RX4) (T := TX4) (N := 24) hx hb hts hinX4 hown hK hP 0 rfl rfl 0 (by decide) (hts (.fieldLink RX4 9 "OneShortModel" "now" "[I") (List.mem_of_getElem? (i := 1) rfl)) (fun _ h9 => h9) rfl dX4_downNow_6 ?_
      refine lv_iconst (v := nI (1)) hx hb dX4_downNow_9 (by decide) ?_
      refine nv_iald (v := nI (X.1 7 0)) hx hb hK hP 1 0 rfl rfl (by omega) (by decide) (pk_n X.1) dX4_downNow_10 ?_
      refine nv_icmp_ge (tgt := 39) hx hb (by omega) (by omega) dX4_downNow_11 (by decide) (fun c1 => ?_) (fun c1 => ?_)
      · refine lv_iload_n hx hb dX4_downNow_39 rfl (lv_at hl 0 rfl) ?_
        refine nv_cv (show nI (setTo (fun q => X.1 5 q == 0) (i)) = nI (unner X.1) from nv_e (by rw [unner, show X.1 7 0 = i by omega])) ?_
        exact ro_iret hx hb hr hlocks dX4_downNow_40
      · refine lv_iload_n hx hb dX4_downNow_14 rfl (lv_at hl 0 rfl) ?_
        refine lv_aload_n hx hb dX4_downNow_15 rfl (lv_at hl 2 rfl) ?_
        refine lv_iload_n hx hb dX4_downNow_16 rfl (lv_at hl 1 rfl) ?_
        refine lv_iconst (v := nI (4)) hx hb dX4_downNow_17 (by decide) ?_
        refine ro_V (n := 2) (As := [.int (nI i), .int (nI 4)]) (rest := [.int (nI (setTo (fun q => X.1 5 q == 0) (i)))]) ⟨hx, hb, hml, hown, hts⟩ (c_X4_playerIs l D ci am X kr q0 q1 q2 q3 q4 q5 iw kn y0 y1 y2 y3 y4 y5 y6 (i) (4) hWF (by omega) (by omega)) gX4_downNow_X4_playerIs rfl ⟨rfl, rfl⟩ (by decide +kernel) rfl ⟨Nat.le_of_ble_eq_true rfl, Nat.le_of_ble_eq_true rfl⟩ hE hs hK hP (ci := 4) (q0 := 0) rfl rfl hl.1 rfl (Nat.le_of_ble_eq_true rfl) dX4_downNow_18 ⟨Nat.zero_le _, Nat.zero_le _⟩ ?_
        refine nv_cv (show nI (X.1 (4 + 1) i) = nI (X.1 5 i) from rfl) ?_
        have f2 := hWF.f5 i
        refine nv_ifne (tgt := 30) hx hb (by omega) dX4_downNow_21 (by decide) (fun c3 => ?_) (fun c3 => ?_)
        · refine lv_iconst (v := nI (0)) hx hb dX4_downNow_30 (by decide) ?_
          refine nv_ior hx hb dX4_downNow_31 ?_
          refine lv_istore_n (lv' := [(1, .int (nI ((setTo (fun q => X.1 5 q == 0) (i) ||| 0)))), (2, .int (nI i)), (0, .ref (am 0))]) hx hb dX4_downNow_32 rfl hl (by decide) rfl (fun ls hl => ?_)
          refine nv_iinc1 (lv' := [(2, .int (nI (i + 1))), (1, .int (nI ((setTo (fun q => X.1 5 q == 0) (i) ||| 0)))), (0, .ref (am 0))]) hx hb dX4_downNow_33 hl (k := 1) rfl (by decide) rfl (fun ls hl => ?_)
          refine lv_goto (tgt := 4) hx hb dX4_downNow_36 (by decide) ?_
          exact ih4 (i + 1) (by omega) (by omega) (nI ((setTo (fun q => X.1 5 q == 0) (i) ||| 0))) (nI (i + 1)) (nv_e (by first | exact setTo_t (by simp [c1, c3]) | exact setTo_f0 (by simp [c1, c3]))) rfl ls (lv_sub hl [1, 0, 2] rfl)
        · refine lv_iconst (v := nI (1)) hx hb dX4_downNow_24 (by decide) ?_
          refine lv_iload_n hx hb dX4_downNow_25 rfl (lv_at hl 1 rfl) ?_
          refine nv_ishl hx hb (by omega) dX4_downNow_26 ?_
          refine lv_goto (tgt := 31) hx hb dX4_downNow_27 (by decide) ?_
          refine nv_ior hx hb dX4_downNow_31 ?_
          refine lv_istore_n (lv' := [(1, .int (nI ((setTo (fun q => X.1 5 q == 0) (i) ||| (1 * 2 ^ (i)))))), (2, .int (nI i)), (0, .ref (am 0))]) hx hb dX4_downNow_32 rfl hl (by decide) rfl (fun ls hl => ?_)
          refine nv_iinc1 (lv' := [(2, .int (nI (i + 1))), (1, .int (nI ((setTo (fun q => X.1 5 q == 0) (i) ||| (1 * 2 ^ (i)))))), (0, .ref (am 0))]) hx hb dX4_downNow_33 hl (k := 1) rfl (by decide) rfl (fun ls hl => ?_)
          refine lv_goto (tgt := 4) hx hb dX4_downNow_36 (by decide) ?_
          exact ih4 (i + 1) (by omega) (by omega) (nI ((setTo (fun q => X.1 5 q == 0) (i) ||| (1 * 2 ^ (i))))) (nI (i + 1)) (nv_e (by first | exact setTo_t (by simp [c1, c3]) | exact setTo_f0 (by simp [c1, c3]))) rfl ls (lv_sub hl [1, 0, 2] rfl)
  exact L4 _ (0) (Nat.lt_succ_self _) (by omega) (nI (0)) (nI (0)) rfl rfl ls (lv_sub hl [1, 0, 2] rfl)

set_option maxHeartbeats 4000000 in
set_option maxRecDepth 100000 in
/-- X4_heardNow -/
theorem c_X4_heardNow (l : Launch) (D : va_G) (ci : Nat → ClassId) (am : Nat → Nat) (X : AS) (kr : Nat → Int32) (q0 q1 q2 q3 q4 q5 : Int32) (iw : Bool) (kn : Nat → Option Nat) (y0 y1 y2 y3 y4 y5 y6 : Nat → Int32)  (hWF : WF X.1) : Met l yX4_heardNow wsX4_heardNow ({ frames := 6, cells := 0, slots := 0, locals := 139 } : Room) (va_Pc [.ref (am 0)] (ro_B D (tyL ci) (wN ci am X kr q0 q1 q2 q3 q4 q5 iw kn y0 y1 y2 y3 y4 y5 y6) (enT))) (ro_Q (some (.int (nI (heardAll X.1))))) 0 0 (fun _ => False) := by
  refine ro_Met (cc := cX4_heardNow) (maxL := 4) (ret := (some .int)) [(0, .ref (am 0))] (by decide) rfl (Nat.le_of_ble_eq_true rfl) rfl ?_
  intro p e s m below meth c hx hb hml hr hlocks hts hown hP hK hs ls hl
  have hown : s.vm.findClass RX4 = some m.cls := hown
  have hE := hE_T
  have f_n := hWF.n
  refine lv_iconst (v := nI (0)) hx hb dX4_heardNow_0 (by decide) ?_
  refine lv_istore_n (lv' := [(1, .int (nI 0)), (0, .ref (am 0))]) hx hb dX4_heardNow_1 rfl hl (by decide) rfl (fun ls hl => ?_)
  refine lv_iconst (v := nI (0)) hx hb dX4_heardNow_2 (by decide) ?_
  refine lv_istore_n (lv' := [(2, .int (nI 0)), (1, .int (nI 0)), (0, .ref (am 0))]) hx hb dX4_heardNow_3 rfl hl (by decide) rfl (fun ls hl => ?_)
  have L4 : ∀ (k4 : Nat) (i : Nat), 12 - i < k4 → (i ≤ 12) → ∀ (x1 x2 : Int32), x1 = nI (sumTo (fun bb => sumTo (fun se => great X.1 se (playIn X.1 bb)) 16) (i)) → x2 = nI (i) → ∀ ls : Array Slot, lv_has ls 4 [(1, .int (x1)), (2, .int (x2)), (0, .ref (am 0))] → W p l e (headSpec wsX4_heardNow ({ frames := 6, cells := 0, slots := 0, locals := 139 } : Room)).room s m ([.ref (am 0)] : List Value).toArray below meth c s.heap [] 0 0 (MQ below (ro_Q (some (.int (nI (heardAll X.1))))) ([.ref (am 0)] : List Value).toArray s 0 0 (fun _ => False)) (F0 m 4 ls []) := by
    intro k4
    induction k4 with
    | zero => intro i h0; exact absurd h0 (Nat.not_lt_zero _)
    | succ k4 ih4 =>
      intro i hk4 h_i x1 x2 e1 e2 ls hl
      subst e1
      subst e2
      refine lv_iload_n hx hb dX4_heardNow_4 rfl (lv_at hl 1 rfl) ?_
      refine lv_bipush (v := nI (12)) hx hb dX4_heardNow_5 (by decide) ?_
      refine nv_icmp_ge (tgt := 43) hx hb (by omega) (by omega) dX4_heardNow_7 (by decide) (fun c1 => ?_) (fun c1 => ?_)
      · refine lv_iload_n hx hb dX4_heardNow_43 rfl (lv_at hl 0 rfl) ?_
        refine nv_cv (show nI (sumTo (fun bb => sumTo (fun se => great X.1 se (playIn X.1 bb)) 16) (i)) = nI (heardAll X.1) from nv_e (by rw [heardAll, show i = 12 by omega])) ?_
        exact ro_iret hx hb hr hlocks dX4_heardNow_44
      · refine lv_iconst (v := nI (0)) hx hb dX4_heardNow_10 (by decide) ?_
        refine lv_istore_n (lv' := [(3, .int (nI 0)), (1, .int (nI (sumTo (fun bb => sumTo (fun se => great X.1 se (playIn X.1 bb)) 16) (i)))), (2, .int (nI i)), (0, .ref (am 0))]) hx hb dX4_heardNow_11 rfl hl (by decide) rfl (fun ls hl => ?_)
        have L12 : ∀ (k12 : Nat) (j : Nat), 16 - j < k12 → (j ≤ 16) → ∀ (x1 x3 : Int32), x1 = nI ((sumTo (fun bb => sumTo (fun se => great X.1 se (playIn X.1 bb)) 16) (i) + sumTo (fun se => great X.1 se (playIn X.1 i)) (j))) → x3 = nI (j) → ∀ ls : Array Slot, lv_has ls 4 [(1, .int (x1)), (3, .int (x3)), (2, .int (nI i)), (0, .ref (am 0))] → W p l e (headSpec wsX4_heardNow ({ frames := 6, cells := 0, slots := 0, locals := 139 } : Room)).room s m ([.ref (am 0)] : List Value).toArray below meth c s.heap [] 0 0 (MQ below (ro_Q (some (.int (nI (heardAll X.1))))) ([.ref (am 0)] : List Value).toArray s 0 0 (fun _ => False)) (F0 m 12 ls []) := by
          intro k12
          induction k12 with
          | zero => intro j h0; exact absurd h0 (Nat.not_lt_zero _)
          | succ k12 ih12 =>
            intro j hk12 h_j x1 x3 e1 e3 ls hl
            subst e1
            subst e3
            refine lv_iload_n hx hb dX4_heardNow_12 rfl (lv_at hl 1 rfl) ?_
            refine lv_bipush (v := nI (16)) hx hb dX4_heardNow_13 (by decide) ?_
            refine nv_icmp_ge (tgt := 37) hx hb (by omega) (by omega) dX4_heardNow_15 (by decide) (fun c2 => ?_) (fun c2 => ?_)
            · refine nv_iinc1 (lv' := [(2, .int (nI (i + 1))), (1, .int (nI ((sumTo (fun bb => sumTo (fun se => great X.1 se (playIn X.1 bb)) 16) (i) + sumTo (fun se => great X.1 se (playIn X.1 i)) (j))))), (3, .int (nI j)), (0, .ref (am 0))]) hx hb dX4_heardNow_37 hl (k := 2) rfl (by decide) rfl (fun ls hl => ?_)
              refine lv_goto (tgt := 4) hx hb dX4_heardNow_40 (by decide) ?_
              exact ih4 (i + 1) (by omega) (by omega) (nI ((sumTo (fun bb => sumTo (fun se => great X.1 se (playIn X.1 bb)) 16) (i) + sumTo (fun se => great X.1 se (playIn X.1 i)) (j)))) (nI (i + 1)) (nv_e (by rw [show j = 16 by omega]; rfl)) rfl ls (lv_sub hl [1, 0, 3] rfl)
            · refine lv_iload_n hx hb dX4_heardNow_18 rfl (lv_at hl 0 rfl) ?_
              refine lv_aload_n hx hb dX4_heardNow_19 rfl (lv_at hl 3 rfl) ?_
              refine lv_aload_n hx hb dX4_heardNow_20 rfl (lv_at hl 3 rfl) ?_
              refine ro_V (n := 0) (As := []) (rest := [.ref (am 0), .int (nI ((sumTo (fun bb => sumTo (fun se => great X.1 se (playIn X.1 bb)) 16) (i) + sumTo (fun se => great X.1 se (playIn X.1 i)) (j))))]) ⟨hx, hb, hml, hown, hts⟩ (c_X4_everybody l D ci am X kr q0 q1 q2 q3 q4 q5 iw kn y0 y1 y2 y3 y4 y5 y6  hWF) gX4_heardNow_X4_everybody rfl ⟨rfl, rfl⟩ (by decide +kernel) rfl ⟨Nat.le_of_ble_eq_true rfl, Nat.le_of_ble_eq_true rfl⟩ hE hs hK hP (ci := 4) (q0 := 0) rfl rfl hl.1 rfl (Nat.le_of_ble_eq_true rfl) dX4_heardNow_21 ⟨Nat.zero_le _, Nat.zero_le _⟩ ?_
              have f3 := evb_lt hWF.n
              refine lv_iload_n hx hb dX4_heardNow_24 rfl (lv_at hl 1 rfl) ?_
              refine lv_iload_n hx hb dX4_heardNow_25 rfl (lv_at hl 2 rfl) ?_
              refine ro_V (n := 3) (As := [.int (nI ((1 * 2 ^ X.1 7 0 - 1))), .int (nI j), .int (nI i)]) (rest := [.int (nI ((sumTo (fun bb => sumTo (fun se => great X.1 se (playIn X.1 bb)) 16) (i) + sumTo (fun se => great X.1 se (playIn X.1 i)) (j))))]) ⟨hx, hb, hml, hown, hts⟩ (c_X4_heardOf l D ci am X kr q0 q1 q2 q3 q4 q5 iw kn y0 y1 y2 y3 y4 y5 y6 ((1 * 2 ^ X.1 7 0 - 1)) (j) (i) hWF (by omega) (by omega) (by omega)) gX4_heardNow_X4_heardOf rfl ⟨rfl, rfl⟩ (by decide +kernel) rfl ⟨Nat.le_of_ble_eq_true rfl, Nat.le_of_ble_eq_true rfl⟩ hE hs hK hP (ci := 4) (q0 := 0) rfl rfl hl.1 rfl (Nat.le_of_ble_eq_true rfl) dX4_heardNow_26 ⟨Nat.zero_le _, Nat.zero_le _⟩ ?_
              have f4 := great_lt' hWF (j) ((1 * 2 ^ X.1 7 0 - 1) &&& playIn X.1 (i))
              refine nv_iadd hx hb dX4_heardNow_29 ?_
              refine lv_istore_n (lv' := [(1, .int (nI (((sumTo (fun bb => sumTo (fun se => great X.1 se (playIn X.1 bb)) 16) (i) + sumTo (fun se => great X.1 se (playIn X.1 i)) (j)) + great X.1 j ((1 * 2 ^ X.1 7 0 - 1) &&& playIn X.1 i))))), (3, .int (nI j)), (2, .int (nI i)), (0, .ref (am 0))]) hx hb dX4_heardNow_30 rfl hl (by decide) rfl (fun ls hl => ?_)
              refine nv_iinc1 (lv' := [(3, .int (nI (j + 1))), (1, .int (nI (((sumTo (fun bb => sumTo (fun se => great X.1 se (playIn X.1 bb)) 16) (i) + sumTo (fun se => great X.1 se (playIn X.1 i)) (j)) + great X.1 j ((1 * 2 ^ X.1 7 0 - 1) &&& playIn X.1 i))))), (2, .int (nI i)), (0, .ref (am 0))]) hx hb dX4_heardNow_31 hl (k := 1) rfl (by decide) rfl (fun ls hl => ?_)
              refine lv_goto (tgt := 12) hx hb dX4_heardNow_34 (by decide) ?_
              exact ih12 (j + 1) (by omega) (by omega) (nI (((sumTo (fun bb => sumTo (fun se => great X.1 se (playIn X.1 bb)) 16) (i) + sumTo (fun se => great X.1 se (playIn X.1 i)) (j)) + great X.1 j ((1 * 2 ^ X.1 7 0 - 1) &&& playIn X.1 i)))) (nI (j + 1)) (nv_e (by rw [evb_and, Nat.add_assoc]; rfl)) rfl ls (lv_sub hl [1, 0, 2, 3] rfl)
        exact L12 _ (0) (Nat.lt_succ_self _) (by omega) (nI (sumTo (fun bb => sumTo (fun se => great X.1 se (playIn X.1 bb)) 16) (i))) (nI (0)) rfl rfl ls (lv_sub hl [1, 0, 2, 3] rfl)
  exact L4 _ (0) (Nat.lt_succ_self _) (by omega) (nI (0)) (nI (0)) rfl rfl ls (lv_sub hl [1, 0, 2] rfl)
