/-! walks laid by program -/
set_option maxHeartbeats 4000000 in
set_option maxRecDepth 100000 in
/-- X4_fewest -/
theorem c_X4_fewest (l : Launch) (D : va_G) (ci : Nat → ClassId) (am : Nat → Nat) (X : AS) (kr : Nat → Int32) (q0 q1 q2 q3 q4 q5 : Int32) (iw : Bool) (kn : Nat → Option Nat) (y0 y1 y2 y3 y4 y5 y6 : Nat → Int32) (hI : injA am 16)  (hWX : WFX X) (hkr : kOK X kr) : Met l yX4_fewest wsX4_fewest ({ frames := 7, cells := 0, slots := 0, locals := 163 } : Room) (va_Pc [.ref (am 0)] (ro_B D (tyL ci) (wN ci am X kr q0 q1 q2 q3 q4 q5 iw kn y0 y1 y2 y3 y4 y5 y6) (enT))) (mu_Q (aM am) (some (.int ((p_fewest X).1))) (fun H => ∃ (kr : Nat → Int32) (q0 : Int32) (q1 : Int32) (q2 : Int32) (q3 : Int32) (q4 : Int32) (q5 : Int32) (iw : Bool) (y0 : Nat → Int32) (y1 : Nat → Int32) (y2 : Nat → Int32) (y3 : Nat → Int32) (y4 : Nat → Int32) (y5 : Nat → Int32) (y6 : Nat → Int32), kOK (p_fewest X).2 kr ∧ va_P D vwCl (wN ci am ((p_fewest X).2) kr q0 q1 q2 q3 q4 q5 iw kn y0 y1 y2 y3 y4 y5 y6) H)) 0 0 (aM am) := by
  refine mu_Met (cc := cX4_fewest) (maxL := 3) (ret := (some .int)) [(0, .ref (am 0))] (wN_D hI) (by decide) rfl (Nat.le_of_ble_eq_true rfl) rfl ?_
  intro p e s m below meth c H locs hx hb hml hr hlocks hts hown hP hK hs0 hD hS ls hl
  have hown : s.vm.findClass RX4 = some m.cls := hown
  have hE := hE_T
  have hWF := hWX.w
  have f_n := hWF.n
  have f_e := hWX.e
  have f_tl := hWX.t
  have f_ev := two_le hWF.n
  have f_ev0 := two_pos (X.1 7 0)
  refine lv_aload_n hx hb dX4_fewest_0 rfl (lv_at hl 0 rfl) ?_
  refine mu_V (n := 0) (As := []) (rest := []) ⟨hx, hb, hml, hown, hts⟩ (c_X4_hearAll l D ci am X kr q0 q1 q2 q3 q4 q5 iw kn y0 y1 y2 y3 y4 y5 y6 hI  hWF) gX4_fewest_X4_hearAll rfl ⟨rfl, rfl⟩ (by decide +kernel) rfl ⟨Nat.le_of_ble_eq_true rfl, Nat.le_of_ble_eq_true rfl⟩ hE trivial hK hP (ci := 4) (q0 := 0) rfl rfl hl.1 rfl (Nat.le_of_ble_eq_true rfl) dX4_fewest_1 ⟨Nat.zero_le _, Nat.zero_le _⟩ hS (fun _ h => h) (fun H1 locs hz hfr hB hS => ?_)
  obtain ⟨y2_1, h_ex, hP⟩ := hB
  have hP : va_P D vwCl (wN ci am X kr q0 q1 q2 q3 q4 q5 iw kn y0 y1 y2_1 y3 y4 y5 y6) H1 := hP
  generalize H1 = H at hP hS ⊢
  have hD : va_D (aM am) (wN ci am X kr q0 q1 q2 q3 q4 q5 iw kn y0 y1 y2_1 y3 y4 y5 y6) := wN_D hI
  refine lv_aload_n hx hb dX4_fewest_4 rfl (lv_at hl 0 rfl) ?_
  refine ro_V (n := 0) (As := []) (rest := []) ⟨hx, hb, hml, hown, hts⟩ (c_X4_everybody l D ci am X kr q0 q1 q2 q3 q4 q5 iw kn y0 y1 y2_1 y3 y4 y5 y6  hWF) gX4_fewest_X4_everybody rfl ⟨rfl, rfl⟩ (by decide +kernel) rfl ⟨Nat.le_of_ble_eq_true rfl, Nat.le_of_ble_eq_true rfl⟩ hE trivial hK hP (ci := 4) (q0 := 0) rfl rfl hl.1 rfl (Nat.le_of_ble_eq_true rfl) dX4_fewest_5 ⟨Nat.zero_le _, Nat.zero_le _⟩ ?_
  have f2 := evb_lt hWF.n
  refine lv_istore_n (lv' := [(1, .int (nI ((1 * 2 ^ X.1 7 0 - 1)))), (0, .ref (am 0))]) hx hb dX4_fewest_8 rfl hl (by decide) rfl (fun ls hl => ?_)
  refine lv_aload_n hx hb dX4_fewest_9 rfl (lv_at hl 1 rfl) ?_
  refine ro_V (n := 0) (As := []) (rest := []) ⟨hx, hb, hml, hown, hts⟩ (c_X4_everybody l D ci am X kr q0 q1 q2 q3 q4 q5 iw kn y0 y1 y2_1 y3 y4 y5 y6  hWF) gX4_fewest_X4_everybody rfl ⟨rfl, rfl⟩ (by decide +kernel) rfl ⟨Nat.le_of_ble_eq_true rfl, Nat.le_of_ble_eq_true rfl⟩ hE trivial hK hP (ci := 4) (q0 := 0) rfl rfl hl.1 rfl (Nat.le_of_ble_eq_true rfl) dX4_fewest_10 ⟨Nat.zero_le _, Nat.zero_le _⟩ ?_
  have f3 := evb_lt hWF.n
  refine lv_istore_n (lv' := [(2, .int (nI ((1 * 2 ^ X.1 7 0 - 1)))), (1, .int (nI ((1 * 2 ^ X.1 7 0 - 1)))), (0, .ref (am 0))]) hx hb dX4_fewest_13 rfl hl (by decide) rfl (fun ls hl => ?_)
  have L14 : ∀ (k14 : Nat) (cn : Nat), cn < k14 → (cn ≤ 1 * 2 ^ X.1 7 0) → ∀ (x1 : Int32), ∀ (x2 : Int32), x1 = nI ((dn (fun t => lessN X.1 t == 0) (1 * 2 ^ X.1 7 0 - 1) (1 * 2 ^ X.1 7 0 - cn))) → x2 = nI (cn) - nI (1) → ∀ ls : Array Slot, lv_has ls 3 [(1, .int (x1)), (2, .int (x2)), (0, .ref (am 0))] → W p l e (headSpec wsX4_fewest ({ frames := 7, cells := 0, slots := 0, locals := 163 } : Room)).room s m ([.ref (am 0)] : List Value).toArray below meth c H locs 0 0 (MQ below (mu_Q (aM am) (some (.int ((p_fewest X).1))) (fun H => ∃ (kr : Nat → Int32) (q0 : Int32) (q1 : Int32) (q2 : Int32) (q3 : Int32) (q4 : Int32) (q5 : Int32) (iw : Bool) (y0 : Nat → Int32) (y1 : Nat → Int32) (y2 : Nat → Int32) (y3 : Nat → Int32) (y4 : Nat → Int32) (y5 : Nat → Int32) (y6 : Nat → Int32), kOK (p_fewest X).2 kr ∧ va_P D vwCl (wN ci am ((p_fewest X).2) kr q0 q1 q2 q3 q4 q5 iw kn y0 y1 y2 y3 y4 y5 y6) H)) ([.ref (am 0)] : List Value).toArray s 0 0 (aM am)) (F0 m 14 ls []) := by
    intro k14
    induction k14 with
    | zero => intro cn h0; exact absurd h0 (Nat.not_lt_zero _)
    | succ k14 ih14 =>
      intro cn hk14 h_c x1 x2 e1 e2 ls hl
      subst e1
      subst e2
      have f_d := dn_le (P := (fun t => lessN X.1 t == 0)) (E := (1 * 2 ^ X.1 7 0 - 1)) (1 * 2 ^ X.1 7 0 - cn)
      refine lv_iload_n hx hb dX4_fewest_14 rfl (lv_at hl 1 rfl) ?_
      refine nv_iflt_D (tgt := 49) hx hb (by omega) dX4_fewest_15 (by decide) (fun c4 => ?_) (fun c4 => ?_)
      · refine lv_iload_n hx hb dX4_fewest_49 rfl (lv_at hl 0 rfl) ?_
        have hp : p_fewest X = (nI ((dn (fun t => lessN X.1 t == 0) (1 * 2 ^ X.1 7 0 - 1) (1 * 2 ^ X.1 7 0 - cn))), X) := by rw [fewest_eq hWF, show 1 * 2 ^ X.1 7 0 - cn = 1 * 2 ^ X.1 7 0 by omega]
        refine nv_cv (show nI ((dn (fun t => lessN X.1 t == 0) (1 * 2 ^ X.1 7 0 - 1) (1 * 2 ^ X.1 7 0 - cn))) = (p_fewest X).1 from by rw [hp]) ?_
        exact mu_iret hx hb hr hlocks hS ((by rw [hp]; exact ⟨_, _, _, _, _, _, _, _, _, _, _, _, _, _, _, hkr, hP⟩)) dX4_fewest_50
      · obtain ⟨c1n, e_c1n⟩ : ∃ c1n, cn = c1n + 1 := ⟨cn - 1, by omega⟩
        rw [show nI (cn) - nI 1 = nI c1n by rw [e_c1n]; exact nI_pred c1n] at hl
        refine lv_iload_n hx hb dX4_fewest_18 rfl (lv_at hl 1 rfl) ?_
        refine ro_S (n := 1) (As := [.int (nI c1n)]) (rest := []) ⟨hx, hb, hml, hown, hts⟩ (c_X4_bits l D ci (wN ci am X kr q0 q1 q2 q3 q4 q5 iw kn y0 y1 y2_1 y3 y4 y5 y6) (c1n) (by omega)) gX4_fewest_X4_bits rfl ⟨rfl, rfl⟩ (by decide +kernel) rfl ⟨Nat.le_of_ble_eq_true rfl, Nat.le_of_ble_eq_true rfl⟩ hE trivial hK hP hl.1 rfl (Nat.le_of_ble_eq_true rfl) dX4_fewest_19 ⟨Nat.zero_le _, Nat.zero_le _⟩ ?_
        have f5 := pop_le (c1n)
        refine lv_iload_n hx hb dX4_fewest_22 rfl (lv_at hl 0 rfl) ?_
        refine ro_S (n := 1) (As := [.int (nI ((dn (fun t => lessN X.1 t == 0) (1 * 2 ^ X.1 7 0 - 1) (1 * 2 ^ X.1 7 0 - cn))))]) (rest := [.int (nI (pop c1n))]) ⟨hx, hb, hml, hown, hts⟩ (c_X4_bits l D ci (wN ci am X kr q0 q1 q2 q3 q4 q5 iw kn y0 y1 y2_1 y3 y4 y5 y6) ((dn (fun t => lessN X.1 t == 0) (1 * 2 ^ X.1 7 0 - 1) (1 * 2 ^ X.1 7 0 - cn))) (by omega)) gX4_fewest_X4_bits rfl ⟨rfl, rfl⟩ (by decide +kernel) rfl ⟨Nat.le_of_ble_eq_true rfl, Nat.le_of_ble_eq_true rfl⟩ hE trivial hK hP hl.1 rfl (Nat.le_of_ble_eq_true rfl) dX4_fewest_23 ⟨Nat.zero_le _, Nat.zero_le _⟩ ?_
        have f6 := pop_le ((dn (fun t => lessN X.1 t == 0) (1 * 2 ^ X.1 7 0 - 1) (1 * 2 ^ X.1 7 0 - cn)))
        refine nv_icmp_gt (tgt := 41) hx hb (by omega) (by omega) dX4_fewest_26 (by decide) (fun c7 => ?_) (fun c7 => ?_)
        · refine lv_iload_n hx hb dX4_fewest_41 rfl (lv_at hl 0 rfl) ?_
          refine lv_istore_n (lv' := [(1, .int (nI ((dn (fun t => lessN X.1 t == 0) (1 * 2 ^ X.1 7 0 - 1) (1 * 2 ^ X.1 7 0 - cn))))), (2, .int (nI c1n)), (0, .ref (am 0))]) hx hb dX4_fewest_42 rfl hl (by decide) rfl (fun ls hl => ?_)
          refine nv_iincm1 (lv' := [(2, .int (nI (c1n) - nI (1))), (1, .int (nI ((dn (fun t => lessN X.1 t == 0) (1 * 2 ^ X.1 7 0 - 1) (1 * 2 ^ X.1 7 0 - cn))))), (0, .ref (am 0))]) hx hb dX4_fewest_43 hl (k := 1) rfl (by decide) rfl (fun ls hl => ?_)
          refine lv_goto (tgt := 14) hx hb dX4_fewest_46 (by decide) ?_
          exact ih14 (c1n) (by omega) (by omega) (nI ((dn (fun t => lessN X.1 t == 0) (1 * 2 ^ X.1 7 0 - 1) (1 * 2 ^ X.1 7 0 - cn)))) (nI (c1n) - nI (1)) (nv_e (by rw [show 1 * 2 ^ X.1 7 0 - c1n = (1 * 2 ^ X.1 7 0 - cn) + 1 by omega]; first | rw [dn_t (s := c1n) (by omega) c4 (by simpa using c7)] | rw [dn_f1 (s := c1n) (by omega) c7] | rw [dn_f2 (s := c1n) (by omega) (by simpa using c7)])) rfl ls (lv_sub hl [1, 0, 2] rfl)
        · refine lv_aload_n hx hb dX4_fewest_29 rfl (lv_at hl 2 rfl) ?_
          refine lv_iload_n hx hb dX4_fewest_30 rfl (lv_at hl 1 rfl) ?_
          refine ro_V (n := 1) (As := [.int (nI c1n)]) (rest := []) ⟨hx, hb, hml, hown, hts⟩ (c_X4_lessBy l D ci am X kr q0 q1 q2 q3 q4 q5 iw kn y0 y1 y2_1 y3 y4 y5 y6 (c1n) hWF (by omega) h_ex) gX4_fewest_X4_lessBy rfl ⟨rfl, rfl⟩ (by decide +kernel) rfl ⟨Nat.le_of_ble_eq_true rfl, Nat.le_of_ble_eq_true rfl⟩ hE trivial hK hP (ci := 4) (q0 := 0) rfl rfl hl.1 rfl (Nat.le_of_ble_eq_true rfl) dX4_fewest_31 ⟨Nat.zero_le _, Nat.zero_le _⟩ ?_
          have f8 := lessN_le X.1 (c1n)
          refine nv_ifne (tgt := 41) hx hb (by omega) dX4_fewest_34 (by decide) (fun c9 => ?_) (fun c9 => ?_)
          · refine lv_iload_n hx hb dX4_fewest_41 rfl (lv_at hl 0 rfl) ?_
            refine lv_istore_n (lv' := [(1, .int (nI ((dn (fun t => lessN X.1 t == 0) (1 * 2 ^ X.1 7 0 - 1) (1 * 2 ^ X.1 7 0 - cn))))), (2, .int (nI c1n)), (0, .ref (am 0))]) hx hb dX4_fewest_42 rfl hl (by decide) rfl (fun ls hl => ?_)
            refine nv_iincm1 (lv' := [(2, .int (nI (c1n) - nI (1))), (1, .int (nI ((dn (fun t => lessN X.1 t == 0) (1 * 2 ^ X.1 7 0 - 1) (1 * 2 ^ X.1 7 0 - cn))))), (0, .ref (am 0))]) hx hb dX4_fewest_43 hl (k := 1) rfl (by decide) rfl (fun ls hl => ?_)
            refine lv_goto (tgt := 14) hx hb dX4_fewest_46 (by decide) ?_
            exact ih14 (c1n) (by omega) (by omega) (nI ((dn (fun t => lessN X.1 t == 0) (1 * 2 ^ X.1 7 0 - 1) (1 * 2 ^ X.1 7 0 - cn)))) (nI (c1n) - nI (1)) (nv_e (by rw [show 1 * 2 ^ X.1 7 0 - c1n = (1 * 2 ^ X.1 7 0 - cn) + 1 by omega]; first | rw [dn_t (s := c1n) (by omega) c7 (by simpa using c9)] | rw [dn_f1 (s := c1n) (by omega) c9] | rw [dn_f2 (s := c1n) (by omega) (by simpa using c9)])) rfl ls (lv_sub hl [1, 0, 2] rfl)
          · refine lv_iload_n hx hb dX4_fewest_37 rfl (lv_at hl 1 rfl) ?_
            refine lv_goto (tgt := 42) hx hb dX4_fewest_38 (by decide) ?_
            refine lv_istore_n (lv' := [(1, .int (nI c1n)), (2, .int (nI c1n)), (0, .ref (am 0))]) hx hb dX4_fewest_42 rfl hl (by decide) rfl (fun ls hl => ?_)
            refine nv_iincm1 (lv' := [(2, .int (nI (c1n) - nI (1))), (1, .int (nI c1n)), (0, .ref (am 0))]) hx hb dX4_fewest_43 hl (k := 1) rfl (by decide) rfl (fun ls hl => ?_)
            refine lv_goto (tgt := 14) hx hb dX4_fewest_46 (by decide) ?_
            exact ih14 (c1n) (by omega) (by omega) (nI (c1n)) (nI (c1n) - nI (1)) (nv_e (by rw [show 1 * 2 ^ X.1 7 0 - c1n = (1 * 2 ^ X.1 7 0 - cn) + 1 by omega]; first | rw [dn_t (s := c1n) (by omega) c7 (by simpa using c9)] | rw [dn_f1 (s := c1n) (by omega) c9] | rw [dn_f2 (s := c1n) (by omega) (by simpa using c9)])) rfl ls (lv_sub hl [1, 0, 2] rfl)
  exact L14 _ ((1 * 2 ^ X.1 7 0)) (Nat.lt_succ_self _) (Nat.le_refl _) (nI ((1 * 2 ^ X.1 7 0 - 1))) (nI ((1 * 2 ^ X.1 7 0 - 1))) (by rw [Nat.sub_self]; rfl) (by rw [pk_sub f_ev0]) ls (lv_sub hl [1, 0, 2] rfl)

set_option maxHeartbeats 4000000 in
set_option maxRecDepth 100000 in
/-- X4_areApart -/
theorem c_X4_areApart (l : Launch) (D : va_G) (ci : Nat → ClassId) (am : Nat → Nat) (X : AS) (kr : Nat → Int32) (q0 q1 q2 q3 q4 q5 : Int32) (iw : Bool) (kn : Nat → Option Nat) (y0 y1 y2 y3 y4 y5 y6 : Nat → Int32) (t : Nat) (hWF : WF X.1) (h_t : t < 4096) (h_y4 : ∀ q, q < X.1 7 0 → y4 q = nI (bPlay X.1 q)) : Met l yX4_areApart wsX4_areApart ({ frames := 0, cells := 0, slots := 0, locals := 0 } : Room) (va_Pc [.ref (am 0), .int (nI t)] (ro_B D (tyL ci) (wN ci am X kr q0 q1 q2 q3 q4 q5 iw kn y0 y1 y2 y3 y4 y5 y6) (enT))) (ro_Q (some (.int (bI (apM X.1 t))))) 0 0 (fun _ => False) := by
  refine ro_Met (cc := cX4_areApart) (maxL := 5) (ret := (some .boolean)) [(0, .ref (am 0)), (1, .int (nI t))] (by decide) rfl (Nat.le_of_ble_eq_true rfl) rfl ?_
  intro p e s m below meth c hx hb hml hr hlocks hts hown hP hK hs ls hl
  have hown : s.vm.findClass RX4 = some m.cls := hown
  have hinX4 : ∀ w ∈ wsX40, w ∈ wsX4_areApart := by decide +kernel
  have hE := hE_T
  have f_n := hWF.n
  refine lv_iconst (v := nI (1)) hx hb dX4_areApart_0 (by decide) ?_
  refine lv_istore_n (lv' := [(2, .int (nI 1)), (0, .ref (am 0)), (1, .int (nI t))]) hx hb dX4_areApart_1 rfl hl (by decide) rfl (fun ls hl => ?_)
  refine lv_iconst (v := nI (0)) hx hb dX4_areApart_2 (by decide) ?_
  refine lv_istore_n (lv' := [(3, .int (nI 0)), (2, .int (nI 1)), (0, .ref (am 0)), (1, .int (nI t))]) hx hb dX4_areApart_3 rfl hl (by decide) rfl (fun ls hl => ?_)
  have L4 : ∀ (k4 : Nat) (i : Nat), X.1 7 0 - i < k4 → (i ≤ X.1 7 0) → ∀ (x2 : Int32), ∀ (x3 : Int32), x2 = bI (!anyTo (fun a => anyTo (fun b => ((bPlay X.1 a ^^^ bPlay X.1 b) &&& t) == 0) a) (i)) → x3 = nI (i) → ∀ ls : Array Slot, lv_has ls 5 [(2, .int (x2)), (3, .int (x3)), (0, .ref (am 0)), (1, .int (nI t))] → W p l e (headSpec wsX4_areApart ({ frames := 0, cells := 0, slots := 0, locals := 0 } : Room)).room s m ([.ref (am 0), .int (nI t)] : List Value).toArray below meth c s.heap [] 0 0 (MQ below (ro_Q (some (.int (bI (apM X.1 t))))) ([.ref (am 0), .int (nI t)] : List Value).toArray s 0 0 (fun _ => False)) (F0 m 4 ls []) := by
    intro k4
    induction k4 with
    | zero => intro i h0; exact absurd h0 (Nat.not_lt_zero _)
    | succ k4 ih4 =>
      intro i hk4 h_i x2 x3 e2 e3 ls hl
      subst e2
      subst e3
      refine lv_iload_n hx hb dX4_areApart_4 rfl (lv_at hl 1 rfl) ?_
      refine lv_aload_n hx hb dX4_areApart_5 rfl (lv_at hl 2 rfl) ?_
      refine va_get (D := D) (ci := 4) (v := .ref (am 1)) (C := RX4) (T := TX4) (N := 24) hx hb hts hinX4 hown hK hP 0 rfl rfl 0 (by decide) (hts (.fieldLink RX4 9 "OneShortModel" "now" "[I") (List.mem_of_getElem? (i := 1) rfl)) (fun _ h9 => h9) rfl dX4_areApart_6 ?_
      refine lv_iconst (v := nI (1)) hx hb dX4_areApart_9 (by decide) ?_
      refine nv_iald (v := nI (X.1 7 0)) hx hb hK hP 1 0 rfl rfl (by omega) (by decide) (pk_n X.1) dX4_areApart_10 ?_
      refine nv_icmp_ge (tgt := 64) hx hb (by omega) (by omega) dX4_areApart_11 (by decide) (fun c1 => ?_) (fun c1 => ?_)
      · refine lv_iload_n hx hb dX4_areApart_64 rfl (lv_at hl 0 rfl) ?_
        refine nv_cv (show bI (!anyTo (fun a => anyTo (fun b => ((bPlay X.1 a ^^^ bPlay X.1 b) &&& t) == 0) a) (i)) = bI (apM X.1 t) from congrArg bI (by rw [apM, show X.1 7 0 = i by omega])) ?_
        exact ro_zret hx hb hr hlocks dX4_areApart_65
      · refine lv_iconst (v := nI (0)) hx hb dX4_areApart_14 (by decide) ?_
        refine lv_istore (lv' := [(4, .int (nI 0)), (2, .int (bI (!anyTo (fun a => anyTo (fun b => ((bPlay X.1 a ^^^ bPlay X.1 b) &&& t) == 0) a) (i)))), (3, .int (nI i)), (0, .ref (am 0)), (1, .int (nI t))]) hx hb dX4_areApart_15 hl (by decide) rfl (fun ls hl => ?_)
        have L17 : ∀ (k17 : Nat) (j : Nat), i - j < k17 → (j ≤ i) → ∀ (x2 : Int32), ∀ (x4 : Int32), x2 = bI ((!anyTo (fun a => anyTo (fun b => ((bPlay X.1 a ^^^ bPlay X.1 b) &&& t) == 0) a) (i) && !anyTo (fun b => ((bPlay X.1 i ^^^ bPlay X.1 b) &&& t) == 0) (j))) → x4 = nI (j) → ∀ ls : Array Slot, lv_has ls 5 [(2, .int (x2)), (4, .int (x4)), (3, .int (nI i)), (0, .ref (am 0)), (1, .int (nI t))] → W p l e (headSpec wsX4_areApart ({ frames := 0, cells := 0, slots := 0, locals := 0 } : Room)).room s m ([.ref (am 0), .int (nI t)] : List Value).toArray below meth c s.heap [] 0 0 (MQ below (ro_Q (some (.int (bI (apM X.1 t))))) ([.ref (am 0), .int (nI t)] : List Value).toArray s 0 0 (fun _ => False)) (F0 m 17 ls []) := by
          intro k17
          induction k17 with
          | zero => intro j h0; exact absurd h0 (Nat.not_lt_zero _)
          | succ k17 ih17 =>
            intro j hk17 h_j x2 x4 e2 e4 ls hl
            subst e2
            subst e4
            have f_x := Nat.xor_lt_two_pow (n := 12) (bPlay_lt X.1 i) (bPlay_lt X.1 j)
            refine lv_iload hx hb dX4_areApart_17 (lv_at hl 1 rfl) ?_
            refine lv_iload_n hx hb dX4_areApart_19 rfl (lv_at hl 2 rfl) ?_
            refine nv_icmp_ge (tgt := 58) hx hb (by omega) (by omega) dX4_areApart_20 (by decide) (fun c2 => ?_) (fun c2 => ?_)
            · refine nv_iinc1 (lv' := [(3, .int (nI (i + 1))), (2, .int (bI ((!anyTo (fun a => anyTo (fun b => ((bPlay X.1 a ^^^ bPlay X.1 b) &&& t) == 0) a) (i) && !anyTo (fun b => ((bPlay X.1 i ^^^ bPlay X.1 b) &&& t) == 0) (j))))), (4, .int (nI j)), (0, .ref (am 0)), (1, .int (nI t))]) hx hb dX4_areApart_58 hl (k := 2) rfl (by decide) rfl (fun ls hl => ?_)
              refine lv_goto (tgt := 4) hx hb dX4_areApart_61 (by decide) ?_
              exact ih4 (i + 1) (by omega) (by omega) (bI ((!anyTo (fun a => anyTo (fun b => ((bPlay X.1 a ^^^ bPlay X.1 b) &&& t) == 0) a) (i) && !anyTo (fun b => ((bPlay X.1 i ^^^ bPlay X.1 b) &&& t) == 0) (j)))) (nI (i + 1)) (by rw [show j = i by omega, ← Bool.not_or]; rfl) rfl ls (lv_sub hl [1, 0, 3, 4] rfl)
            · refine lv_iload_n hx hb dX4_areApart_23 rfl (lv_at hl 0 rfl) ?_
              refine nv_ifeq_b (tgt := 50) hx hb dX4_areApart_24 (by decide) (fun c3 => ?_) (fun c3 => ?_)
              · refine lv_iconst (v := nI (0)) hx hb dX4_areApart_50 (by decide) ?_
                refine lv_istore_n (lv' := [(2, .int (nI 0)), (4, .int (nI j)), (3, .int (nI i)), (0, .ref (am 0)), (1, .int (nI t))]) hx hb dX4_areApart_51 rfl hl (by decide) rfl (fun ls hl => ?_)
                refine nv_iinc1 (lv' := [(4, .int (nI (j + 1))), (2, .int (nI 0)), (3, .int (nI i)), (0, .ref (am 0)), (1, .int (nI t))]) hx hb dX4_areApart_52 hl (k := 1) rfl (by decide) rfl (fun ls hl => ?_)
                refine lv_goto (tgt := 17) hx hb dX4_areApart_55 (by decide) ?_
                exact ih17 (j + 1) (by omega) (by omega) (nI (0)) (nI (j + 1)) (by first | exact nv_t (ap_t c2 (by simpa using c3)) | exact nv_f (ap_f1 (by simpa using c3)) | exact nv_f (ap_f0 c3)) rfl ls (lv_sub hl [1, 0, 2, 3, 4] rfl)
              · refine lv_aload_n hx hb dX4_areApart_27 rfl (lv_at hl 3 rfl) ?_
                refine va_get (D := D) (ci := 4) (v := .ref (am 8)) (C := RX4) (T := TX4) (N := 24) hx hb hts hinX4 hown hK hP 0 rfl rfl 8 (by decide) (hts (.fieldLink RX4 31 "OneShortModel" "barSets" "[I") (List.mem_of_getElem? (i := 2) rfl)) (fun _ h9 => h9) rfl dX4_areApart_28 ?_
                refine lv_iload_n hx hb dX4_areApart_31 rfl (lv_at hl 2 rfl) ?_
                have f4 := bPlay_lt X.1 i
                refine nv_iald (v := nI (bPlay X.1 i)) hx hb hK hP 8 0 rfl rfl (by omega) (by decide) (h_y4 i (by omega)) dX4_areApart_32 ?_
                refine lv_aload_n hx hb dX4_areApart_33 rfl (lv_at hl 3 rfl) ?_
                refine va_get (D := D) (ci := 4) (v := .ref (am 8)) (C := RX4) (T := TX4) (N := 24) hx hb hts hinX4 hown hK hP 0 rfl rfl 8 (by decide) (hts (.fieldLink RX4 31 "OneShortModel" "barSets" "[I") (List.mem_of_getElem? (i := 2) rfl)) (fun _ h9 => h9) rfl dX4_areApart_34 ?_
                refine lv_iload hx hb dX4_areApart_37 (lv_at hl 1 rfl) ?_
                have f5 := bPlay_lt X.1 j
                refine nv_iald (v := nI (bPlay X.1 j)) hx hb hK hP 8 0 rfl rfl (by omega) (by decide) (h_y4 j (by omega)) dX4_areApart_39 ?_
                refine nv_ixor hx hb dX4_areApart_40 ?_
                refine lv_iload_n hx hb dX4_areApart_41 rfl (lv_at hl 4 rfl) ?_
                refine nv_iand hx hb dX4_areApart_42 ?_
                have f6 : ((bPlay X.1 i ^^^ bPlay X.1 j) &&& t) ≤ t := Nat.and_le_right
                have f7 : ((bPlay X.1 i ^^^ bPlay X.1 j) &&& t) ≤ (bPlay X.1 i ^^^ bPlay X.1 j) := Nat.and_le_left
                refine nv_ifeq (tgt := 50) hx hb (by omega) dX4_areApart_43 (by decide) (fun c8 => ?_) (fun c8 => ?_)
                · refine lv_iconst (v := nI (0)) hx hb dX4_areApart_50 (by decide) ?_
                  refine lv_istore_n (lv' := [(2, .int (nI 0)), (4, .int (nI j)), (3, .int (nI i)), (0, .ref (am 0)), (1, .int (nI t))]) hx hb dX4_areApart_51 rfl hl (by decide) rfl (fun ls hl => ?_)
                  refine nv_iinc1 (lv' := [(4, .int (nI (j + 1))), (2, .int (nI 0)), (3, .int (nI i)), (0, .ref (am 0)), (1, .int (nI t))]) hx hb dX4_areApart_52 hl (k := 1) rfl (by decide) rfl (fun ls hl => ?_)
                  refine lv_goto (tgt := 17) hx hb dX4_areApart_55 (by decide) ?_
                  exact ih17 (j + 1) (by omega) (by omega) (nI (0)) (nI (j + 1)) (by first | exact nv_t (ap_t c3 (by simpa using c8)) | exact nv_f (ap_f1 (by simpa using c8)) | exact nv_f (ap_f0 c8)) rfl ls (lv_sub hl [1, 0, 2, 3, 4] rfl)
                · refine lv_iconst (v := nI (1)) hx hb dX4_areApart_46 (by decide) ?_
                  refine lv_goto (tgt := 51) hx hb dX4_areApart_47 (by decide) ?_
                  refine lv_istore_n (lv' := [(2, .int (nI 1)), (4, .int (nI j)), (3, .int (nI i)), (0, .ref (am 0)), (1, .int (nI t))]) hx hb dX4_areApart_51 rfl hl (by decide) rfl (fun ls hl => ?_)
                  refine nv_iinc1 (lv' := [(4, .int (nI (j + 1))), (2, .int (nI 1)), (3, .int (nI i)), (0, .ref (am 0)), (1, .int (nI t))]) hx hb dX4_areApart_52 hl (k := 1) rfl (by decide) rfl (fun ls hl => ?_)
                  refine lv_goto (tgt := 17) hx hb dX4_areApart_55 (by decide) ?_
                  exact ih17 (j + 1) (by omega) (by omega) (nI (1)) (nI (j + 1)) (by first | exact nv_t (ap_t c3 (by simpa using c8)) | exact nv_f (ap_f1 (by simpa using c8)) | exact nv_f (ap_f0 c8)) rfl ls (lv_sub hl [1, 0, 2, 3, 4] rfl)
        exact L17 _ (0) (Nat.lt_succ_self _) (by omega) (bI (!anyTo (fun a => anyTo (fun b => ((bPlay X.1 a ^^^ bPlay X.1 b) &&& t) == 0) a) (i))) (nI (0)) (congrArg bI (Bool.and_true _).symm) rfl ls (lv_sub hl [1, 0, 2, 3, 4] rfl)
  exact L4 _ (0) (Nat.lt_succ_self _) (by omega) (nI (1)) (nI (0)) (nv_t rfl) rfl ls (lv_sub hl [1, 0, 2, 3] rfl)

set_option maxHeartbeats 4000000 in
set_option maxRecDepth 100000 in
/-- X4_tells -/
theorem c_X4_tells (l : Launch) (D : va_G) (ci : Nat → ClassId) (am : Nat → Nat) (X : AS) (kr : Nat → Int32) (q0 q1 q2 q3 q4 q5 : Int32) (iw : Bool) (kn : Nat → Option Nat) (y0 y1 y2 y3 y4 y5 y6 : Nat → Int32) (hI : injA am 16)  (hWX : WFX X) (hkr : kOK X kr) : Met l yX4_tells wsX4_tells ({ frames := 5, cells := 0, slots := 0, locals := 114 } : Room) (va_Pc [.ref (am 0)] (ro_B D (tyL ci) (wN ci am X kr q0 q1 q2 q3 q4 q5 iw kn y0 y1 y2 y3 y4 y5 y6) (enT))) (mu_Q (aM am) (some (.int ((p_tells X).1))) (fun H => ∃ (kr : Nat → Int32) (q0 : Int32) (q1 : Int32) (q2 : Int32) (q3 : Int32) (q4 : Int32) (q5 : Int32) (iw : Bool) (y0 : Nat → Int32) (y1 : Nat → Int32) (y2 : Nat → Int32) (y3 : Nat → Int32) (y4 : Nat → Int32) (y5 : Nat → Int32) (y6 : Nat → Int32), kOK (p_tells X).2 kr ∧ va_P D vwCl (wN ci am ((p_tells X).2) kr q0 q1 q2 q3 q4 q5 iw kn y0 y1 y2 y3 y4 y5 y6) H)) 0 0 (aM am) := by
  refine mu_Met (cc := cX4_tells) (maxL := 4) (ret := (some .int)) [(0, .ref (am 0))] (wN_D hI) (by decide) rfl (Nat.le_of_ble_eq_true rfl) rfl ?_
  intro p e s m below meth c H locs hx hb hml hr hlocks hts hown hP hK hs0 hD hS ls hl
  have hown : s.vm.findClass RX4 = some m.cls := hown
  have hinX4 : ∀ w ∈ wsX40, w ∈ wsX4_tells := by decide +kernel
  have hE := hE_T
  have hWF := hWX.w
  have f_n := hWF.n
  have f_e := hWX.e
  have f_tl := hWX.t
  refine lv_iconst (v := nI (0)) hx hb dX4_tells_0 (by decide) ?_
  refine lv_istore_n (lv' := [(1, .int (nI 0)), (0, .ref (am 0))]) hx hb dX4_tells_1 rfl hl (by decide) rfl (fun ls hl => ?_)
  have L2 : ∀ (k2 : Nat) (i : Nat) (y4 : Nat → Int32), X.1 7 0 - i < k2 → (i ≤ X.1 7 0) → (∀ q, q < i → y4 q = nI (bPlay X.1 q)) → ∀ (x1 : Int32), x1 = nI (i) → ∀ (H : Heap) (locs : List Loc), va_P D vwCl (wN ci am X kr q0 q1 q2 q3 q4 q5 iw kn y0 y1 y2 y3 y4 y5 y6) H → va_S (aM am) s.heap H locs → ∀ ls : Array Slot, lv_has ls 4 [(1, .int (x1)), (0, .ref (am 0))] → W p l e (headSpec wsX4_tells ({ frames := 5, cells := 0, slots := 0, locals := 114 } : Room)).room s m ([.ref (am 0)] : List Value).toArray below meth c H locs 0 0 (MQ below (mu_Q (aM am) (some (.int ((p_tells X).1))) (fun H => ∃ (kr : Nat → Int32) (q0 : Int32) (q1 : Int32) (q2 : Int32) (q3 : Int32) (q4 : Int32) (q5 : Int32) (iw : Bool) (y0 : Nat → Int32) (y1 : Nat → Int32) (y2 : Nat → Int32) (y3 : Nat → Int32) (y4 : Nat → Int32) (y5 : Nat → Int32) (y6 : Nat → Int32), kOK (p_tells X).2 kr ∧ va_P D vwCl (wN ci am ((p_tells X).2) kr q0 q1 q2 q3 q4 q5 iw kn y0 y1 y2 y3 y4 y5 y6) H)) ([.ref (am 0)] : List Value).toArray s 0 0 (aM am)) (F0 m 2 ls []) := by
    intro k2
    induction k2 with
    | zero => intro i y4 h0; exact absurd h0 (Nat.not_lt_zero _)
    | succ k2 ih2 =>
      intro i y4 hk2 h_i h_y x1 e1  H locs hP hS ls hl
      subst e1
      have hD : va_D (aM am) (wN ci am X kr q0 q1 q2 q3 q4 q5 iw kn y0 y1 y2 y3 y4 y5 y6) := wN_D hI
      refine lv_iload_n hx hb dX4_tells_2 rfl (lv_at hl 0 rfl) ?_
      refine lv_aload_n hx hb dX4_tells_3 rfl (lv_at hl 1 rfl) ?_
      refine va_get (D := D) (ci := 4) (v := .ref (am 1)) (C := RX4) (T := TX4) (N := 24) hx hb hts hinX4 hown hK hP 0 rfl rfl 0 (by decide) (hts (.fieldLink RX4 9 "OneShortModel" "now" "[I") (List.mem_of_getElem? (i := 1) rfl)) (fun _ h9 => h9) rfl dX4_tells_4 ?_
      refine lv_iconst (v := nI (1)) hx hb dX4_tells_7 (by decide) ?_
      refine nv_iald (v := nI (X.1 7 0)) hx hb hK hP 1 0 rfl rfl (by omega) (by decide) (pk_n X.1) dX4_tells_8 ?_
      refine nv_icmp_ge (tgt := 29) hx hb (by omega) (by omega) dX4_tells_9 (by decide) (fun c1 => ?_) (fun c1 => ?_)
      · refine lv_iconst (v := -1) hx hb dX4_tells_29 (by decide) ?_
        refine lv_istore_n (lv' := [(1, .int (-1)), (0, .ref (am 0))]) hx hb dX4_tells_30 rfl hl (by decide) rfl (fun ls hl => ?_)
        refine lv_sipush (v := nI (4095)) hx hb dX4_tells_31 (by decide) ?_
        refine lv_istore_n (lv' := [(2, .int (nI 4095)), (1, .int (-1)), (0, .ref (am 0))]) hx hb dX4_tells_34 rfl hl (by decide) rfl (fun ls hl => ?_)
        have L35 : ∀ (k35 : Nat) (cn : Nat), cn < k35 → (cn ≤ 4096) → ∀ (x1 : Int32), ∀ (x2 : Int32), x1 = nI ((mt (apM X.1) 4095 (4096 - cn))) - nI (1) → x2 = nI (cn) - nI (1) → ∀ ls : Array Slot, lv_has ls 4 [(1, .int (x1)), (2, .int (x2)), (0, .ref (am 0))] → W p l e (headSpec wsX4_tells ({ frames := 5, cells := 0, slots := 0, locals := 114 } : Room)).room s m ([.ref (am 0)] : List Value).toArray below meth c H locs 0 0 (MQ below (mu_Q (aM am) (some (.int ((p_tells X).1))) (fun H => ∃ (kr : Nat → Int32) (q0 : Int32) (q1 : Int32) (q2 : Int32) (q3 : Int32) (q4 : Int32) (q5 : Int32) (iw : Bool) (y0 : Nat → Int32) (y1 : Nat → Int32) (y2 : Nat → Int32) (y3 : Nat → Int32) (y4 : Nat → Int32) (y5 : Nat → Int32) (y6 : Nat → Int32), kOK (p_tells X).2 kr ∧ va_P D vwCl (wN ci am ((p_tells X).2) kr q0 q1 q2 q3 q4 q5 iw kn y0 y1 y2 y3 y4 y5 y6) H)) ([.ref (am 0)] : List Value).toArray s 0 0 (aM am)) (F0 m 35 ls []) := by
          intro k35
          induction k35 with
          | zero => intro cn h0; exact absurd h0 (Nat.not_lt_zero _)
          | succ k35 ih35 =>
            intro cn hk35 h_c x1 x2 e1 e2 ls hl
            subst e1
            subst e2
            have f_d := mt_le (P := apM X.1) (M := 4095) (4096 - cn)
            have h_y : ∀ q, q < X.1 7 0 → y4 q = nI (bPlay X.1 q) := fun q hq => h_y q (by omega)
            refine lv_iload_n hx hb dX4_tells_35 rfl (lv_at hl 1 rfl) ?_
            refine nv_iflt_D (tgt := 84) hx hb (by omega) dX4_tells_36 (by decide) (fun c2 => ?_) (fun c2 => ?_)
            · refine lv_aload_n hx hb dX4_tells_84 rfl (lv_at hl 2 rfl) ?_
              refine lv_iload_n hx hb dX4_tells_85 rfl (lv_at hl 0 rfl) ?_
              refine mu_V (n := 1) (As := [.int (nI ((mt (apM X.1) 4095 (4096 - cn))) - nI (1))]) (rest := []) ⟨hx, hb, hml, hown, hts⟩ (c_X4_orNone l D ci am X kr q0 q1 q2 q3 q4 q5 iw kn y0 y1 y2 y3 y4 y5 y6 hI ((mt (apM X.1) 4095 (4096 - cn))) (by omega)) gX4_tells_X4_orNone rfl ⟨rfl, rfl⟩ (by decide +kernel) rfl ⟨Nat.le_of_ble_eq_true rfl, Nat.le_of_ble_eq_true rfl⟩ hE trivial hK hP (ci := 4) (q0 := 0) rfl rfl hl.1 rfl (Nat.le_of_ble_eq_true rfl) dX4_tells_86 ⟨Nat.zero_le _, Nat.zero_le _⟩ hS (fun _ h => h) (fun H1 locs hz hfr hB hS => ?_)
              have hP := hB
              have hP : va_P D vwCl (wN ci am ((bk X (decide (0 < (mt (apM X.1) 4095 (4096 - cn)))) 3 (nI ((mt (apM X.1) 4095 (4096 - cn)) - 1), X)).2) kr q0 q1 q2 q3 q4 q5 iw kn y0 y1 y2 y3 y4 y5 y6) H1 := hP
              generalize H1 = H at hP hS ⊢
              have hD : va_D (aM am) (wN ci am ((bk X (decide (0 < (mt (apM X.1) 4095 (4096 - cn)))) 3 (nI ((mt (apM X.1) 4095 (4096 - cn)) - 1), X)).2) kr q0 q1 q2 q3 q4 q5 iw kn y0 y1 y2 y3 y4 y5 y6) := wN_D hI
              have hp : p_tells X = ((bk X (decide (0 < (mt (apM X.1) 4095 (4096 - cn)))) 3 (nI ((mt (apM X.1) 4095 (4096 - cn)) - 1), X)).1, (bk X (decide (0 < (mt (apM X.1) 4095 (4096 - cn)))) 3 (nI ((mt (apM X.1) 4095 (4096 - cn)) - 1), X)).2) := by rw [tells_eq, show 4096 - cn = 4096 by omega]
              refine nv_cv (show (bk X (decide (0 < (mt (apM X.1) 4095 (4096 - cn)))) 3 (nI ((mt (apM X.1) 4095 (4096 - cn)) - 1), X)).1 = (p_tells X).1 from by rw [hp]) ?_
              exact mu_iret hx hb hr hlocks hS ((by rw [hp]; exact ⟨_, _, _, _, _, _, _, _, _, _, _, _, _, _, _, (by first | exact kOK_bk hkr hkr | exact hkr), hP⟩)) dX4_tells_89
            · obtain ⟨c1n, e_c1n⟩ : ∃ c1n, cn = c1n + 1 := ⟨cn - 1, by omega⟩
              rw [show nI (cn) - nI 1 = nI c1n by rw [e_c1n]; exact nI_pred c1n] at hl
              refine lv_iload_n hx hb dX4_tells_39 rfl (lv_at hl 0 rfl) ?_
              refine nv_iflt_D (tgt := 54) hx hb (by omega) dX4_tells_40 (by decide) (fun c3 => ?_) (fun c3 => ?_)
              · refine lv_iconst (v := nI (1)) hx hb dX4_tells_54 (by decide) ?_
                refine lv_goto (tgt := 59) hx hb dX4_tells_55 (by decide) ?_
                refine lv_istore_n (lv' := [(3, .int (nI 1)), (1, .int (nI ((mt (apM X.1) 4095 (4096 - cn))) - nI (1))), (2, .int (nI c1n)), (0, .ref (am 0))]) hx hb dX4_tells_59 rfl hl (by decide) rfl (fun ls hl => ?_)
                refine lv_iload_n hx hb dX4_tells_60 rfl (lv_at hl 0 rfl) ?_
                refine lv_if_eq (tgt := 76) hx hb dX4_tells_61 (by decide) (fun h => absurd h (by decide)) (fun _ => ?_)
                refine lv_aload_n hx hb dX4_tells_64 rfl (lv_at hl 3 rfl) ?_
                refine lv_iload_n hx hb dX4_tells_65 rfl (lv_at hl 2 rfl) ?_
                refine ro_V (n := 1) (As := [.int (nI c1n)]) (rest := []) ⟨hx, hb, hml, hown, hts⟩ (c_X4_areApart l D ci am X kr q0 q1 q2 q3 q4 q5 iw kn y0 y1 y2 y3 y4 y5 y6 (c1n) hWF (by omega) h_y) gX4_tells_X4_areApart rfl ⟨rfl, rfl⟩ (by decide +kernel) rfl ⟨Nat.le_of_ble_eq_true rfl, Nat.le_of_ble_eq_true rfl⟩ hE trivial hK hP (ci := 4) (q0 := 0) rfl rfl hl.1 rfl (Nat.le_of_ble_eq_true rfl) dX4_tells_66 ⟨Nat.zero_le _, Nat.zero_le _⟩ ?_
                refine nv_ifeq_b (tgt := 76) hx hb dX4_tells_69 (by decide) (fun c5 => ?_) (fun c5 => ?_)
                · refine lv_iload_n hx hb dX4_tells_76 rfl (lv_at hl 1 rfl) ?_
                  refine lv_istore_n (lv' := [(1, .int (nI ((mt (apM X.1) 4095 (4096 - cn))) - nI (1))), (3, .int (nI 1)), (2, .int (nI c1n)), (0, .ref (am 0))]) hx hb dX4_tells_77 rfl hl (by decide) rfl (fun ls hl => ?_)
                  refine nv_iincm1 (lv' := [(2, .int (nI (c1n) - nI (1))), (1, .int (nI ((mt (apM X.1) 4095 (4096 - cn))) - nI (1))), (3, .int (nI 1)), (0, .ref (am 0))]) hx hb dX4_tells_78 hl (k := 2) rfl (by decide) rfl (fun ls hl => ?_)
                  refine lv_goto (tgt := 35) hx hb dX4_tells_81 (by decide) ?_
                  exact ih35 (c1n) (by omega) (by omega) (nI ((mt (apM X.1) 4095 (4096 - cn))) - nI (1)) (nI (c1n) - nI (1)) (by rw [show 4096 - c1n = (4096 - cn) + 1 by omega]; first | (rw [mt_t (s := c1n) (by omega) (by first | exact Or.inl c3 | (refine Or.inr ?_; rw [show mt (apM X.1) 4095 (4096 - cn) - 1 = b1n by omega]; exact c3)) c5]; exact (nI_pred _).symm) | (rw [mt_f1 (s := c1n) (by omega) (by omega) (by rw [show mt (apM X.1) 4095 (4096 - cn) - 1 = b1n by omega]; exact c5)]; done) | (rw [mt_f1 (s := c1n) (by omega) (by omega) (by rw [show mt (apM X.1) 4095 (4096 - cn) - 1 = b1n by omega]; exact c5)]; rw [e_b1n]; exact (nI_pred _).symm) | (rw [mt_f2 (s := c1n) (by omega) c5]; done) | (rw [mt_f2 (s := c1n) (by omega) c5]; rw [e_b1n]; exact (nI_pred _).symm)) rfl ls (lv_sub hl [1, 0, 3] rfl)
                · refine lv_iload_n hx hb dX4_tells_72 rfl (lv_at hl 2 rfl) ?_
                  refine lv_goto (tgt := 77) hx hb dX4_tells_73 (by decide) ?_
                  refine lv_istore_n (lv' := [(1, .int (nI c1n)), (3, .int (nI 1)), (2, .int (nI c1n)), (0, .ref (am 0))]) hx hb dX4_tells_77 rfl hl (by decide) rfl (fun ls hl => ?_)
                  refine nv_iincm1 (lv' := [(2, .int (nI (c1n) - nI (1))), (1, .int (nI c1n)), (3, .int (nI 1)), (0, .ref (am 0))]) hx hb dX4_tells_78 hl (k := 2) rfl (by decide) rfl (fun ls hl => ?_)
                  refine lv_goto (tgt := 35) hx hb dX4_tells_81 (by decide) ?_
                  exact ih35 (c1n) (by omega) (by omega) (nI (c1n)) (nI (c1n) - nI (1)) (by rw [show 4096 - c1n = (4096 - cn) + 1 by omega]; first | (rw [mt_t (s := c1n) (by omega) (by first | exact Or.inl c3 | (refine Or.inr ?_; rw [show mt (apM X.1) 4095 (4096 - cn) - 1 = b1n by omega]; exact c3)) c5]; exact (nI_pred _).symm) | (rw [mt_f1 (s := c1n) (by omega) (by omega) (by rw [show mt (apM X.1) 4095 (4096 - cn) - 1 = b1n by omega]; exact c5)]; done) | (rw [mt_f1 (s := c1n) (by omega) (by omega) (by rw [show mt (apM X.1) 4095 (4096 - cn) - 1 = b1n by omega]; exact c5)]; rw [e_b1n]; exact (nI_pred _).symm) | (rw [mt_f2 (s := c1n) (by omega) c5]; done) | (rw [mt_f2 (s := c1n) (by omega) c5]; rw [e_b1n]; exact (nI_pred _).symm)) rfl ls (lv_sub hl [1, 0, 3] rfl)
              · obtain ⟨b1n, e_b1n⟩ : ∃ b1n, (mt (apM X.1) 4095 (4096 - cn)) = b1n + 1 := ⟨(mt (apM X.1) 4095 (4096 - cn)) - 1, by omega⟩
                rw [show nI ((mt (apM X.1) 4095 (4096 - cn))) - nI 1 = nI b1n by rw [e_b1n]; exact nI_pred b1n] at hl
                refine lv_iload_n hx hb dX4_tells_43 rfl (lv_at hl 1 rfl) ?_
                refine ro_S (n := 1) (As := [.int (nI c1n)]) (rest := []) ⟨hx, hb, hml, hown, hts⟩ (c_X4_bits l D ci (wN ci am X kr q0 q1 q2 q3 q4 q5 iw kn y0 y1 y2 y3 y4 y5 y6) (c1n) (by omega)) gX4_tells_X4_bits rfl ⟨rfl, rfl⟩ (by decide +kernel) rfl ⟨Nat.le_of_ble_eq_true rfl, Nat.le_of_ble_eq_true rfl⟩ hE trivial hK hP hl.1 rfl (Nat.le_of_ble_eq_true rfl) dX4_tells_44 ⟨Nat.zero_le _, Nat.zero_le _⟩ ?_
                have f6 := pop_le (c1n)
                refine lv_iload_n hx hb dX4_tells_47 rfl (lv_at hl 0 rfl) ?_
                refine ro_S (n := 1) (As := [.int (nI b1n)]) (rest := [.int (nI (pop c1n))]) ⟨hx, hb, hml, hown, hts⟩ (c_X4_bits l D ci (wN ci am X kr q0 q1 q2 q3 q4 q5 iw kn y0 y1 y2 y3 y4 y5 y6) (b1n) (by omega)) gX4_tells_X4_bits rfl ⟨rfl, rfl⟩ (by decide +kernel) rfl ⟨Nat.le_of_ble_eq_true rfl, Nat.le_of_ble_eq_true rfl⟩ hE trivial hK hP hl.1 rfl (Nat.le_of_ble_eq_true rfl) dX4_tells_48 ⟨Nat.zero_le _, Nat.zero_le _⟩ ?_
                have f7 := pop_le (b1n)
                refine nv_icmp_gt (tgt := 58) hx hb (by omega) (by omega) dX4_tells_51 (by decide) (fun c8 => ?_) (fun c8 => ?_)
                · refine lv_iconst (v := nI (0)) hx hb dX4_tells_58 (by decide) ?_
                  refine lv_istore_n (lv' := [(3, .int (nI 0)), (1, .int (nI b1n)), (2, .int (nI c1n)), (0, .ref (am 0))]) hx hb dX4_tells_59 rfl hl (by decide) rfl (fun ls hl => ?_)
                  refine lv_iload_n hx hb dX4_tells_60 rfl (lv_at hl 0 rfl) ?_
                  refine lv_if_eq (tgt := 76) hx hb dX4_tells_61 (by decide) (fun _ => ?_) (fun h => absurd (by decide) h)
                  refine lv_iload_n hx hb dX4_tells_76 rfl (lv_at hl 1 rfl) ?_
                  refine lv_istore_n (lv' := [(1, .int (nI b1n)), (3, .int (nI 0)), (2, .int (nI c1n)), (0, .ref (am 0))]) hx hb dX4_tells_77 rfl hl (by decide) rfl (fun ls hl => ?_)
                  refine nv_iincm1 (lv' := [(2, .int (nI (c1n) - nI (1))), (1, .int (nI b1n)), (3, .int (nI 0)), (0, .ref (am 0))]) hx hb dX4_tells_78 hl (k := 2) rfl (by decide) rfl (fun ls hl => ?_)
                  refine lv_goto (tgt := 35) hx hb dX4_tells_81 (by decide) ?_
                  exact ih35 (c1n) (by omega) (by omega) (nI (b1n)) (nI (c1n) - nI (1)) (by rw [show 4096 - c1n = (4096 - cn) + 1 by omega]; first | (rw [mt_t (s := c1n) (by omega) (by first | exact Or.inl c3 | (refine Or.inr ?_; rw [show mt (apM X.1) 4095 (4096 - cn) - 1 = b1n by omega]; exact c3)) c8]; exact (nI_pred _).symm) | (rw [mt_f1 (s := c1n) (by omega) (by omega) (by rw [show mt (apM X.1) 4095 (4096 - cn) - 1 = b1n by omega]; exact c8)]; done) | (rw [mt_f1 (s := c1n) (by omega) (by omega) (by rw [show mt (apM X.1) 4095 (4096 - cn) - 1 = b1n by omega]; exact c8)]; rw [e_b1n]; exact (nI_pred _).symm) | (rw [mt_f2 (s := c1n) (by omega) c8]; done) | (rw [mt_f2 (s := c1n) (by omega) c8]; rw [e_b1n]; exact (nI_pred _).symm)) rfl ls (lv_sub hl [1, 0, 3] rfl)
                · refine lv_iconst (v := nI (1)) hx hb dX4_tells_54 (by decide) ?_
                  refine lv_goto (tgt := 59) hx hb dX4_tells_55 (by decide) ?_
                  refine lv_istore_n (lv' := [(3, .int (nI 1)), (1, .int (nI b1n)), (2, .int (nI c1n)), (0, .ref (am 0))]) hx hb dX4_tells_59 rfl hl (by decide) rfl (fun ls hl => ?_)
                  refine lv_iload_n hx hb dX4_tells_60 rfl (lv_at hl 0 rfl) ?_
                  refine lv_if_eq (tgt := 76) hx hb dX4_tells_61 (by decide) (fun h => absurd h (by decide)) (fun _ => ?_)
                  refine lv_aload_n hx hb dX4_tells_64 rfl (lv_at hl 3 rfl) ?_
                  refine lv_iload_n hx hb dX4_tells_65 rfl (lv_at hl 2 rfl) ?_
                  refine ro_V (n := 1) (As := [.int (nI c1n)]) (rest := []) ⟨hx, hb, hml, hown, hts⟩ (c_X4_areApart l D ci am X kr q0 q1 q2 q3 q4 q5 iw kn y0 y1 y2 y3 y4 y5 y6 (c1n) hWF (by omega) h_y) gX4_tells_X4_areApart rfl ⟨rfl, rfl⟩ (by decide +kernel) rfl ⟨Nat.le_of_ble_eq_true rfl, Nat.le_of_ble_eq_true rfl⟩ hE trivial hK hP (ci := 4) (q0 := 0) rfl rfl hl.1 rfl (Nat.le_of_ble_eq_true rfl) dX4_tells_66 ⟨Nat.zero_le _, Nat.zero_le _⟩ ?_
                  refine nv_ifeq_b (tgt := 76) hx hb dX4_tells_69 (by decide) (fun c11 => ?_) (fun c11 => ?_)
                  · refine lv_iload_n hx hb dX4_tells_76 rfl (lv_at hl 1 rfl) ?_
                    refine lv_istore_n (lv' := [(1, .int (nI b1n)), (3, .int (nI 1)), (2, .int (nI c1n)), (0, .ref (am 0))]) hx hb dX4_tells_77 rfl hl (by decide) rfl (fun ls hl => ?_)
                    refine nv_iincm1 (lv' := [(2, .int (nI (c1n) - nI (1))), (1, .int (nI b1n)), (3, .int (nI 1)), (0, .ref (am 0))]) hx hb dX4_tells_78 hl (k := 2) rfl (by decide) rfl (fun ls hl => ?_)
                    refine lv_goto (tgt := 35) hx hb dX4_tells_81 (by decide) ?_
                    exact ih35 (c1n) (by omega) (by omega) (nI (b1n)) (nI (c1n) - nI (1)) (by rw [show 4096 - c1n = (4096 - cn) + 1 by omega]; first | (rw [mt_t (s := c1n) (by omega) (by first | exact Or.inl c8 | (refine Or.inr ?_; rw [show mt (apM X.1) 4095 (4096 - cn) - 1 = b1n by omega]; exact c8)) c11]; exact (nI_pred _).symm) | (rw [mt_f1 (s := c1n) (by omega) (by omega) (by rw [show mt (apM X.1) 4095 (4096 - cn) - 1 = b1n by omega]; exact c11)]; done) | (rw [mt_f1 (s := c1n) (by omega) (by omega) (by rw [show mt (apM X.1) 4095 (4096 - cn) - 1 = b1n by omega]; exact c11)]; rw [e_b1n]; exact (nI_pred _).symm) | (rw [mt_f2 (s := c1n) (by omega) c11]; done) | (rw [mt_f2 (s := c1n) (by omega) c11]; rw [e_b1n]; exact (nI_pred _).symm)) rfl ls (lv_sub hl [1, 0, 3] rfl)
                  · refine lv_iload_n hx hb dX4_tells_72 rfl (lv_at hl 2 rfl) ?_
                    refine lv_goto (tgt := 77) hx hb dX4_tells_73 (by decide) ?_
                    refine lv_istore_n (lv' := [(1, .int (nI c1n)), (3, .int (nI 1)), (2, .int (nI c1n)), (0, .ref (am 0))]) hx hb dX4_tells_77 rfl hl (by decide) rfl (fun ls hl => ?_)
                    refine nv_iincm1 (lv' := [(2, .int (nI (c1n) - nI (1))), (1, .int (nI c1n)), (3, .int (nI 1)), (0, .ref (am 0))]) hx hb dX4_tells_78 hl (k := 2) rfl (by decide) rfl (fun ls hl => ?_)
                    refine lv_goto (tgt := 35) hx hb dX4_tells_81 (by decide) ?_
                    exact ih35 (c1n) (by omega) (by omega) (nI (c1n)) (nI (c1n) - nI (1)) (by rw [show 4096 - c1n = (4096 - cn) + 1 by omega]; first | (rw [mt_t (s := c1n) (by omega) (by first | exact Or.inl c8 | (refine Or.inr ?_; rw [show mt (apM X.1) 4095 (4096 - cn) - 1 = b1n by omega]; exact c8)) c11]; exact (nI_pred _).symm) | (rw [mt_f1 (s := c1n) (by omega) (by omega) (by rw [show mt (apM X.1) 4095 (4096 - cn) - 1 = b1n by omega]; exact c11)]; done) | (rw [mt_f1 (s := c1n) (by omega) (by omega) (by rw [show mt (apM X.1) 4095 (4096 - cn) - 1 = b1n by omega]; exact c11)]; rw [e_b1n]; exact (nI_pred _).symm) | (rw [mt_f2 (s := c1n) (by omega) c11]; done) | (rw [mt_f2 (s := c1n) (by omega) c11]; rw [e_b1n]; exact (nI_pred _).symm)) rfl ls (lv_sub hl [1, 0, 3] rfl)
        exact L35 _ (4096) (Nat.lt_succ_self _) (by omega) (-1) (nI (4095)) (by rfl) (by decide) ls (lv_sub hl [1, 0, 2] rfl)
      · refine lv_aload_n hx hb dX4_tells_12 rfl (lv_at hl 1 rfl) ?_
        refine va_get (D := D) (ci := 4) (v := .ref (am 8)) (C := RX4) (T := TX4) (N := 24) hx hb hts hinX4 hown hK hP 0 rfl rfl 8 (by decide) (hts (.fieldLink RX4 31 "OneShortModel" "barSets" "[I") (List.mem_of_getElem? (i := 2) rfl)) (fun _ h9 => h9) rfl dX4_tells_13 ?_
        refine lv_iload_n hx hb dX4_tells_16 rfl (lv_at hl 0 rfl) ?_
        refine lv_aload_n hx hb dX4_tells_17 rfl (lv_at hl 1 rfl) ?_
        refine lv_iload_n hx hb dX4_tells_18 rfl (lv_at hl 0 rfl) ?_
        refine ro_V (n := 1) (As := [.int (nI i)]) (rest := [.int (nI i), .ref (am 8)]) ⟨hx, hb, hml, hown, hts⟩ (c_X4_barsOf l D ci am X kr q0 q1 q2 q3 q4 q5 iw kn y0 y1 y2 y3 y4 y5 y6 (i) hWF (by omega)) gX4_tells_X4_barsOf rfl ⟨rfl, rfl⟩ (by decide +kernel) rfl ⟨Nat.le_of_ble_eq_true rfl, Nat.le_of_ble_eq_true rfl⟩ hE trivial hK hP (ci := 4) (q0 := 0) rfl rfl hl.1 rfl (Nat.le_of_ble_eq_true rfl) dX4_tells_19 ⟨Nat.zero_le _, Nat.zero_le _⟩ ?_
        have f12 := bPlay_lt X.1 (i)
        refine nv_iast hx hb hK hP hD hS 8 0 rfl rfl (by omega) (by decide) dX4_tells_22 (fun H locs hP hD hS => ?_)
        have hP : va_P D vwCl (wN ci am X kr q0 q1 q2 q3 q4 q5 iw kn y0 y1 y2 y3 (upd y4 (i) (nI (bPlay X.1 i))) y5 y6) H := va_P.re (wN_y4 ci am X kr q0 q1 q2 q3 q4 q5 iw kn y0 y1 y2 y3 y4 y5 y6 (i) (nI (bPlay X.1 i))) hP
        have hD : va_D (aM am) (wN ci am X kr q0 q1 q2 q3 q4 q5 iw kn y0 y1 y2 y3 (upd y4 (i) (nI (bPlay X.1 i))) y5 y6) := wN_D hI
        refine nv_iinc1 (lv' := [(1, .int (nI (i + 1))), (0, .ref (am 0))]) hx hb dX4_tells_23 hl (k := 0) rfl (by decide) rfl (fun ls hl => ?_)
        refine lv_goto (tgt := 2) hx hb dX4_tells_26 (by decide) ?_
        exact ih2 (i + 1) ((upd y4 (i) (nI (bPlay X.1 i)))) (by omega) (by omega) (upd_all h_y rfl) (nI (i + 1)) rfl _ _ hP hS ls (lv_sub hl [0, 1] rfl)
  exact L2 _ (0) (y4) (Nat.lt_succ_self _) (by omega) (fun _ h => absurd h (Nat.not_lt_zero _)) (nI (0)) rfl _ _ hP hS ls (lv_sub hl [0, 1] rfl)

set_option maxHeartbeats 4000000 in
set_option maxRecDepth 100000 in
/-- X4_bestSwap -/
theorem c_X4_bestSwap (l : Launch) (D : va_G) (ci : Nat → ClassId) (am : Nat → Nat) (X : AS) (kr : Nat → Int32) (q0 q1 q2 q3 q4 q5 : Int32) (iw : Bool) (kn : Nat → Option Nat) (y0 y1 y2 y3 y4 y5 y6 : Nat → Int32) (hI : injA am 16)  (hWX : WFX X) (hkr : kOK X kr) : Met l yX4_bestSwap wsX4_bestSwap ({ frames := 8, cells := 0, slots := 0, locals := 185 } : Room) (va_Pc [.ref (am 0)] (ro_B D (tyL ci) (wN ci am X kr q0 q1 q2 q3 q4 q5 iw kn y0 y1 y2 y3 y4 y5 y6) (enT))) (mu_Q (aM am) (some (.int ((p_bestSwap X).1))) (fun H => ∃ (kr : Nat → Int32) (q0 : Int32) (q1 : Int32) (q2 : Int32) (q3 : Int32) (q4 : Int32) (q5 : Int32) (iw : Bool) (y0 : Nat → Int32) (y1 : Nat → Int32) (y2 : Nat → Int32) (y3 : Nat → Int32) (y4 : Nat → Int32) (y5 : Nat → Int32) (y6 : Nat → Int32), kOK (p_bestSwap X).2 kr ∧ va_P D vwCl (wN ci am ((p_bestSwap X).2) kr q0 q1 q2 q3 q4 q5 iw kn y0 y1 y2 y3 y4 y5 y6) H)) 0 0 (aM am) := by
  refine mu_Met (cc := cX4_bestSwap) (maxL := 7) (ret := (some .int)) [(0, .ref (am 0))] (wN_D hI) (by decide) rfl (Nat.le_of_ble_eq_true rfl) rfl ?_
  intro p e s m below meth c H locs hx hb hml hr hlocks hts hown hP hK hs0 hD hS ls hl
  have hown : s.vm.findClass RX4 = some m.cls := hown
  have hinX4 : ∀ w ∈ wsX40, w ∈ wsX4_bestSwap := by decide +kernel
  have hE := hE_T
  have hWF := hWX.w
  have f_n := hWF.n
  have f_e := hWX.e
  have f_tl := hWX.t
  refine lv_iconst (v := -1) hx hb dX4_bestSwap_0 (by decide) ?_
  refine lv_istore_n (lv' := [(1, .int (-1)), (0, .ref (am 0))]) hx hb dX4_bestSwap_1 rfl hl (by decide) rfl (fun ls hl => ?_)
  refine lv_iconst (v := -1) hx hb dX4_bestSwap_2 (by decide) ?_
  refine lv_istore_n (lv' := [(2, .int (-1)), (1, .int (-1)), (0, .ref (am 0))]) hx hb dX4_bestSwap_3 rfl hl (by decide) rfl (fun ls hl => ?_)
  refine lv_iconst (v := nI (0)) hx hb dX4_bestSwap_4 (by decide) ?_
  refine lv_istore_n (lv' := [(3, .int (nI 0)), (2, .int (-1)), (1, .int (-1)), (0, .ref (am 0))]) hx hb dX4_bestSwap_5 rfl hl (by decide) rfl (fun ls hl => ?_)
  have L6 : ∀ (k6 : Nat) (i : Nat), X.1 7 0 - i < k6 → (i ≤ X.1 7 0) → ∀ (x1 : Int32), ∀ (x2 : Int32), ∀ (x3 : Int32), x1 = nI ((bsI X.1 (i)).1) - nI (1) → x2 = nI ((bsI X.1 (i)).2) - nI (1) → x3 = nI (i) → ∀ (H : Heap) (locs : List Loc), va_P D vwCl (wN ci am X kr q0 q1 q2 q3 q4 q5 iw kn y0 y1 y2 y3 y4 y5 y6) H → va_S (aM am) s.heap H locs → ∀ ls : Array Slot, lv_has ls 7 [(1, .int (x1)), (2, .int (x2)), (3, .int (x3)), (0, .ref (am 0))] → W p l e (headSpec wsX4_bestSwap ({ frames := 8, cells := 0, slots := 0, locals := 185 } : Room)).room s m ([.ref (am 0)] : List Value).toArray below meth c H locs 0 0 (MQ below (mu_Q (aM am) (some (.int ((p_bestSwap X).1))) (fun H => ∃ (kr : Nat → Int32) (q0 : Int32) (q1 : Int32) (q2 : Int32) (q3 : Int32) (q4 : Int32) (q5 : Int32) (iw : Bool) (y0 : Nat → Int32) (y1 : Nat → Int32) (y2 : Nat → Int32) (y3 : Nat → Int32) (y4 : Nat → Int32) (y5 : Nat → Int32) (y6 : Nat → Int32), kOK (p_bestSwap X).2 kr ∧ va_P D vwCl (wN ci am ((p_bestSwap X).2) kr q0 q1 q2 q3 q4 q5 iw kn y0 y1 y2 y3 y4 y5 y6) H)) ([.ref (am 0)] : List Value).toArray s 0 0 (aM am)) (F0 m 6 ls []) := by
    intro k6
    induction k6 with
    | zero => intro i h0; exact absurd h0 (Nat.not_lt_zero _)
    | succ k6 ih6 =>
      intro i hk6 h_i x1 x2 x3 e1 e2 e3  H locs hP hS ls hl
      subst e1
      subst e2
      subst e3
      have hD : va_D (aM am) (wN ci am X kr q0 q1 q2 q3 q4 q5 iw kn y0 y1 y2 y3 y4 y5 y6) := wN_D hI
      have f_b := bsI_le hWF i
      have f_b1 := bsI1_le f_n i h_i
      refine lv_iload_n hx hb dX4_bestSwap_6 rfl (lv_at hl 2 rfl) ?_
      refine lv_aload_n hx hb dX4_bestSwap_7 rfl (lv_at hl 3 rfl) ?_
      refine va_get (D := D) (ci := 4) (v := .ref (am 1)) (C := RX4) (T := TX4) (N := 24) hx hb hts hinX4 hown hK hP 0 rfl rfl 0 (by decide) (hts (.fieldLink RX4 9 "OneShortModel" "now" "[I") (List.mem_of_getElem? (i := 1) rfl)) (fun _ h9 => h9) rfl dX4_bestSwap_8 ?_
      refine lv_iconst (v := nI (1)) hx hb dX4_bestSwap_11 (by decide) ?_
      refine nv_iald (v := nI (X.1 7 0)) hx hb hK hP 1 0 rfl rfl (by omega) (by decide) (pk_n X.1) dX4_bestSwap_12 ?_
      refine nv_icmp_ge (tgt := 101) hx hb (by omega) (by omega) dX4_bestSwap_13 (by decide) (fun c1 => ?_) (fun c1 => ?_)
      · refine lv_aload_n hx hb dX4_bestSwap_101 rfl (lv_at hl 3 rfl) ?_
        refine lv_iload_n hx hb dX4_bestSwap_102 rfl (lv_at hl 0 rfl) ?_
        refine mu_V (n := 1) (As := [.int (nI ((bsI X.1 (i)).1) - nI (1))]) (rest := []) ⟨hx, hb, hml, hown, hts⟩ (c_X4_orNone l D ci am X kr q0 q1 q2 q3 q4 q5 iw kn y0 y1 y2 y3 y4 y5 y6 hI ((bsI X.1 (i)).1) (by omega)) gX4_bestSwap_X4_orNone rfl ⟨rfl, rfl⟩ (by decide +kernel) rfl ⟨Nat.le_of_ble_eq_true rfl, Nat.le_of_ble_eq_true rfl⟩ hE trivial hK hP (ci := 4) (q0 := 0) rfl rfl hl.1 rfl (Nat.le_of_ble_eq_true rfl) dX4_bestSwap_103 ⟨Nat.zero_le _, Nat.zero_le _⟩ hS (fun _ h => h) (fun H1 locs hz hfr hB hS => ?_)
        have hP := hB
        have hP : va_P D vwCl (wN ci am ((bk X (decide (0 < ((bsI X.1 (i)).1))) 3 (nI (((bsI X.1 (i)).1) - 1), X)).2) kr q0 q1 q2 q3 q4 q5 iw kn y0 y1 y2 y3 y4 y5 y6) H1 := hP
        generalize H1 = H at hP hS ⊢
        have hD : va_D (aM am) (wN ci am ((bk X (decide (0 < ((bsI X.1 (i)).1))) 3 (nI (((bsI X.1 (i)).1) - 1), X)).2) kr q0 q1 q2 q3 q4 q5 iw kn y0 y1 y2 y3 y4 y5 y6) := wN_D hI
        have hp : p_bestSwap X = ((bk X (decide (0 < ((bsI X.1 (i)).1))) 3 (nI (((bsI X.1 (i)).1) - 1), X)).1, (bk X (decide (0 < ((bsI X.1 (i)).1))) 3 (nI (((bsI X.1 (i)).1) - 1), X)).2) := by rw [p_bestSwap, show X.1 7 0 = i by omega]
        refine nv_cv (show (bk X (decide (0 < ((bsI X.1 (i)).1))) 3 (nI (((bsI X.1 (i)).1) - 1), X)).1 = (p_bestSwap X).1 from by rw [hp]) ?_
        exact mu_iret hx hb hr hlocks hS ((by rw [hp]; exact ⟨_, _, _, _, _, _, _, _, _, _, _, _, _, _, _, (by first | exact kOK_bk hkr hkr | exact hkr), hP⟩)) dX4_bestSwap_106
      · refine lv_iload_n hx hb dX4_bestSwap_16 rfl (lv_at hl 2 rfl) ?_
        refine lv_iconst (v := nI (1)) hx hb dX4_bestSwap_17 (by decide) ?_
        refine nv_iadd hx hb dX4_bestSwap_18 ?_
        refine lv_istore (lv' := [(4, .int (nI ((i + 1)))), (1, .int (nI ((bsI X.1 (i)).1) - nI (1))), (2, .int (nI ((bsI X.1 (i)).2) - nI (1))), (3, .int (nI i)), (0, .ref (am 0))]) hx hb dX4_bestSwap_19 hl (by decide) rfl (fun ls hl => ?_)
        have L21 : ∀ (k21 : Nat) (k : Nat), X.1 7 0 - (i + 1 + k) < k21 → (i + 1 + k ≤ X.1 7 0) → ∀ (x1 : Int32), ∀ (x2 : Int32), ∀ (x4 : Int32), x1 = nI ((bsJ X.1 i (bsI X.1 i) (k)).1) - nI (1) → x2 = nI ((bsJ X.1 i (bsI X.1 i) (k)).2) - nI (1) → x4 = nI ((i + 1 + k)) → ∀ (H : Heap) (locs : List Loc), va_P D vwCl (wN ci am X kr q0 q1 q2 q3 q4 q5 iw kn y0 y1 y2 y3 y4 y5 y6) H → va_S (aM am) s.heap H locs → ∀ ls : Array Slot, lv_has ls 7 [(1, .int (x1)), (2, .int (x2)), (4, .int (x4)), (3, .int (nI i)), (0, .ref (am 0))] → W p l e (headSpec wsX4_bestSwap ({ frames := 8, cells := 0, slots := 0, locals := 185 } : Room)).room s m ([.ref (am 0)] : List Value).toArray below meth c H locs 0 0 (MQ below (mu_Q (aM am) (some (.int ((p_bestSwap X).1))) (fun H => ∃ (kr : Nat → Int32) (q0 : Int32) (q1 : Int32) (q2 : Int32) (q3 : Int32) (q4 : Int32) (q5 : Int32) (iw : Bool) (y0 : Nat → Int32) (y1 : Nat → Int32) (y2 : Nat → Int32) (y3 : Nat → Int32) (y4 : Nat → Int32) (y5 : Nat → Int32) (y6 : Nat → Int32), kOK (p_bestSwap X).2 kr ∧ va_P D vwCl (wN ci am ((p_bestSwap X).2) kr q0 q1 q2 q3 q4 q5 iw kn y0 y1 y2 y3 y4 y5 y6) H)) ([.ref (am 0)] : List Value).toArray s 0 0 (aM am)) (F0 m 21 ls []) := by
          intro k21
          induction k21 with
          | zero => intro k h0; exact absurd h0 (Nat.not_lt_zero _)
          | succ k21 ih21 =>
            intro k hk21 h_k x1 x2 x4 e1 e2 e4  H locs hP hS ls hl
            subst e1
            subst e2
            subst e4
            have hD : va_D (aM am) (wN ci am X kr q0 q1 q2 q3 q4 q5 iw kn y0 y1 y2 y3 y4 y5 y6) := wN_D hI
            have f_bk := bsJ_le hWF f_b (i := i) k
            have f_l := links_le (WF_swS hWF i (i + 1 + k))
            have f_z1 := ite01 (X.1 2 i = X.1 2 (i + 1 + k))
            have f_z2 := ite01 (swS X.1 i (i + 1 + k) 2 i = swS X.1 i (i + 1 + k) 2 (i + 1 + k))
            refine lv_iload hx hb dX4_bestSwap_21 (lv_at hl 2 rfl) ?_
            refine lv_aload_n hx hb dX4_bestSwap_23 rfl (lv_at hl 4 rfl) ?_
            refine va_get (D := D) (ci := 4) (v := .ref (am 1)) (C := RX4) (T := TX4) (N := 24) hx hb hts hinX4 hown hK hP 0 rfl rfl 0 (by decide) (hts (.fieldLink RX4 9 "OneShortModel" "now" "[I") (List.mem_of_getElem? (i := 1) rfl)) (fun _ h9 => h9) rfl dX4_bestSwap_24 ?_
            refine lv_iconst (v := nI (1)) hx hb dX4_bestSwap_27 (by decide) ?_
            refine nv_iald (v := nI (X.1 7 0)) hx hb hK hP 1 0 rfl rfl (by omega) (by decide) (pk_n X.1) dX4_bestSwap_28 ?_
            refine nv_icmp_ge (tgt := 95) hx hb (by omega) (by omega) dX4_bestSwap_29 (by decide) (fun c2 => ?_) (fun c2 => ?_)
            · refine nv_iinc1 (lv' := [(3, .int (nI (i + 1))), (1, .int (nI ((bsJ X.1 i (bsI X.1 i) (k)).1) - nI (1))), (2, .int (nI ((bsJ X.1 i (bsI X.1 i) (k)).2) - nI (1))), (4, .int (nI ((i + 1 + k)))), (0, .ref (am 0))]) hx hb dX4_bestSwap_95 hl (k := 3) rfl (by decide) rfl (fun ls hl => ?_)
              refine lv_goto (tgt := 6) hx hb dX4_bestSwap_98 (by decide) ?_
              exact ih6 (i + 1) (by omega) (by omega) (nI ((bsJ X.1 i (bsI X.1 i) (k)).1) - nI (1)) (nI ((bsJ X.1 i (bsI X.1 i) (k)).2) - nI (1)) (nI (i + 1)) (by rw [show k = X.1 7 0 - (i + 1) by omega]; rfl) (by rw [show k = X.1 7 0 - (i + 1) by omega]; rfl) rfl _ _ hP hS ls (lv_sub hl [1, 2, 0, 4] rfl)
            · refine lv_aload_n hx hb dX4_bestSwap_32 rfl (lv_at hl 4 rfl) ?_
              refine lv_iload_n hx hb dX4_bestSwap_33 rfl (lv_at hl 3 rfl) ?_
              refine lv_iload hx hb dX4_bestSwap_34 (lv_at hl 2 rfl) ?_
              refine mu_V (n := 2) (As := [.int (nI i), .int (nI ((i + 1 + k)))]) (rest := []) ⟨hx, hb, hml, hown, hts⟩ (c_X4_swapped l D ci am X kr q0 q1 q2 q3 q4 q5 iw kn y0 y1 y2 y3 y4 y5 y6 hI (i) ((i + 1 + k)) hWF (by omega) (by omega) (by omega)) gX4_bestSwap_X4_swapped rfl ⟨rfl, rfl⟩ (by decide +kernel) rfl ⟨Nat.le_of_ble_eq_true rfl, Nat.le_of_ble_eq_true rfl⟩ hE trivial hK hP (ci := 4) (q0 := 0) rfl rfl hl.1 rfl (Nat.le_of_ble_eq_true rfl) dX4_bestSwap_36 ⟨Nat.zero_le _, Nat.zero_le _⟩ hS (fun _ h => h) (fun H1 locs hz hfr hB hS => ?_)
              have hP := hB
              have hP : va_P D vwCl (wN ci am (toS X (swS X.1 i (i + 1 + k))) kr q0 q1 q2 q3 q4 q5 iw kn y0 y1 y2 y3 y4 y5 y6) H1 := hP
              generalize H1 = H at hP hS ⊢
              have hD : va_D (aM am) (wN ci am (toS X (swS X.1 i (i + 1 + k))) kr q0 q1 q2 q3 q4 q5 iw kn y0 y1 y2 y3 y4 y5 y6) := wN_D hI
              refine lv_istore (lv' := [(5, .int (nI ((if X.1 2 i = X.1 2 (i + 1 + k) then 0 else 1)))), (1, .int (nI ((bsJ X.1 i (bsI X.1 i) (k)).1) - nI (1))), (2, .int (nI ((bsJ X.1 i (bsI X.1 i) (k)).2) - nI (1))), (4, .int (nI ((i + 1 + k)))), (3, .int (nI i)), (0, .ref (am 0))]) hx hb dX4_bestSwap_39 hl (by decide) rfl (fun ls hl => ?_)
              refine lv_aload_n hx hb dX4_bestSwap_41 rfl (lv_at hl 5 rfl) ?_
              refine ro_V (n := 0) (As := []) (rest := []) ⟨hx, hb, hml, hown, hts⟩ (c_X4_linksNow l D ci am (toS X (swS X.1 i (i + 1 + k))) kr q0 q1 q2 q3 q4 q5 iw kn y0 y1 y2 y3 y4 y5 y6  (WF_swS hWF i (i + 1 + k))) gX4_bestSwap_X4_linksNow rfl ⟨rfl, rfl⟩ (by decide +kernel) rfl ⟨Nat.le_of_ble_eq_true rfl, Nat.le_of_ble_eq_true rfl⟩ hE trivial hK hP (ci := 4) (q0 := 0) rfl rfl hl.1 rfl (Nat.le_of_ble_eq_true rfl) dX4_bestSwap_42 ⟨Nat.zero_le _, Nat.zero_le _⟩ ?_
              refine nv_cv (show nI (links (toS X (swS X.1 i (i + 1 + k))).1) = nI (links (swS X.1 i (i + 1 + k))) from rfl) ?_
              refine nv_cv (show nI (links (swS X.1 i (i + 1 + k))) = nI (links (swS X.1 i (i + 1 + k))) from rfl) ?_
              refine lv_istore (lv' := [(6, .int (nI (links (swS X.1 i (i + 1 + k))))), (5, .int (nI ((if X.1 2 i = X.1 2 (i + 1 + k) then 0 else 1)))), (1, .int (nI ((bsJ X.1 i (bsI X.1 i) (k)).1) - nI (1))), (2, .int (nI ((bsJ X.1 i (bsI X.1 i) (k)).2) - nI (1))), (4, .int (nI ((i + 1 + k)))), (3, .int (nI i)), (0, .ref (am 0))]) hx hb dX4_bestSwap_45 hl (by decide) rfl (fun ls hl => ?_)
              refine lv_iload hx hb dX4_bestSwap_47 (lv_at hl 1 rfl) ?_
              refine lv_aload_n hx hb dX4_bestSwap_49 rfl (lv_at hl 6 rfl) ?_
              refine lv_iload_n hx hb dX4_bestSwap_50 rfl (lv_at hl 5 rfl) ?_
              refine lv_iload hx hb dX4_bestSwap_51 (lv_at hl 4 rfl) ?_
              refine mu_V (n := 2) (As := [.int (nI i), .int (nI ((i + 1 + k)))]) (rest := [.int (nI ((if X.1 2 i = X.1 2 (i + 1 + k) then 0 else 1)))]) ⟨hx, hb, hml, hown, hts⟩ (c_X4_swapped l D ci am (toS X (swS X.1 i (i + 1 + k))) kr q0 q1 q2 q3 q4 q5 iw kn y0 y1 y2 y3 y4 y5 y6 hI (i) ((i + 1 + k)) (WF_swS hWF i (i + 1 + k)) (by omega) (by omega) (by omega)) gX4_bestSwap_X4_swapped rfl ⟨rfl, rfl⟩ (by decide +kernel) rfl ⟨Nat.le_of_ble_eq_true rfl, Nat.le_of_ble_eq_true rfl⟩ hE trivial hK hP (ci := 4) (q0 := 0) rfl rfl hl.1 rfl (Nat.le_of_ble_eq_true rfl) dX4_bestSwap_53 ⟨Nat.zero_le _, Nat.zero_le _⟩ hS (fun _ h => h) (fun H1 locs hz hfr hB hS => ?_)
              have hP := hB
              have hP : va_P D vwCl (wN ci am (toS X (swS (swS X.1 i (i + 1 + k)) i (i + 1 + k))) kr q0 q1 q2 q3 q4 q5 iw kn y0 y1 y2 y3 y4 y5 y6) H1 := hP
              generalize H1 = H at hP hS ⊢
              have hD : va_D (aM am) (wN ci am (toS X (swS (swS X.1 i (i + 1 + k)) i (i + 1 + k))) kr q0 q1 q2 q3 q4 q5 iw kn y0 y1 y2 y3 y4 y5 y6) := wN_D hI
              refine nv_cv (show nI ((if (toS X (swS X.1 i (i + 1 + k))).1 2 i = (toS X (swS X.1 i (i + 1 + k))).1 2 (i + 1 + k) then 0 else 1)) = nI ((if (swS X.1 i (i + 1 + k)) 2 i = (swS X.1 i (i + 1 + k)) 2 (i + 1 + k) then 0 else 1)) from rfl) ?_
              refine nv_iadd hx hb dX4_bestSwap_56 ?_
              refine lv_istore (lv' := [(5, .int (nI (((if X.1 2 i = X.1 2 (i + 1 + k) then 0 else 1) + (if (swS X.1 i (i + 1 + k)) 2 i = (swS X.1 i (i + 1 + k)) 2 (i + 1 + k) then 0 else 1))))), (6, .int (nI (links (swS X.1 i (i + 1 + k))))), (1, .int (nI ((bsJ X.1 i (bsI X.1 i) (k)).1) - nI (1))), (2, .int (nI ((bsJ X.1 i (bsI X.1 i) (k)).2) - nI (1))), (4, .int (nI ((i + 1 + k)))), (3, .int (nI i)), (0, .ref (am 0))]) hx hb dX4_bestSwap_57 hl (by decide) rfl (fun ls hl => ?_)
              refine lv_iload hx hb dX4_bestSwap_59 (lv_at hl 1 rfl) ?_
              refine lv_iload_n hx hb dX4_bestSwap_61 rfl (lv_at hl 3 rfl) ?_
              refine nv_icmp_le_D (tgt := 80) hx hb (by omega) (by omega) dX4_bestSwap_62 (by decide) (fun c3 => ?_) (fun c3 => ?_)
              · refine lv_iload_n hx hb dX4_bestSwap_80 rfl (lv_at hl 2 rfl) ?_
                refine lv_istore_n (lv' := [(1, .int (nI ((bsJ X.1 i (bsI X.1 i) (k)).1) - nI (1))), (5, .int (nI (((if X.1 2 i = X.1 2 (i + 1 + k) then 0 else 1) + (if (swS X.1 i (i + 1 + k)) 2 i = (swS X.1 i (i + 1 + k)) 2 (i + 1 + k) then 0 else 1))))), (6, .int (nI (links (swS X.1 i (i + 1 + k))))), (2, .int (nI ((bsJ X.1 i (bsI X.1 i) (k)).2) - nI (1))), (4, .int (nI ((i + 1 + k)))), (3, .int (nI i)), (0, .ref (am 0))]) hx hb dX4_bestSwap_81 rfl hl (by decide) rfl (fun ls hl => ?_)
                refine lv_iload_n hx hb dX4_bestSwap_82 rfl (lv_at hl 3 rfl) ?_
                refine lv_iload hx hb dX4_bestSwap_83 (lv_at hl 2 rfl) ?_
                refine va_mmax hx hb (hml.trans hl.1.symm) hown (hts (.methodLink RX4 118 Lib.Math.max.name) (List.mem_of_getElem? (i := 2) rfl)) (hts (.static Lib.Math.max.name) (List.mem_of_getElem? (i := 3) rfl)) (hts (.initialized "java/lang/Math") (List.mem_of_getElem? (i := 4) rfl)) (hts (.code Lib.Math.max.name Lib.Math.max.code 2 (some .int)) (List.mem_of_getElem? (i := 5) rfl)) (Nat.le_of_ble_eq_true rfl) (Nat.le_of_ble_eq_true rfl) (Nat.zero_le _) (Nat.zero_le _) dX4_bestSwap_85 (nv_cv (nv_maxD (m := (bsJ X.1 i (bsI X.1 i) (k)).2) (x := links (swS X.1 i (i + 1 + k))) (by omega) (by omega)) ?_)
                refine lv_istore_n (lv' := [(2, .int (nI (max ((bsJ X.1 i (bsI X.1 i) (k)).2) (links (swS X.1 i (i + 1 + k)) + 1)) - nI (1))), (1, .int (nI ((bsJ X.1 i (bsI X.1 i) (k)).1) - nI (1))), (5, .int (nI (((if X.1 2 i = X.1 2 (i + 1 + k) then 0 else 1) + (if (swS X.1 i (i + 1 + k)) 2 i = (swS X.1 i (i + 1 + k)) 2 (i + 1 + k) then 0 else 1))))), (6, .int (nI (links (swS X.1 i (i + 1 + k))))), (4, .int (nI ((i + 1 + k)))), (3, .int (nI i)), (0, .ref (am 0))]) hx hb dX4_bestSwap_88 rfl hl (by decide) rfl (fun ls hl => ?_)
                refine nv_iinc1 (lv' := [(4, .int (nI ((i + 1 + k) + 1))), (2, .int (nI (max ((bsJ X.1 i (bsI X.1 i) (k)).2) (links (swS X.1 i (i + 1 + k)) + 1)) - nI (1))), (1, .int (nI ((bsJ X.1 i (bsI X.1 i) (k)).1) - nI (1))), (5, .int (nI (((if X.1 2 i = X.1 2 (i + 1 + k) then 0 else 1) + (if (swS X.1 i (i + 1 + k)) 2 i = (swS X.1 i (i + 1 + k)) 2 (i + 1 + k) then 0 else 1))))), (6, .int (nI (links (swS X.1 i (i + 1 + k))))), (3, .int (nI i)), (0, .ref (am 0))]) hx hb dX4_bestSwap_89 hl (k := 4) rfl (by decide) rfl (fun ls hl => ?_)
                refine lv_goto (tgt := 21) hx hb dX4_bestSwap_92 (by decide) ?_
                exact ih21 (k + 1) (by omega) (by omega) (nI ((bsJ X.1 i (bsI X.1 i) (k)).1) - nI (1)) (nI (max ((bsJ X.1 i (bsI X.1 i) (k)).2) (links (swS X.1 i (i + 1 + k)) + 1)) - nI (1)) (nI ((i + 1 + k) + 1)) (by rw [bsJ]; first | (rw [if_pos c3]; exact (nI_pred _).symm) | rw [if_neg (Nat.not_lt.mpr c3)]) (by exact congrArg (fun z => nI z - nI 1) (bsJ_max _ _ _ _)) (nv_e (by omega)) _ _ (va_P.re (by exact congrArg (fun z9 => wN ci am (toS X z9) kr q0 q1 q2 q3 q4 q5 iw kn y0 y1 y2 y3 y4 y5 y6) (swS_swS (by omega))) hP) hS ls (lv_sub hl [2, 1, 0, 5, 6] rfl)
              · refine lv_iload hx hb dX4_bestSwap_65 (lv_at hl 0 rfl) ?_
                refine nv_iflt (tgt := 80) hx hb (by omega) dX4_bestSwap_67 (by decide) ?_
                refine lv_bipush (v := nI (8)) hx hb dX4_bestSwap_70 (by decide) ?_
                refine lv_iload_n hx hb dX4_bestSwap_72 rfl (lv_at hl 5 rfl) ?_
                refine nv_imul hx hb dX4_bestSwap_73 ?_
                refine lv_iload hx hb dX4_bestSwap_74 (lv_at hl 4 rfl) ?_
                refine nv_iadd hx hb dX4_bestSwap_76 ?_
                refine lv_goto (tgt := 81) hx hb dX4_bestSwap_77 (by decide) ?_
                refine lv_istore_n (lv' := [(1, .int (nI (((8 * i) + (i + 1 + k))))), (5, .int (nI (((if X.1 2 i = X.1 2 (i + 1 + k) then 0 else 1) + (if (swS X.1 i (i + 1 + k)) 2 i = (swS X.1 i (i + 1 + k)) 2 (i + 1 + k) then 0 else 1))))), (6, .int (nI (links (swS X.1 i (i + 1 + k))))), (2, .int (nI ((bsJ X.1 i (bsI X.1 i) (k)).2) - nI (1))), (4, .int (nI ((i + 1 + k)))), (3, .int (nI i)), (0, .ref (am 0))]) hx hb dX4_bestSwap_81 rfl hl (by decide) rfl (fun ls hl => ?_)
                refine lv_iload_n hx hb dX4_bestSwap_82 rfl (lv_at hl 3 rfl) ?_
                refine lv_iload hx hb dX4_bestSwap_83 (lv_at hl 2 rfl) ?_
                refine va_mmax hx hb (hml.trans hl.1.symm) hown (hts (.methodLink RX4 118 Lib.Math.max.name) (List.mem_of_getElem? (i := 2) rfl)) (hts (.static Lib.Math.max.name) (List.mem_of_getElem? (i := 3) rfl)) (hts (.initialized "java/lang/Math") (List.mem_of_getElem? (i := 4) rfl)) (hts (.code Lib.Math.max.name Lib.Math.max.code 2 (some .int)) (List.mem_of_getElem? (i := 5) rfl)) (Nat.le_of_ble_eq_true rfl) (Nat.le_of_ble_eq_true rfl) (Nat.zero_le _) (Nat.zero_le _) dX4_bestSwap_85 (nv_cv (nv_maxD (m := (bsJ X.1 i (bsI X.1 i) (k)).2) (x := links (swS X.1 i (i + 1 + k))) (by omega) (by omega)) ?_)
                refine lv_istore_n (lv' := [(2, .int (nI (max ((bsJ X.1 i (bsI X.1 i) (k)).2) (links (swS X.1 i (i + 1 + k)) + 1)) - nI (1))), (1, .int (nI (((8 * i) + (i + 1 + k))))), (5, .int (nI (((if X.1 2 i = X.1 2 (i + 1 + k) then 0 else 1) + (if (swS X.1 i (i + 1 + k)) 2 i = (swS X.1 i (i + 1 + k)) 2 (i + 1 + k) then 0 else 1))))), (6, .int (nI (links (swS X.1 i (i + 1 + k))))), (4, .int (nI ((i + 1 + k)))), (3, .int (nI i)), (0, .ref (am 0))]) hx hb dX4_bestSwap_88 rfl hl (by decide) rfl (fun ls hl => ?_)
                refine nv_iinc1 (lv' := [(4, .int (nI ((i + 1 + k) + 1))), (2, .int (nI (max ((bsJ X.1 i (bsI X.1 i) (k)).2) (links (swS X.1 i (i + 1 + k)) + 1)) - nI (1))), (1, .int (nI (((8 * i) + (i + 1 + k))))), (5, .int (nI (((if X.1 2 i = X.1 2 (i + 1 + k) then 0 else 1) + (if (swS X.1 i (i + 1 + k)) 2 i = (swS X.1 i (i + 1 + k)) 2 (i + 1 + k) then 0 else 1))))), (6, .int (nI (links (swS X.1 i (i + 1 + k))))), (3, .int (nI i)), (0, .ref (am 0))]) hx hb dX4_bestSwap_89 hl (k := 4) rfl (by decide) rfl (fun ls hl => ?_)
                refine lv_goto (tgt := 21) hx hb dX4_bestSwap_92 (by decide) ?_
                exact ih21 (k + 1) (by omega) (by omega) (nI (((8 * i) + (i + 1 + k)))) (nI (max ((bsJ X.1 i (bsI X.1 i) (k)).2) (links (swS X.1 i (i + 1 + k)) + 1)) - nI (1)) (nI ((i + 1 + k) + 1)) (by rw [bsJ]; first | (rw [if_pos c3]; exact (nI_pred _).symm) | rw [if_neg (Nat.not_lt.mpr c3)]) (by exact congrArg (fun z => nI z - nI 1) (bsJ_max _ _ _ _)) (nv_e (by omega)) _ _ (va_P.re (by exact congrArg (fun z9 => wN ci am (toS X z9) kr q0 q1 q2 q3 q4 q5 iw kn y0 y1 y2 y3 y4 y5 y6) (swS_swS (by omega))) hP) hS ls (lv_sub hl [2, 1, 0, 5, 6] rfl)
        exact L21 _ (0) (Nat.lt_succ_self _) (by omega) (nI ((bsI X.1 (i)).1) - nI (1)) (nI ((bsI X.1 (i)).2) - nI (1)) (nI ((i + 1))) rfl rfl rfl _ _ hP hS ls (lv_sub hl [1, 2, 0, 3, 4] rfl)
  exact L6 _ (0) (Nat.lt_succ_self _) (by omega) (-1) (-1) (nI (0)) (by rfl) (by rfl) rfl _ _ hP hS ls (lv_sub hl [2, 1, 0, 3] rfl)
