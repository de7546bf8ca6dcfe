/-! walks laid by program -/
set_option maxHeartbeats 4000000 in
set_option maxRecDepth 100000 in
/-- X3_leastTouching -/
theorem c_X3_leastTouching (l : Launch) (D : va_G) (ci : Nat → ClassId) (G : Nat → Prop) (ka : Nat) (ad : Nat → Nat) (X : AS) (T : OS) (tq la tt : Nat → Int32) (z : Nat → Nat → Int32) (n e_ : Nat) (tl : Nat → Nat) (hWX : WFX X) (h_n : n ≤ 256) (h_e : e_ ≤ 4096) (h_tt : ∀ i, i < n → tt i = nI (tl i)) : Met l yX3_leastTouching wsX3_leastTouching ({ frames := 1, cells := 0, slots := 0, locals := 23 } : Room) (va_Pc [.ref (ad 0), .int (nI n), .int (nI e_)] (ro_B D (tyL ci) (wX ci ad X T tq la tt z) (en D (ci 0) G ka))) (ro_Q (some (.int (nI ((ltb (fun t => !anyTo (fun i => (t &&& tl i) == 0) n) e_).1))))) 0 0 (fun _ => False) := by
  refine ro_Met (cc := cX3_leastTouching) (maxL := 7) (ret := (some .int)) [(0, .ref (ad 0)), (1, .int (nI n)), (2, .int (nI e_))] (by decide) rfl (Nat.le_of_ble_eq_true rfl) rfl ?_
  intro p e s m below meth c hx hb hml hr hlocks hts hown hP hK hs ls hl
  have hown : s.vm.findClass RX3 = some m.cls := hown
  have hE := hE_en D (ci 0) G ka
  have hWF := hWX.w
  have f_n := hWF.n
  have f_e := hWX.e
  have f_tl := hWX.t
  refine lv_iconst (v := nI (0)) hx hb dX3_leastTouching_0 (by decide) ?_
  refine lv_istore_n (lv' := [(3, .int (nI 0)), (0, .ref (ad 0)), (1, .int (nI n)), (2, .int (nI e_))]) hx hb dX3_leastTouching_1 rfl hl (by decide) rfl (fun ls hl => ?_)
  refine lv_bipush (v := nI (13)) hx hb dX3_leastTouching_2 (by decide) ?_
  refine lv_istore (lv' := [(4, .int (nI 13)), (3, .int (nI 0)), (0, .ref (ad 0)), (1, .int (nI n)), (2, .int (nI e_))]) hx hb dX3_leastTouching_4 hl (by decide) rfl (fun ls hl => ?_)
  refine lv_iconst (v := nI (0)) hx hb dX3_leastTouching_6 (by decide) ?_
  refine lv_istore (lv' := [(5, .int (nI 0)), (4, .int (nI 13)), (3, .int (nI 0)), (0, .ref (ad 0)), (1, .int (nI n)), (2, .int (nI e_))]) hx hb dX3_leastTouching_7 hl (by decide) rfl (fun ls hl => ?_)
  have L9 : ∀ (k9 : Nat) (i : Nat), e_ - i < k9 → (i ≤ e_) → ∀ (x3 x4 x5 : Int32), x3 = nI ((ltb (fun t => !anyTo (fun i => (t &&& tl i) == 0) n) (i)).1) → x4 = nI ((ltb (fun t => !anyTo (fun i => (t &&& tl i) == 0) n) (i)).2) → x5 = nI (i) → ∀ ls : Array Slot, lv_has ls 7 [(3, .int (x3)), (4, .int (x4)), (5, .int (x5)), (0, .ref (ad 0)), (1, .int (nI n)), (2, .int (nI e_))] → W p l e (headSpec wsX3_leastTouching ({ frames := 1, cells := 0, slots := 0, locals := 23 } : Room)).room s m ([.ref (ad 0), .int (nI n), .int (nI e_)] : List Value).toArray below meth c s.heap [] 0 0 (MQ below (ro_Q (some (.int (nI ((ltb (fun t => !anyTo (fun i => (t &&& tl i) == 0) n) e_).1))))) ([.ref (ad 0), .int (nI n), .int (nI e_)] : List Value).toArray s 0 0 (fun _ => False)) (F0 m 9 ls []) := by
    intro k9
    induction k9 with
    | zero => intro i h0; exact absurd h0 (Nat.not_lt_zero _)
    | succ k9 ih9 =>
      intro i hk9 h_i x3 x4 x5 e3 e4 e5 ls hl
      subst e3
      subst e4
      subst e5
      have f_b := ltb_le (fun t => !anyTo (fun i => (t &&& tl i) == 0) n) i
      refine lv_iload hx hb dX3_leastTouching_9 (lv_at hl 2 rfl) ?_
      refine lv_iload_n hx hb dX3_leastTouching_11 rfl (lv_at hl 5 rfl) ?_
      refine nv_icmp_ge (tgt := 52) hx hb (by omega) (by omega) dX3_leastTouching_12 (by decide) (fun c1 => ?_) (fun c1 => ?_)
      · refine lv_iload_n hx hb dX3_leastTouching_52 rfl (lv_at hl 0 rfl) ?_
        refine nv_cv (show nI ((ltb (fun t => !anyTo (fun i => (t &&& tl i) == 0) n) (i)).1) = nI ((ltb (fun t => !anyTo (fun i => (t &&& tl i) == 0) n) e_).1) from nv_e (by rw [show e_ = i by omega])) ?_
        exact ro_iret hx hb hr hlocks dX3_leastTouching_53
      · refine lv_iload hx hb dX3_leastTouching_15 (lv_at hl 2 rfl) ?_
        refine ro_S (n := 1) (As := [.int (nI i)]) (rest := []) ⟨hx, hb, hml, hown, hts⟩ (c_J6_bitCount_0f7a4 l D ci (wX ci ad X T tq la tt z) (en D (ci 0) G ka) (i) (by omega)) gX3_leastTouching_J6_bitCount_0f7a4 rfl ⟨rfl, rfl⟩ (by decide +kernel) rfl ⟨Nat.le_of_ble_eq_true rfl, Nat.le_of_ble_eq_true rfl⟩ hE hs hK hP hl.1 rfl (Nat.le_of_ble_eq_true rfl) dX3_leastTouching_17 ⟨Nat.zero_le _, Nat.zero_le _⟩ ?_
        have f2 := pop_le (i)
        refine lv_istore (lv' := [(6, .int (nI (pop i))), (3, .int (nI ((ltb (fun t => !anyTo (fun i => (t &&& tl i) == 0) n) (i)).1))), (4, .int (nI ((ltb (fun t => !anyTo (fun i => (t &&& tl i) == 0) n) (i)).2))), (5, .int (nI i)), (0, .ref (ad 0)), (1, .int (nI n)), (2, .int (nI e_))]) hx hb dX3_leastTouching_20 hl (by decide) rfl (fun ls hl => ?_)
        refine lv_iload hx hb dX3_leastTouching_22 (lv_at hl 0 rfl) ?_
        refine lv_iload hx hb dX3_leastTouching_24 (lv_at hl 2 rfl) ?_
        refine nv_icmp_ge (tgt := 46) hx hb (by omega) (by omega) dX3_leastTouching_26 (by decide) (fun c3 => ?_) (fun c3 => ?_)
        · refine nv_iinc1 (lv' := [(5, .int (nI (i + 1))), (6, .int (nI (pop i))), (3, .int (nI ((ltb (fun t => !anyTo (fun i => (t &&& tl i) == 0) n) (i)).1))), (4, .int (nI ((ltb (fun t => !anyTo (fun i => (t &&& tl i) == 0) n) (i)).2))), (0, .ref (ad 0)), (1, .int (nI n)), (2, .int (nI e_))]) hx hb dX3_leastTouching_46 hl (k := 3) rfl (by decide) rfl (fun ls hl => ?_)
          refine lv_goto (tgt := 9) hx hb dX3_leastTouching_49 (by decide) ?_
          exact ih9 (i + 1) (by omega) (by omega) (nI ((ltb (fun t => !anyTo (fun i => (t &&& tl i) == 0) n) (i)).1)) (nI ((ltb (fun t => !anyTo (fun i => (t &&& tl i) == 0) n) (i)).2)) (nI (i + 1)) (nv_e (by first | rw [ltb_a c1 c3] | rw [ltb_b c3] | rw [ltb_c c3])) (nv_e (by first | rw [ltb_a c1 c3] | rw [ltb_b c3] | rw [ltb_c c3])) rfl ls (lv_sub hl [2, 3, 0, 4, 5, 6] rfl)
        · refine lv_aload_n hx hb dX3_leastTouching_29 rfl (lv_at hl 4 rfl) ?_
          refine lv_iload hx hb dX3_leastTouching_30 (lv_at hl 3 rfl) ?_
          refine lv_iload_n hx hb dX3_leastTouching_32 rfl (lv_at hl 5 rfl) ?_
          refine ro_V (n := 2) (As := [.int (nI i), .int (nI n)]) (rest := []) ⟨hx, hb, hml, hown, hts⟩ (c_X3_touchesAll l D ci G ka ad X T tq la tt z (i) (n) (tl) hWX (by omega) (by omega) h_tt) gX3_leastTouching_X3_touchesAll rfl ⟨rfl, rfl⟩ (by decide +kernel) rfl ⟨Nat.le_of_ble_eq_true rfl, Nat.le_of_ble_eq_true rfl⟩ hE hs hK hP (ci := 3) (q0 := 0) rfl rfl hl.1 rfl (Nat.le_of_ble_eq_true rfl) dX3_leastTouching_33 ⟨Nat.zero_le _, Nat.zero_le _⟩ ?_
          refine nv_ifeq_b (tgt := 46) hx hb dX3_leastTouching_36 (by decide) (fun c4 => ?_) (fun c4 => ?_)
          · refine nv_iinc1 (lv' := [(5, .int (nI (i + 1))), (6, .int (nI (pop i))), (3, .int (nI ((ltb (fun t => !anyTo (fun i => (t &&& tl i) == 0) n) (i)).1))), (4, .int (nI ((ltb (fun t => !anyTo (fun i => (t &&& tl i) == 0) n) (i)).2))), (0, .ref (ad 0)), (1, .int (nI n)), (2, .int (nI e_))]) hx hb dX3_leastTouching_46 hl (k := 3) rfl (by decide) rfl (fun ls hl => ?_)
            refine lv_goto (tgt := 9) hx hb dX3_leastTouching_49 (by decide) ?_
            exact ih9 (i + 1) (by omega) (by omega) (nI ((ltb (fun t => !anyTo (fun i => (t &&& tl i) == 0) n) (i)).1)) (nI ((ltb (fun t => !anyTo (fun i => (t &&& tl i) == 0) n) (i)).2)) (nI (i + 1)) (nv_e (by first | rw [ltb_a c3 c4] | rw [ltb_b c4] | rw [ltb_c c4])) (nv_e (by first | rw [ltb_a c3 c4] | rw [ltb_b c4] | rw [ltb_c c4])) rfl ls (lv_sub hl [2, 3, 0, 4, 5, 6] rfl)
          · refine lv_iload hx hb dX3_leastTouching_39 (lv_at hl 0 rfl) ?_
            refine lv_istore (lv' := [(4, .int (nI (pop i))), (6, .int (nI (pop i))), (3, .int (nI ((ltb (fun t => !anyTo (fun i => (t &&& tl i) == 0) n) (i)).1))), (5, .int (nI i)), (0, .ref (ad 0)), (1, .int (nI n)), (2, .int (nI e_))]) hx hb dX3_leastTouching_41 hl (by decide) rfl (fun ls hl => ?_)
            refine lv_iload hx hb dX3_leastTouching_43 (lv_at hl 3 rfl) ?_
            refine lv_istore_n (lv' := [(3, .int (nI i)), (4, .int (nI (pop i))), (6, .int (nI (pop i))), (5, .int (nI i)), (0, .ref (ad 0)), (1, .int (nI n)), (2, .int (nI e_))]) hx hb dX3_leastTouching_45 rfl hl (by decide) rfl (fun ls hl => ?_)
            refine nv_iinc1 (lv' := [(5, .int (nI (i + 1))), (3, .int (nI i)), (4, .int (nI (pop i))), (6, .int (nI (pop i))), (0, .ref (ad 0)), (1, .int (nI n)), (2, .int (nI e_))]) hx hb dX3_leastTouching_46 hl (k := 3) rfl (by decide) rfl (fun ls hl => ?_)
            refine lv_goto (tgt := 9) hx hb dX3_leastTouching_49 (by decide) ?_
            exact ih9 (i + 1) (by omega) (by omega) (nI (i)) (nI (pop i)) (nI (i + 1)) (nv_e (by first | rw [ltb_a c3 c4] | rw [ltb_b c4] | rw [ltb_c c4])) (nv_e (by first | rw [ltb_a c3 c4] | rw [ltb_b c4] | rw [ltb_c c4])) rfl ls (lv_sub hl [1, 2, 0, 4, 5, 6] rfl)
  exact L9 _ (0) (Nat.lt_succ_self _) (by omega) (nI (0)) (nI (13)) (nI (0)) rfl rfl rfl ls (lv_sub hl [2, 1, 0, 3, 4, 5] rfl)
