/-! walks laid by program -/
set_option maxHeartbeats 4000000 in
set_option maxRecDepth 100000 in
/-- X3_touchesAll -/
theorem c_X3_touchesAll (l : Launch) (D : va_G) (ci : Nat → ClassId) (G : Nat → Prop) (ka : Nat) (ad : Nat → Nat) (X : AS) (T : OS) (tq la tt : Nat → Int32) (z : Nat → Nat → Int32) (t n : Nat) (tl : Nat → Nat) (hWX : WFX X) (h_t : t < 4096) (h_n : n ≤ 256) (h_tt : ∀ i, i < n → tt i = nI (tl i)) : Met l yX3_touchesAll wsX3_touchesAll ({ frames := 0, cells := 0, slots := 0, locals := 0 } : Room) (va_Pc [.ref (ad 0), .int (nI t), .int (nI n)] (ro_B D (tyL ci) (wX ci ad X T tq la tt z) (en D (ci 0) G ka))) (ro_Q (some (.int (bI (!anyTo (fun i => (t &&& tl i) == 0) n))))) 0 0 (fun _ => False) := by
  refine ro_Met (cc := cX3_touchesAll) (maxL := 4) (ret := (some .boolean)) [(0, .ref (ad 0)), (1, .int (nI t)), (2, .int (nI n))] (by decide) rfl (Nat.le_of_ble_eq_true rfl) rfl ?_
  intro p e s m below meth c hx hb hml hr hlocks hts hown hP hK hs ls hl
  have hown : s.vm.findClass RX3 = some m.cls := hown
  have hinX3 : ∀ w ∈ wsX30, w ∈ wsX3_touchesAll := by decide +kernel
  have hE := hE_en D (ci 0) G ka
  have hWF := hWX.w
  have f_n := hWF.n
  have f_e := hWX.e
  have f_tl := hWX.t
  refine lv_iconst (v := nI (0)) hx hb dX3_touchesAll_0 (by decide) ?_
  refine lv_istore_n (lv' := [(3, .int (nI 0)), (0, .ref (ad 0)), (1, .int (nI t)), (2, .int (nI n))]) hx hb dX3_touchesAll_1 rfl hl (by decide) rfl (fun ls hl => ?_)
  have L2 : ∀ (k2 : Nat) (i : Nat), n - i < k2 → (i ≤ n) → (∀ j, j < i → (fun i => (t &&& tl i) == 0) j = false) → ∀ (x3 : Int32), x3 = nI (i) → ∀ ls : Array Slot, lv_has ls 4 [(3, .int (x3)), (0, .ref (ad 0)), (1, .int (nI t)), (2, .int (nI n))] → W p l e (headSpec wsX3_touchesAll ({ frames := 0, cells := 0, slots := 0, locals := 0 } : Room)).room s m ([.ref (ad 0), .int (nI t), .int (nI n)] : List Value).toArray below meth c s.heap [] 0 0 (MQ below (ro_Q (some (.int (bI (!anyTo (fun i => (t &&& tl i) == 0) n))))) ([.ref (ad 0), .int (nI t), .int (nI n)] : List Value).toArray s 0 0 (fun _ => False)) (F0 m 2 ls []) := by
    intro k2
    induction k2 with
    | zero => intro i h0; exact absurd h0 (Nat.not_lt_zero _)
    | succ k2 ih2 =>
      intro i hk2 h_i h_u x3 e3 ls hl
      subst e3
      refine lv_iload_n hx hb dX3_touchesAll_2 rfl (lv_at hl 0 rfl) ?_
      refine lv_iload_n hx hb dX3_touchesAll_3 rfl (lv_at hl 3 rfl) ?_
      refine nv_icmp_ge (tgt := 33) hx hb (by omega) (by omega) dX3_touchesAll_4 (by decide) (fun c1 => ?_) (fun c1 => ?_)
      · refine lv_iconst (v := nI (1)) hx hb dX3_touchesAll_33 (by decide) ?_
        refine nv_cv (show nI (1) = bI (!anyTo (fun i => (t &&& tl i) == 0) n) from nv_t (by rw [any_no (fun j hj => h_u j (by omega))]; rfl)) ?_
        exact ro_zret hx hb hr hlocks dX3_touchesAll_34
      · refine lv_iload_n hx hb dX3_touchesAll_7 rfl (lv_at hl 0 rfl) ?_
        refine lv_sipush (v := nI (256)) hx hb dX3_touchesAll_8 (by decide) ?_
        refine nv_icmp_ge (tgt := 33) hx hb (by omega) (by omega) dX3_touchesAll_11 (by decide) (fun c2 => ?_) (fun c2 => ?_)
        · refine lv_iconst (v := nI (1)) hx hb dX3_touchesAll_33 (by decide) ?_
          refine nv_cv (show nI (1) = bI (!anyTo (fun i => (t &&& tl i) == 0) n) from nv_t (by rw [any_no (fun j hj => h_u j (by omega))]; rfl)) ?_
          exact ro_zret hx hb hr hlocks dX3_touchesAll_34
        · refine lv_iload_n hx hb dX3_touchesAll_14 rfl (lv_at hl 2 rfl) ?_
          refine lv_aload_n hx hb dX3_touchesAll_15 rfl (lv_at hl 1 rfl) ?_
          refine va_get (D := D) (ci := 3) (v := .ref (ad 4)) (C := RX3) (T := TX3) (N := 9) hx hb hts hinX3 hown hK hP 0 rfl rfl 8 (by decide) (hts (.fieldLink RX3 46 "OneShort" "toTouch" "[I") (List.mem_of_getElem? (i := 1) rfl)) (fun _ h9 => h9) rfl dX3_touchesAll_16 ?_
          refine lv_iload_n hx hb dX3_touchesAll_19 rfl (lv_at hl 0 rfl) ?_
          refine nv_iald (v := nI (tl (i))) hx hb hK hP 4 0 rfl rfl (by omega) (by decide) (h_tt _ (by omega)) dX3_touchesAll_20 ?_
          refine nv_iand hx hb dX3_touchesAll_21 ?_
          have f3 : (t &&& tl (i)) ≤ tl (i) := Nat.and_le_right
          have f4 : (t &&& tl (i)) ≤ t := Nat.and_le_left
          refine nv_ifne (tgt := 27) hx hb (by omega) dX3_touchesAll_22 (by decide) (fun c5 => ?_) (fun c5 => ?_)
          · refine nv_iinc1 (lv' := [(3, .int (nI (i + 1))), (0, .ref (ad 0)), (1, .int (nI t)), (2, .int (nI n))]) hx hb dX3_touchesAll_27 hl (k := 0) rfl (by decide) rfl (fun ls hl => ?_)
            refine lv_goto (tgt := 2) hx hb dX3_touchesAll_30 (by decide) ?_
            exact ih2 (i + 1) (by omega) (by omega) (all_f h_u (by simpa using c5)) (nI (i + 1)) rfl ls (lv_sub hl [0, 1, 2, 3] rfl)
          · refine lv_iconst (v := nI (0)) hx hb dX3_touchesAll_25 (by decide) ?_
            refine nv_cv (show nI (0) = bI (!anyTo (fun i => (t &&& tl i) == 0) n) from nv_f (by rw [(anyTo_iff _ n).mpr ⟨i, by omega, by simpa using c5⟩]; rfl)) ?_
            exact ro_zret hx hb hr hlocks dX3_touchesAll_26
  exact L2 _ (0) (Nat.lt_succ_self _) (by omega) (fun _ h => absurd h (Nat.not_lt_zero _)) (nI (0)) rfl ls (lv_sub hl [0, 1, 2, 3] rfl)
