/-! the law's walk from its entry -/
set_option maxHeartbeats 4000000 in
set_option maxRecDepth 100000 in
/-- THE LAW, from its entry -/
theorem whole_start {p : Program} {e : Env} {s : State} {m : MethodId} {below : List Frame} {meth : Method} {c : Code} (l : Launch) (hflags : l.flags = flags0) {b L : Nat} {xs : Nat → Int32} (hL : L ≤ 3072) (C0 : lw_At p s m meth c b L xs) : W p l e room_1 s m #[Value.ref b] below meth c s.heap [] 0 0 (lw_Z below #[Value.ref b] s) (entryFrame m ([Value.ref b] : List Value).toArray 4) := by
  obtain ⟨D, ci, ka, adK, adV, fx, C, hEM, hAO1, hAO2, hN28, hN49⟩ := lc_of C0
  obtain ⟨hx, hb, hml, hown, hts, hX, hbl, hK, hsS, hsW⟩ := id C
  obtain ⟨-, -, hr, -, -, htb, -, -, hlocks, -⟩ := id C0
  have ht1 : ∀ w ∈ tables_1, w.before #[Value.ref b] s = true := fun w h => htb w (List.mem_append_right _ h)
  have hA : ∀ q : Nat, s.heap.size ≤ q → lG s q := fun _ h => h
  have hS : va_S (lG s) s.heap s.heap [] := va_S.rf
  have hP : va_P D vwCl [] s.heap := fun k q h => by simp at h
  have hD : va_D (lG s) [] := ⟨fun i j p q h => by simp at h, fun k q h => by simp at h⟩
  have hl := lv_entry ([.ref b]) (n := 4) (Nat.le_of_ble_eq_true rfl)
  rw [lg_entry_eq]
  generalize (lg_sl ([.ref b]) ++ List.replicate (4 - (lg_sl ([.ref b])).length) Slot.unset).toArray = ls at hl ⊢
  have hl : lv_has ls 4 [(0, .ref b)] := hl
  refine va_new (ci := 3) (fs := [.null, .null, .null, .int (bI false), .null, .null, .null, .null, .null]) (C := RX3) (T := TX3) (N := 9) hx hb hts lawIn_46 tyX3 tyX3_ok hown (ht1 _ tw_8.1) (ht1 _ tw_6.2.2.2.1) (ht1 _ tw_8.2.1) hK hP hD hS hA rfl (fun j hj => by rcases (show j = 0 ∨ j = 1 ∨ j = 2 ∨ j = 3 ∨ j = 4 ∨ j = 5 ∨ j = 6 ∨ j = 7 ∨ j = 8 by omega) with rfl | rfl | rfl | rfl | rfl | rfl | rfl | rfl | rfl <;> first | rfl | exact congrArg Value.int nI_0.symm) (Nat.le_of_ble_eq_true rfl) (Nat.le_of_ble_eq_true rfl) dL_law_0 (fun h3 H hP hD hS => ?_)
  have hP : va_P D vwCl [(h3, .inr (3, [.null, .null, .null, .int (bI false), .null, .null, .null, .null, .null]))] H := hP
  have hD : va_D (lG s) [(h3, .inr (3, [.null, .null, .null, .int (bI false), .null, .null, .null, .null, .null]))] := hD
  refine W.widen (k := 1) (n := 9) (Nat.le_of_ble_eq_true rfl) (Nat.le_of_ble_eq_true rfl) ?_
  refine lv_dup hx hb dL_law_3 rfl ?_
  have hDc := hD.sub (ws' := [(h3, .inr (3, [.null, .null, .null, .int (bI false), .null, .null, .null, .null, .null]))]) [0] (by decide) rfl
  have hFc := va_free (wc := [(h3, .inr (3, [.null, .null, .null, .int (bI false), .null, .null, .null, .null, .null]))]) hD hS hA [0] rfl
  refine va_callv (va_runI (As := []) (rest := [.ref h3]) ⟨hx, hb, hml, hown, hts⟩ (c_X3_init l D ci h3 H.size) (cwI 0 hts gL_law_X3_init rfl rfl rfl (ht1 _ tw_8.2.1) (ht1 _ tw_8.2.2.1) (ht1 _ tw_8.2.2.2) rfl (by decide +kernel) ⟨(Nat.le_of_ble_eq_true rfl), (Nat.le_of_ble_eq_true rfl)⟩) ⟨fun a U g mk q => by obtain ⟨q0, q1, qP, qK, qD, qA, qN, qM⟩ := q; exact ⟨q0, q1, qP, va_K.moved (u := U) (U := U.calling g mk a) (Vm.Alike.refl U.vm) qK, qD, va_AO.moved (u := U) (U := U.calling g mk a) (Vm.Alike.refl U.vm) qA, va_Nw.same (u := U) (U := U.calling g mk a) rfl rfl qN, va_Nw.same (u := U) (U := U.calling g mk a) rfl rfl qM⟩, fun U hU hW => ⟨rfl, by rw [hU], by rw [hU]; exact hP, va_K.moved hW.alike hK, hDc.weaken (fun _ _ _ _ => trivial), va_AO.moved hW.alike hAO1, va_Nw.warmM hW hN28, va_Nw.warmM hW hN49⟩⟩ rfl rfl hl.1 rfl (lv_room (Nat.le_of_ble_eq_true rfl)) dL_law_4 ⟨(Nat.le_of_ble_eq_true rfl), (Nat.le_of_ble_eq_true rfl)⟩) hS (fun q _ h => hFc q h) hFc (fun a3 t H1 locs ht hvm hw hB hz1 hk1 hS => ?_)
  obtain ⟨hP1, hD1⟩ := hB
  rw [ht] at hP1
  have hw : a3 0 = h3 := hw
  subst hw
  obtain ⟨hP, hD⟩ := va_join (wr := []) (w1 := wX ci a3 AS0 OS0 (fun _ => nI 0) (fun _ => nI 0) (fun _ => nI 0) (fun _ _ => nI 0)) hP hD [0] [] rfl rfl (by decide) (by decide) hk1 hFc hP1 hD1
  generalize H1 = H at hP hS ⊢
  have hP : va_P D vwCl (wX ci a3 AS0 OS0 (fun _ => nI 0) (fun _ => nI 0) (fun _ => nI 0) (fun _ _ => nI 0)) H := hP
  have hD : va_D (lG s) (wX ci a3 AS0 OS0 (fun _ => nI 0) (fun _ => nI 0) (fun _ => nI 0) (fun _ _ => nI 0)) := hD
  refine W.widen (k := 48) (n := 1127) (Nat.le_of_ble_eq_true rfl) (Nat.le_of_ble_eq_true rfl) ?_
  refine lv_astore_n (lv' := [(1, .ref (a3 0)), (0, .ref b)]) hx hb dL_law_7 rfl hl (by decide) rfl (fun ls hl => ?_)
  refine va_new (ci := 4) (fs := [.null, .null, .null, .int (bI false), .null, .null, .null, .null, .null, .null, .int (nI 0), .int (nI 0), .int (nI 0), .int (nI 0), .int (nI 0), .int (bI false), .null, .null, .int (nI 0), .int (nI 0), .null, .null, .null, .null]) (C := RX4) (T := TX4) (N := 24) hx hb hts lawIn_47 tyX4 tyX4_ok hown (ht1 _ tw_9.1) (ht1 _ tw_6.2.2.2.2) (ht1 _ tw_9.2.1) hK hP hD hS hA rfl (fun j hj => by rcases (show j = 0 ∨ j = 1 ∨ j = 2 ∨ j = 3 ∨ j = 4 ∨ j = 5 ∨ j = 6 ∨ j = 7 ∨ j = 8 ∨ j = 9 ∨ j = 10 ∨ j = 11 ∨ j = 12 ∨ j = 13 ∨ j = 14 ∨ j = 15 ∨ j = 16 ∨ j = 17 ∨ j = 18 ∨ j = 19 ∨ j = 20 ∨ j = 21 ∨ j = 22 ∨ j = 23 by omega) with rfl | rfl | rfl | rfl | rfl | rfl | rfl | rfl | rfl | rfl | rfl | rfl | rfl | rfl | rfl | rfl | rfl | rfl | rfl | rfl | rfl | rfl | rfl | rfl <;> first | rfl | exact congrArg Value.int nI_0.symm) (Nat.le_of_ble_eq_true rfl) (Nat.le_of_ble_eq_true rfl) dL_law_8 (fun h4 H hP hD hS => ?_)
  refine W.widen (k := 49) (n := 1151) (Nat.le_of_ble_eq_true rfl) (Nat.le_of_ble_eq_true rfl) ?_
  refine lv_dup hx hb dL_law_11 rfl ?_
  have hPc := hP.sub (ws' := [(h4, .inr (4, [.null, .null, .null, .int (bI false), .null, .null, .null, .null, .null, .null, .int (nI 0), .int (nI 0), .int (nI 0), .int (nI 0), .int (nI 0), .int (bI false), .null, .null, .int (nI 0), .int (nI 0), .null, .null, .null, .null]))]) [48] rfl
  have hDc := hD.sub (ws' := [(h4, .inr (4, [.null, .null, .null, .int (bI false), .null, .null, .null, .null, .null, .null, .int (nI 0), .int (nI 0), .int (nI 0), .int (nI 0), .int (nI 0), .int (bI false), .null, .null, .int (nI 0), .int (nI 0), .null, .null, .null, .null]))]) [48] (by decide) rfl
  have hFc := va_free (wc := [(h4, .inr (4, [.null, .null, .null, .int (bI false), .null, .null, .null, .null, .null, .null, .int (nI 0), .int (nI 0), .int (nI 0), .int (nI 0), .int (nI 0), .int (bI false), .null, .null, .int (nI 0), .int (nI 0), .null, .null, .null, .null]))]) hD hS hA [48] rfl
  refine va_callv (va_runI (As := []) (rest := [.ref h4]) ⟨hx, hb, hml, hown, hts⟩ (c_X4_init l D ci h4 H.size (lG s) adK adV fx hFc) (cwI 0 hts gL_law_X4_init rfl rfl rfl (ht1 _ tw_9.2.1) (ht1 _ tw_9.2.2.1) (ht1 _ tw_9.2.2.2) rfl (by decide +kernel) ⟨(Nat.le_of_ble_eq_true rfl), (Nat.le_of_ble_eq_true rfl)⟩) ⟨fun a U g mk q => by obtain ⟨q0, q1, qP, qK, qD, qA, qE⟩ := q; exact ⟨q0, q1, qP, va_K.moved (u := U) (U := U.calling g mk a) (Vm.Alike.refl U.vm) qK, qD, va_AO.moved (u := U) (U := U.calling g mk a) (Vm.Alike.refl U.vm) qA, (hE_W (lG s) adK adV fx rfM).2 U g mk a _ qE⟩, fun U hU hW => ⟨rfl, by rw [hU], by rw [hU]; exact hPc, va_K.moved hW.alike hK, hDc.weaken (fun _ _ _ _ => trivial), va_AO.moved hW.alike hAO2, by rw [hU]; exact (hE_W (lG s) adK adV fx rfM).1 s U H hW (enW_S (fun _ h => h) hEM hS)⟩⟩ rfl rfl hl.1 rfl (lv_room (Nat.le_of_ble_eq_true rfl)) dL_law_12 ⟨(Nat.le_of_ble_eq_true rfl), (Nat.le_of_ble_eq_true rfl)⟩) hS (fun q _ h => hFc q h) hFc (fun a4 t H1 locs ht hvm hw hB hz1 hk1 hS => ?_)
  obtain ⟨hP1, hD1⟩ := hB
  rw [ht] at hP1
  have hw : a4 0 = h4 := hw
  subst hw
  obtain ⟨hP, hD⟩ := va_join (wr := wX ci a3 AS0 OS0 (fun _ => nI 0) (fun _ => nI 0) (fun _ => nI 0) (fun _ _ => nI 0)) (w1 := wN ci a4 AS0 (fun _ => nI 0) (nI 0) (nI 0) (nI 0) (nI 0) (nI 0) (nI 0) false (kn0 adK) (fun _ => nI 0) (fun _ => nI 0) (fun _ => nI 0) (fun _ => nI 0) (fun _ => nI 0) (fun _ => nI 0) (fun _ => nI 0)) hP hD [48] [0, 1, 2, 3, 4, 5, 6, 7, 8, 9, 10, 11, 12, 13, 14, 15, 16, 17, 18, 19, 20, 21, 22, 23, 24, 25, 26, 27, 28, 29, 30, 31, 32, 33, 34, 35, 36, 37, 38, 39, 40, 41, 42, 43, 44, 45, 46, 47] rfl rfl (by decide) (by decide) hk1 hFc hP1 hD1
  generalize H1 = H at hP hS ⊢
  refine W.widen (k := 64) (n := 2513) (Nat.le_of_ble_eq_true rfl) (Nat.le_of_ble_eq_true rfl) ?_
  refine lv_astore_n (lv' := [(2, .ref (a4 0)), (1, .ref (a3 0)), (0, .ref b)]) hx hb dL_law_15 rfl hl (by decide) rfl (fun ls hl => ?_)
  refine lv_iconst (v := (nI 0)) hx hb dL_law_16 (by decide) ?_
  refine lv_istore_n (lv' := [(3, .int (nI 0)), (2, .ref (a4 0)), (1, .ref (a3 0)), (0, .ref b)]) hx hb dL_law_17 rfl hl (by decide) rfl (fun ls hl => ?_)
  refine W.widen (k := 600000) (n := 7302250) (Nat.le_of_ble_eq_true rfl) (Nat.le_of_ble_eq_true rfl) ?_
  have hLA : LA s a3 a4 := LA_of (fun i hi => wX_get i hi) rfl (fun i hi => wN_get i hi) hD
  refine law_loop C hLA hL ⟨(Nat.le_of_ble_eq_true rfl), (Nat.le_of_ble_eq_true rfl)⟩ (fun H locs hS ls => ?_) (L + 1) 0 (Nat.zero_le L) (by omega) AS0 H locs WFX_AS0 ⟨OS0, fun _ => nI 0, fun _ => nI 0, fun _ => nI 0, fun _ _ => nI 0, lw_Pl hP⟩ ⟨kn0 adK, fun _ => nI 0, nI 0, nI 0, nI 0, nI 0, nI 0, nI 0, false, fun _ => nI 0, fun _ => nI 0, fun _ => nI 0, fun _ => nI 0, fun _ => nI 0, fun _ => nI 0, fun _ => nI 0, fun _ _ => rfl, fun h => (by cases (show false = true from h)), lw_Pr hP⟩ hS ls hl
  refine lv_iconst (v := 1) hx hb dL_law_1578 (by decide) ?_
  exact va_forget hS.2.2 (lw_ret hx hb hr hlocks dL_law_1579)
