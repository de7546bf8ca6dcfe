/-! walks laid by program -/
set_option maxHeartbeats 4000000 in
set_option maxRecDepth 100000 in
/-- X2_takePerhaps -/
theorem c_X2_takePerhaps_on (l : Launch) (D : va_G) (ci : Nat → ClassId) (G : Nat → Prop) (ka : Nat) (adK adV : Nat → Nat) (fx : Nat) (a : Nat → Nat) (tl : Nat) (tb : Nat → Nat) (b : Nat → Nat) (S : OS) (w r nb : Nat → Int32) (hI : injA a 2) (hG : ∀ k, k < 2 → G (a k)) (hI2 : injA b 11) (hG2 : ∀ k, k < 11 → G (b k)) (hd : ∀ i j, i < 2 → j < 11 → a i ≠ b j) (p u : Nat) (h_tl : tl ≤ 120) (h_tb : ∀ k, tb k < 256) (hWF : WF S) (h_p : p ≤ tl) (h_u : u < 8) : Met l yX2_takePerhaps wsX2_takePerhaps ({ frames := 5, cells := 0, slots := 0, locals := 107 } : Room) (va_Pc [.ref (a 0), .ref (adK 8), .ref (b 3), .int (nI u), .int (nI 15)] (ro_B D (tyL ci) (wTp ci a tl tb (tkq tb tl p) ++ (wO (ci 0) b S w r nb)) (enS D (ci 0) G ka adK adV fx))) (mu_Q (aTO a b) (some (.int (bI ((pR tb tl 8 2 15 u p S).1)))) (fun H => ∃ w r nb, va_P D vwCl ((wTp ci a tl tb (tkq tb tl ((pR tb tl 8 2 15 u p S).2.1)) ++ (wO (ci 0) b ((pR tb tl 8 2 15 u p S).2.2) w r nb))) H)) 0 0 (aTO a b) := by
  refine mu_Met (cc := cX2_takePerhaps) (maxL := 6) (ret := (some .boolean)) [(0, .ref (a 0)), (1, .ref (adK 8)), (2, .ref (b 3)), (3, .int (nI u)), (4, .int (nI 15))] (wTO_D hI hI2 hd) (by decide) rfl (Nat.le_of_ble_eq_true rfl) rfl ?_
  intro pg e s m below meth c H locs hx hb hml hr hlocks hts hown hP hK hs0 hD hS ls hl
  have hown : s.vm.findClass RX2 = some m.cls := hown
  have hinX2 : ∀ w ∈ wsX20, w ∈ wsX2_takePerhaps := by decide +kernel
  have hE := hE_S D (ci 0) G ka adK adV fx
  have hGA := aTO_G hG hG2
  have f_t := tokf (tb := tb) h_p
  refine lv_aload_n hx hb dX2_takePerhaps_0 rfl (lv_at hl 0 rfl) ?_
  refine lv_aload_n hx hb dX2_takePerhaps_1 rfl (lv_at hl 1 rfl) ?_
  refine ro_V (n := 1) (As := [.ref (adK 8)]) (rest := []) ⟨hx, hb, hml, hown, hts⟩ (c_X2_isWord l D ci G ka adK adV fx a tl tb (p) (8) h_tl h_tb (by omega) (by omega)) gX2_takePerhaps_X2_isWord rfl ⟨rfl, rfl⟩ (by decide +kernel) rfl ⟨Nat.le_of_ble_eq_true rfl, Nat.le_of_ble_eq_true rfl⟩ hE (enS_S hGA hs0 hS) hK (va_Pl hP) (ci := 2) (q0 := 0) rfl rfl hl.1 rfl (Nat.le_of_ble_eq_true rfl) dX2_takePerhaps_2 ⟨Nat.zero_le _, Nat.zero_le _⟩ ?_
  refine nv_ifne_b (tgt := 10) hx hb dX2_takePerhaps_5 (by decide) (fun c1 => ?_) (fun c1 => ?_)
  · refine lv_aload_n hx hb dX2_takePerhaps_10 rfl (lv_at hl 0 rfl) ?_
    refine mu_V (n := 0) (As := []) (rest := []) ⟨hx, hb, hml, hown, hts⟩ (c_X2_advance l D ci G ka adK adV fx a tl tb hI hG (nI (srt tb tl p)) (nI (stt tb tl p)) (nI (vlu tb tl p)) (nxt tb tl p) h_tl h_tb (by omega)) gX2_takePerhaps_X2_advance rfl ⟨rfl, rfl⟩ (by decide +kernel) rfl ⟨Nat.le_of_ble_eq_true rfl, Nat.le_of_ble_eq_true rfl⟩ hE (enS_S hGA hs0 hS) hK (va_Pl hP) (ci := 2) (q0 := 0) rfl rfl hl.1 rfl (Nat.le_of_ble_eq_true rfl) dX2_takePerhaps_11 ⟨Nat.zero_le _, Nat.zero_le _⟩ hS (fun _ h => Or.inl h) (fun H1 locs hz hfr hB hS => ?_)
    have hP : va_P D vwCl (wTp ci a tl tb (tkq tb tl (nxt tb tl p)) ++ (wO (ci 0) b S w r nb)) H1 := wTO_t hd hP hfr hB
    generalize H1 = H at hP hS ⊢
    have hD : va_D (aTO a b) (wTp ci a tl tb (tkq tb tl (nxt tb tl p)) ++ (wO (ci 0) b S w r nb)) := wTO_D hI hI2 hd
    refine lv_aload_n hx hb dX2_takePerhaps_14 rfl (lv_at hl 0 rfl) ?_
    refine va_get (D := D) (ci := 2) (v := .int (nI (vlu tb tl (nxt tb tl p)))) (C := RX2) (T := TX2) (N := 6) hx hb hts hinX2 hown hK hP 0 rfl rfl 5 (by decide) (hts (.fieldLink RX2 28 "OneShort$Tape" "value" "I") (List.mem_of_getElem? (i := 1) rfl)) (fun _ h9 => h9) rfl dX2_takePerhaps_15 ?_
    refine lv_istore (lv' := [(5, .int (nI (vlu tb tl (nxt tb tl p)))), (0, .ref (a 0)), (1, .ref (adK 8)), (2, .ref (b 3)), (3, .int (nI u)), (4, .int (nI 15))]) hx hb dX2_takePerhaps_18 hl (by decide) rfl (fun ls hl => ?_)
    refine lv_aload_n hx hb dX2_takePerhaps_20 rfl (lv_at hl 1 rfl) ?_
    refine lv_iload hx hb dX2_takePerhaps_21 (lv_at hl 5 rfl) ?_
    refine mu_V (n := 1) (As := [.int (nI 15)]) (rest := []) ⟨hx, hb, hml, hown, hts⟩ (c_X2_takeNumber l D ci G ka adK adV fx a tl tb hI hG ((nxt tb tl p)) (15) h_tl h_tb (by omega) (by omega)) gX2_takePerhaps_X2_takeNumber rfl ⟨rfl, rfl⟩ (by decide +kernel) rfl ⟨Nat.le_of_ble_eq_true rfl, Nat.le_of_ble_eq_true rfl⟩ hE (enS_S hGA hs0 hS) hK (va_Pl hP) (ci := 2) (q0 := 0) rfl rfl hl.1 rfl (Nat.le_of_ble_eq_true rfl) dX2_takePerhaps_23 ⟨Nat.zero_le _, Nat.zero_le _⟩ hS (fun _ h => Or.inl h) (fun H1 locs hz hfr hB hS => ?_)
    have hP : va_P D vwCl (wTp ci a tl tb (tkq tb tl (nP tb tl (nxt tb tl p) 15)) ++ (wO (ci 0) b S w r nb)) H1 := wTO_t hd hP hfr hB
    generalize H1 = H at hP hS ⊢
    have hD : va_D (aTO a b) (wTp ci a tl tb (tkq tb tl (nP tb tl (nxt tb tl p) 15)) ++ (wO (ci 0) b S w r nb)) := wTO_D hI hI2 hd
    have f2 := tokf (tb := tb) (nP_le (tb := tb) (mx := 15) (show (nxt tb tl p) ≤ tl by omega))
    have f3 := nP_le (tb := tb) (mx := 15) (show (nxt tb tl p) ≤ tl by omega)
    refine nv_ifne_b (tgt := 31) hx hb dX2_takePerhaps_26 (by decide) (fun c4 => ?_) (fun c4 => ?_)
    · refine lv_aload_n hx hb dX2_takePerhaps_31 rfl (lv_at hl 3 rfl) ?_
      refine lv_iload_n hx hb dX2_takePerhaps_32 rfl (lv_at hl 4 rfl) ?_
      refine lv_iload hx hb dX2_takePerhaps_33 (lv_at hl 0 rfl) ?_
      refine nv_iast hx hb hK hP hD hS 5 0 rfl rfl (by omega) (by decide) dX2_takePerhaps_35 (fun H locs hP hD hS => ?_)
      have hP : va_P D vwCl (wTp ci a tl tb (tkq tb tl (nP tb tl (nxt tb tl p) 15)) ++ (wO (ci 0) b (st S 2 (u) (vlu tb tl (nxt tb tl p))) w r nb)) H := va_P.re (congrArg (fun z9 => wTp ci a tl tb (tkq tb tl (nP tb tl (nxt tb tl p) 15)) ++ z9) (wO_ast2 (ci 0) b S w r nb (u) (vlu tb tl (nxt tb tl p)))) hP
      have hD : va_D (aTO a b) (wTp ci a tl tb (tkq tb tl (nP tb tl (nxt tb tl p) 15)) ++ (wO (ci 0) b (st S 2 (u) (vlu tb tl (nxt tb tl p))) w r nb)) := wTO_D hI hI2 hd
      refine lv_iconst (v := nI (1)) hx hb dX2_takePerhaps_36 (by decide) ?_
      refine nv_cv (show nI (1) = bI ((pR tb tl 8 2 15 u p S).1) from nv_t (by simp [pR, c1, c4])) ?_
      exact mu_zret hx hb hr hlocks hS ((by first | (rw [show pR tb tl 8 2 15 u p S = (true, p, S) from by simp [pR, c1, c4]]; exact ⟨_, _, _, hP⟩) | ((rw [show pR tb tl 8 2 15 u p S = (false, nxt tb tl p, S) from by simp [pR, c1, c4]]); (rw [show nP tb tl (nxt tb tl p) 15 = nxt tb tl p from by simp [nP, c1, c4]] at hP); exact ⟨_, _, _, hP⟩) | ((rw [show pR tb tl 8 2 15 u p S = (true, nxt tb tl (nxt tb tl p), st S 2 u (vlu tb tl (nxt tb tl p))) from by simp [pR, c1, c4]]); (rw [show nP tb tl (nxt tb tl p) 15 = nxt tb tl (nxt tb tl p) from by simp [nP, c1, c4]] at hP); exact ⟨_, _, _, hP⟩))) dX2_takePerhaps_37
    · refine lv_iconst (v := nI (0)) hx hb dX2_takePerhaps_29 (by decide) ?_
      refine nv_cv (show nI (0) = bI ((pR tb tl 8 2 15 u p S).1) from nv_f (by simp [pR, c1, c4])) ?_
      exact mu_zret hx hb hr hlocks hS ((by first | (rw [show pR tb tl 8 2 15 u p S = (true, p, S) from by simp [pR, c1, c4]]; exact ⟨_, _, _, hP⟩) | ((rw [show pR tb tl 8 2 15 u p S = (false, nxt tb tl p, S) from by simp [pR, c1, c4]]); (rw [show nP tb tl (nxt tb tl p) 15 = nxt tb tl p from by simp [nP, c1, c4]] at hP); exact ⟨_, _, _, hP⟩) | ((rw [show pR tb tl 8 2 15 u p S = (true, nxt tb tl (nxt tb tl p), st S 2 u (vlu tb tl (nxt tb tl p))) from by simp [pR, c1, c4]]); (rw [show nP tb tl (nxt tb tl p) 15 = nxt tb tl (nxt tb tl p) from by simp [nP, c1, c4]] at hP); exact ⟨_, _, _, hP⟩))) dX2_takePerhaps_30
  · refine lv_iconst (v := nI (1)) hx hb dX2_takePerhaps_8 (by decide) ?_
    refine nv_cv (show nI (1) = bI ((pR tb tl 8 2 15 u p S).1) from nv_t (by simp [pR, c1])) ?_
    exact mu_zret hx hb hr hlocks hS ((by first | (rw [show pR tb tl 8 2 15 u p S = (true, p, S) from by simp [pR, c1]]; exact ⟨_, _, _, hP⟩) | ((rw [show pR tb tl 8 2 15 u p S = (false, nxt tb tl p, S) from by simp [pR, c1]]); (rw [show nP tb tl (nxt tb tl p) 15 = nxt tb tl p from by simp [nP, c1]] at hP); exact ⟨_, _, _, hP⟩) | ((rw [show pR tb tl 8 2 15 u p S = (true, nxt tb tl (nxt tb tl p), st S 2 u (vlu tb tl (nxt tb tl p))) from by simp [pR, c1]]); (rw [show nP tb tl (nxt tb tl p) 15 = nxt tb tl (nxt tb tl p) from by simp [nP, c1]] at hP); exact ⟨_, _, _, hP⟩))) dX2_takePerhaps_9

set_option maxHeartbeats 4000000 in
set_option maxRecDepth 100000 in
/-- X2_takePerhaps -/
theorem c_X2_takePerhaps_part (l : Launch) (D : va_G) (ci : Nat → ClassId) (G : Nat → Prop) (ka : Nat) (adK adV : Nat → Nat) (fx : Nat) (a : Nat → Nat) (tl : Nat) (tb : Nat → Nat) (b : Nat → Nat) (S : OS) (w r nb : Nat → Int32) (hI : injA a 2) (hG : ∀ k, k < 2 → G (a k)) (hI2 : injA b 11) (hG2 : ∀ k, k < 11 → G (b k)) (hd : ∀ i j, i < 2 → j < 11 → a i ≠ b j) (p u : Nat) (h_tl : tl ≤ 120) (h_tb : ∀ k, tb k < 256) (hWF : WF S) (h_p : p ≤ tl) (h_u : u < 8) : Met l yX2_takePerhaps wsX2_takePerhaps ({ frames := 5, cells := 0, slots := 0, locals := 107 } : Room) (va_Pc [.ref (a 0), .ref (adK 9), .ref (b 4), .int (nI u), .int (nI 5)] (ro_B D (tyL ci) (wTp ci a tl tb (tkq tb tl p) ++ (wO (ci 0) b S w r nb)) (enS D (ci 0) G ka adK adV fx))) (mu_Q (aTO a b) (some (.int (bI ((pR tb tl 9 3 5 u p S).1)))) (fun H => ∃ w r nb, va_P D vwCl ((wTp ci a tl tb (tkq tb tl ((pR tb tl 9 3 5 u p S).2.1)) ++ (wO (ci 0) b ((pR tb tl 9 3 5 u p S).2.2) w r nb))) H)) 0 0 (aTO a b) := by
  refine mu_Met (cc := cX2_takePerhaps) (maxL := 6) (ret := (some .boolean)) [(0, .ref (a 0)), (1, .ref (adK 9)), (2, .ref (b 4)), (3, .int (nI u)), (4, .int (nI 5))] (wTO_D hI hI2 hd) (by decide) rfl (Nat.le_of_ble_eq_true rfl) rfl ?_
  intro pg e s m below meth c H locs hx hb hml hr hlocks hts hown hP hK hs0 hD hS ls hl
  have hown : s.vm.findClass RX2 = some m.cls := hown
  have hinX2 : ∀ w ∈ wsX20, w ∈ wsX2_takePerhaps := by decide +kernel
  have hE := hE_S D (ci 0) G ka adK adV fx
  have hGA := aTO_G hG hG2
  have f_t := tokf (tb := tb) h_p
  refine lv_aload_n hx hb dX2_takePerhaps_0 rfl (lv_at hl 0 rfl) ?_
  refine lv_aload_n hx hb dX2_takePerhaps_1 rfl (lv_at hl 1 rfl) ?_
  refine ro_V (n := 1) (As := [.ref (adK 9)]) (rest := []) ⟨hx, hb, hml, hown, hts⟩ (c_X2_isWord l D ci G ka adK adV fx a tl tb (p) (9) h_tl h_tb (by omega) (by omega)) gX2_takePerhaps_X2_isWord rfl ⟨rfl, rfl⟩ (by decide +kernel) rfl ⟨Nat.le_of_ble_eq_true rfl, Nat.le_of_ble_eq_true rfl⟩ hE (enS_S hGA hs0 hS) hK (va_Pl hP) (ci := 2) (q0 := 0) rfl rfl hl.1 rfl (Nat.le_of_ble_eq_true rfl) dX2_takePerhaps_2 ⟨Nat.zero_le _, Nat.zero_le _⟩ ?_
  refine nv_ifne_b (tgt := 10) hx hb dX2_takePerhaps_5 (by decide) (fun c1 => ?_) (fun c1 => ?_)
  · refine lv_aload_n hx hb dX2_takePerhaps_10 rfl (lv_at hl 0 rfl) ?_
    refine mu_V (n := 0) (As := []) (rest := []) ⟨hx, hb, hml, hown, hts⟩ (c_X2_advance l D ci G ka adK adV fx a tl tb hI hG (nI (srt tb tl p)) (nI (stt tb tl p)) (nI (vlu tb tl p)) (nxt tb tl p) h_tl h_tb (by omega)) gX2_takePerhaps_X2_advance rfl ⟨rfl, rfl⟩ (by decide +kernel) rfl ⟨Nat.le_of_ble_eq_true rfl, Nat.le_of_ble_eq_true rfl⟩ hE (enS_S hGA hs0 hS) hK (va_Pl hP) (ci := 2) (q0 := 0) rfl rfl hl.1 rfl (Nat.le_of_ble_eq_true rfl) dX2_takePerhaps_11 ⟨Nat.zero_le _, Nat.zero_le _⟩ hS (fun _ h => Or.inl h) (fun H1 locs hz hfr hB hS => ?_)
    have hP : va_P D vwCl (wTp ci a tl tb (tkq tb tl (nxt tb tl p)) ++ (wO (ci 0) b S w r nb)) H1 := wTO_t hd hP hfr hB
    generalize H1 = H at hP hS ⊢
    have hD : va_D (aTO a b) (wTp ci a tl tb (tkq tb tl (nxt tb tl p)) ++ (wO (ci 0) b S w r nb)) := wTO_D hI hI2 hd
    refine lv_aload_n hx hb dX2_takePerhaps_14 rfl (lv_at hl 0 rfl) ?_
    refine va_get (D := D) (ci := 2) (v := .int (nI (vlu tb tl (nxt tb tl p)))) (C := RX2) (T := TX2) (N := 6) hx hb hts hinX2 hown hK hP 0 rfl rfl 5 (by decide) (hts (.fieldLink RX2 28 "OneShort$Tape" "value" "I") (List.mem_of_getElem? (i := 1) rfl)) (fun _ h9 => h9) rfl dX2_takePerhaps_15 ?_
    refine lv_istore (lv' := [(5, .int (nI (vlu tb tl (nxt tb tl p)))), (0, .ref (a 0)), (1, .ref (adK 9)), (2, .ref (b 4)), (3, .int (nI u)), (4, .int (nI 5))]) hx hb dX2_takePerhaps_18 hl (by decide) rfl (fun ls hl => ?_)
    refine lv_aload_n hx hb dX2_takePerhaps_20 rfl (lv_at hl 1 rfl) ?_
    refine lv_iload hx hb dX2_takePerhaps_21 (lv_at hl 5 rfl) ?_
    refine mu_V (n := 1) (As := [.int (nI 5)]) (rest := []) ⟨hx, hb, hml, hown, hts⟩ (c_X2_takeNumber l D ci G ka adK adV fx a tl tb hI hG ((nxt tb tl p)) (5) h_tl h_tb (by omega) (by omega)) gX2_takePerhaps_X2_takeNumber rfl ⟨rfl, rfl⟩ (by decide +kernel) rfl ⟨Nat.le_of_ble_eq_true rfl, Nat.le_of_ble_eq_true rfl⟩ hE (enS_S hGA hs0 hS) hK (va_Pl hP) (ci := 2) (q0 := 0) rfl rfl hl.1 rfl (Nat.le_of_ble_eq_true rfl) dX2_takePerhaps_23 ⟨Nat.zero_le _, Nat.zero_le _⟩ hS (fun _ h => Or.inl h) (fun H1 locs hz hfr hB hS => ?_)
    have hP : va_P D vwCl (wTp ci a tl tb (tkq tb tl (nP tb tl (nxt tb tl p) 5)) ++ (wO (ci 0) b S w r nb)) H1 := wTO_t hd hP hfr hB
    generalize H1 = H at hP hS ⊢
    have hD : va_D (aTO a b) (wTp ci a tl tb (tkq tb tl (nP tb tl (nxt tb tl p) 5)) ++ (wO (ci 0) b S w r nb)) := wTO_D hI hI2 hd
    have f2 := tokf (tb := tb) (nP_le (tb := tb) (mx := 5) (show (nxt tb tl p) ≤ tl by omega))
    have f3 := nP_le (tb := tb) (mx := 5) (show (nxt tb tl p) ≤ tl by omega)
    refine nv_ifne_b (tgt := 31) hx hb dX2_takePerhaps_26 (by decide) (fun c4 => ?_) (fun c4 => ?_)
    · refine lv_aload_n hx hb dX2_takePerhaps_31 rfl (lv_at hl 3 rfl) ?_
      refine lv_iload_n hx hb dX2_takePerhaps_32 rfl (lv_at hl 4 rfl) ?_
      refine lv_iload hx hb dX2_takePerhaps_33 (lv_at hl 0 rfl) ?_
      refine nv_iast hx hb hK hP hD hS 6 0 rfl rfl (by omega) (by decide) dX2_takePerhaps_35 (fun H locs hP hD hS => ?_)
      have hP : va_P D vwCl (wTp ci a tl tb (tkq tb tl (nP tb tl (nxt tb tl p) 5)) ++ (wO (ci 0) b (st S 3 (u) (vlu tb tl (nxt tb tl p))) w r nb)) H := va_P.re (congrArg (fun z9 => wTp ci a tl tb (tkq tb tl (nP tb tl (nxt tb tl p) 5)) ++ z9) (wO_ast3 (ci 0) b S w r nb (u) (vlu tb tl (nxt tb tl p)))) hP
      have hD : va_D (aTO a b) (wTp ci a tl tb (tkq tb tl (nP tb tl (nxt tb tl p) 5)) ++ (wO (ci 0) b (st S 3 (u) (vlu tb tl (nxt tb tl p))) w r nb)) := wTO_D hI hI2 hd
      refine lv_iconst (v := nI (1)) hx hb dX2_takePerhaps_36 (by decide) ?_
      refine nv_cv (show nI (1) = bI ((pR tb tl 9 3 5 u p S).1) from nv_t (by simp [pR, c1, c4])) ?_
      exact mu_zret hx hb hr hlocks hS ((by first | (rw [show pR tb tl 9 3 5 u p S = (true, p, S) from by simp [pR, c1, c4]]; exact ⟨_, _, _, hP⟩) | ((rw [show pR tb tl 9 3 5 u p S = (false, nxt tb tl p, S) from by simp [pR, c1, c4]]); (rw [show nP tb tl (nxt tb tl p) 5 = nxt tb tl p from by simp [nP, c1, c4]] at hP); exact ⟨_, _, _, hP⟩) | ((rw [show pR tb tl 9 3 5 u p S = (true, nxt tb tl (nxt tb tl p), st S 3 u (vlu tb tl (nxt tb tl p))) from by simp [pR, c1, c4]]); (rw [show nP tb tl (nxt tb tl p) 5 = nxt tb tl (nxt tb tl p) from by simp [nP, c1, c4]] at hP); exact ⟨_, _, _, hP⟩))) dX2_takePerhaps_37
    · refine lv_iconst (v := nI (0)) hx hb dX2_takePerhaps_29 (by decide) ?_
      refine nv_cv (show nI (0) = bI ((pR tb tl 9 3 5 u p S).1) from nv_f (by simp [pR, c1, c4])) ?_
      exact mu_zret hx hb hr hlocks hS ((by first | (rw [show pR tb tl 9 3 5 u p S = (true, p, S) from by simp [pR, c1, c4]]; exact ⟨_, _, _, hP⟩) | ((rw [show pR tb tl 9 3 5 u p S = (false, nxt tb tl p, S) from by simp [pR, c1, c4]]); (rw [show nP tb tl (nxt tb tl p) 5 = nxt tb tl p from by simp [nP, c1, c4]] at hP); exact ⟨_, _, _, hP⟩) | ((rw [show pR tb tl 9 3 5 u p S = (true, nxt tb tl (nxt tb tl p), st S 3 u (vlu tb tl (nxt tb tl p))) from by simp [pR, c1, c4]]); (rw [show nP tb tl (nxt tb tl p) 5 = nxt tb tl (nxt tb tl p) from by simp [nP, c1, c4]] at hP); exact ⟨_, _, _, hP⟩))) dX2_takePerhaps_30
  · refine lv_iconst (v := nI (1)) hx hb dX2_takePerhaps_8 (by decide) ?_
    refine nv_cv (show nI (1) = bI ((pR tb tl 9 3 5 u p S).1) from nv_t (by simp [pR, c1])) ?_
    exact mu_zret hx hb hr hlocks hS ((by first | (rw [show pR tb tl 9 3 5 u p S = (true, p, S) from by simp [pR, c1]]; exact ⟨_, _, _, hP⟩) | ((rw [show pR tb tl 9 3 5 u p S = (false, nxt tb tl p, S) from by simp [pR, c1]]); (rw [show nP tb tl (nxt tb tl p) 5 = nxt tb tl p from by simp [nP, c1]] at hP); exact ⟨_, _, _, hP⟩) | ((rw [show pR tb tl 9 3 5 u p S = (true, nxt tb tl (nxt tb tl p), st S 3 u (vlu tb tl (nxt tb tl p))) from by simp [pR, c1]]); (rw [show nP tb tl (nxt tb tl p) 5 = nxt tb tl (nxt tb tl p) from by simp [nP, c1]] at hP); exact ⟨_, _, _, hP⟩))) dX2_takePerhaps_9

set_option maxHeartbeats 4000000 in
set_option maxRecDepth 100000 in
/-- X2_takePerhaps -/
theorem c_X2_takePerhaps_loud (l : Launch) (D : va_G) (ci : Nat → ClassId) (G : Nat → Prop) (ka : Nat) (adK adV : Nat → Nat) (fx : Nat) (a : Nat → Nat) (tl : Nat) (tb : Nat → Nat) (b : Nat → Nat) (S : OS) (w r nb : Nat → Int32) (hI : injA a 2) (hG : ∀ k, k < 2 → G (a k)) (hI2 : injA b 11) (hG2 : ∀ k, k < 11 → G (b k)) (hd : ∀ i j, i < 2 → j < 11 → a i ≠ b j) (p u : Nat) (h_tl : tl ≤ 120) (h_tb : ∀ k, tb k < 256) (hWF : WF S) (h_p : p ≤ tl) (h_u : u < 8) : Met l yX2_takePerhaps wsX2_takePerhaps ({ frames := 5, cells := 0, slots := 0, locals := 107 } : Room) (va_Pc [.ref (a 0), .ref (adK 10), .ref (b 5), .int (nI u), .int (nI 9)] (ro_B D (tyL ci) (wTp ci a tl tb (tkq tb tl p) ++ (wO (ci 0) b S w r nb)) (enS D (ci 0) G ka adK adV fx))) (mu_Q (aTO a b) (some (.int (bI ((pR tb tl 10 4 9 u p S).1)))) (fun H => ∃ w r nb, va_P D vwCl ((wTp ci a tl tb (tkq tb tl ((pR tb tl 10 4 9 u p S).2.1)) ++ (wO (ci 0) b ((pR tb tl 10 4 9 u p S).2.2) w r nb))) H)) 0 0 (aTO a b) := by
  refine mu_Met (cc := cX2_takePerhaps) (maxL := 6) (ret := (some .boolean)) [(0, .ref (a 0)), (1, .ref (adK 10)), (2, .ref (b 5)), (3, .int (nI u)), (4, .int (nI 9))] (wTO_D hI hI2 hd) (by decide) rfl (Nat.le_of_ble_eq_true rfl) rfl ?_
  intro pg e s m below meth c H locs hx hb hml hr hlocks hts hown hP hK hs0 hD hS ls hl
  have hown : s.vm.findClass RX2 = some m.cls := hown
  have hinX2 : ∀ w ∈ wsX20, w ∈ wsX2_takePerhaps := by decide +kernel
  have hE := hE_S D (ci 0) G ka adK adV fx
  have hGA := aTO_G hG hG2
  have f_t := tokf (tb := tb) h_p
  refine lv_aload_n hx hb dX2_takePerhaps_0 rfl (lv_at hl 0 rfl) ?_
  refine lv_aload_n hx hb dX2_takePerhaps_1 rfl (lv_at hl 1 rfl) ?_
  refine ro_V (n := 1) (As := [.ref (adK 10)]) (rest := []) ⟨hx, hb, hml, hown, hts⟩ (c_X2_isWord l D ci G ka adK adV fx a tl tb (p) (10) h_tl h_tb (by omega) (by omega)) gX2_takePerhaps_X2_isWord rfl ⟨rfl, rfl⟩ (by decide +kernel) rfl ⟨Nat.le_of_ble_eq_true rfl, Nat.le_of_ble_eq_true rfl⟩ hE (enS_S hGA hs0 hS) hK (va_Pl hP) (ci := 2) (q0 := 0) rfl rfl hl.1 rfl (Nat.le_of_ble_eq_true rfl) dX2_takePerhaps_2 ⟨Nat.zero_le _, Nat.zero_le _⟩ ?_
  refine nv_ifne_b (tgt := 10) hx hb dX2_takePerhaps_5 (by decide) (fun c1 => ?_) (fun c1 => ?_)
  · refine lv_aload_n hx hb dX2_takePerhaps_10 rfl (lv_at hl 0 rfl) ?_
    refine mu_V (n := 0) (As := []) (rest := []) ⟨hx, hb, hml, hown, hts⟩ (c_X2_advance l D ci G ka adK adV fx a tl tb hI hG (nI (srt tb tl p)) (nI (stt tb tl p)) (nI (vlu tb tl p)) (nxt tb tl p) h_tl h_tb (by omega)) gX2_takePerhaps_X2_advance rfl ⟨rfl, rfl⟩ (by decide +kernel) rfl ⟨Nat.le_of_ble_eq_true rfl, Nat.le_of_ble_eq_true rfl⟩ hE (enS_S hGA hs0 hS) hK (va_Pl hP) (ci := 2) (q0 := 0) rfl rfl hl.1 rfl (Nat.le_of_ble_eq_true rfl) dX2_takePerhaps_11 ⟨Nat.zero_le _, Nat.zero_le _⟩ hS (fun _ h => Or.inl h) (fun H1 locs hz hfr hB hS => ?_)
    have hP : va_P D vwCl (wTp ci a tl tb (tkq tb tl (nxt tb tl p)) ++ (wO (ci 0) b S w r nb)) H1 := wTO_t hd hP hfr hB
    generalize H1 = H at hP hS ⊢
    have hD : va_D (aTO a b) (wTp ci a tl tb (tkq tb tl (nxt tb tl p)) ++ (wO (ci 0) b S w r nb)) := wTO_D hI hI2 hd
    refine lv_aload_n hx hb dX2_takePerhaps_14 rfl (lv_at hl 0 rfl) ?_
    refine va_get (D := D) (ci := 2) (v := .int (nI (vlu tb tl (nxt tb tl p)))) (C := RX2) (T := TX2) (N := 6) hx hb hts hinX2 hown hK hP 0 rfl rfl 5 (by decide) (hts (.fieldLink RX2 28 "OneShort$Tape" "value" "I") (List.mem_of_getElem? (i := 1) rfl)) (fun _ h9 => h9) rfl dX2_takePerhaps_15 ?_
    refine lv_istore (lv' := [(5, .int (nI (vlu tb tl (nxt tb tl p)))), (0, .ref (a 0)), (1, .ref (adK 10)), (2, .ref (b 5)), (3, .int (nI u)), (4, .int (nI 9))]) hx hb dX2_takePerhaps_18 hl (by decide) rfl (fun ls hl => ?_)
    refine lv_aload_n hx hb dX2_takePerhaps_20 rfl (lv_at hl 1 rfl) ?_
    refine lv_iload hx hb dX2_takePerhaps_21 (lv_at hl 5 rfl) ?_
    refine mu_V (n := 1) (As := [.int (nI 9)]) (rest := []) ⟨hx, hb, hml, hown, hts⟩ (c_X2_takeNumber l D ci G ka adK adV fx a tl tb hI hG ((nxt tb tl p)) (9) h_tl h_tb (by omega) (by omega)) gX2_takePerhaps_X2_takeNumber rfl ⟨rfl, rfl⟩ (by decide +kernel) rfl ⟨Nat.le_of_ble_eq_true rfl, Nat.le_of_ble_eq_true rfl⟩ hE (enS_S hGA hs0 hS) hK (va_Pl hP) (ci := 2) (q0 := 0) rfl rfl hl.1 rfl (Nat.le_of_ble_eq_true rfl) dX2_takePerhaps_23 ⟨Nat.zero_le _, Nat.zero_le _⟩ hS (fun _ h => Or.inl h) (fun H1 locs hz hfr hB hS => ?_)
    have hP : va_P D vwCl (wTp ci a tl tb (tkq tb tl (nP tb tl (nxt tb tl p) 9)) ++ (wO (ci 0) b S w r nb)) H1 := wTO_t hd hP hfr hB
    generalize H1 = H at hP hS ⊢
    have hD : va_D (aTO a b) (wTp ci a tl tb (tkq tb tl (nP tb tl (nxt tb tl p) 9)) ++ (wO (ci 0) b S w r nb)) := wTO_D hI hI2 hd
    have f2 := tokf (tb := tb) (nP_le (tb := tb) (mx := 9) (show (nxt tb tl p) ≤ tl by omega))
    have f3 := nP_le (tb := tb) (mx := 9) (show (nxt tb tl p) ≤ tl by omega)
    refine nv_ifne_b (tgt := 31) hx hb dX2_takePerhaps_26 (by decide) (fun c4 => ?_) (fun c4 => ?_)
    · refine lv_aload_n hx hb dX2_takePerhaps_31 rfl (lv_at hl 3 rfl) ?_
      refine lv_iload_n hx hb dX2_takePerhaps_32 rfl (lv_at hl 4 rfl) ?_
      refine lv_iload hx hb dX2_takePerhaps_33 (lv_at hl 0 rfl) ?_
      refine nv_iast hx hb hK hP hD hS 7 0 rfl rfl (by omega) (by decide) dX2_takePerhaps_35 (fun H locs hP hD hS => ?_)
      have hP : va_P D vwCl (wTp ci a tl tb (tkq tb tl (nP tb tl (nxt tb tl p) 9)) ++ (wO (ci 0) b (st S 4 (u) (vlu tb tl (nxt tb tl p))) w r nb)) H := va_P.re (congrArg (fun z9 => wTp ci a tl tb (tkq tb tl (nP tb tl (nxt tb tl p) 9)) ++ z9) (wO_ast4 (ci 0) b S w r nb (u) (vlu tb tl (nxt tb tl p)))) hP
      have hD : va_D (aTO a b) (wTp ci a tl tb (tkq tb tl (nP tb tl (nxt tb tl p) 9)) ++ (wO (ci 0) b (st S 4 (u) (vlu tb tl (nxt tb tl p))) w r nb)) := wTO_D hI hI2 hd
      refine lv_iconst (v := nI (1)) hx hb dX2_takePerhaps_36 (by decide) ?_
      refine nv_cv (show nI (1) = bI ((pR tb tl 10 4 9 u p S).1) from nv_t (by simp [pR, c1, c4])) ?_
      exact mu_zret hx hb hr hlocks hS ((by first | (rw [show pR tb tl 10 4 9 u p S = (true, p, S) from by simp [pR, c1, c4]]; exact ⟨_, _, _, hP⟩) | ((rw [show pR tb tl 10 4 9 u p S = (false, nxt tb tl p, S) from by simp [pR, c1, c4]]); (rw [show nP tb tl (nxt tb tl p) 9 = nxt tb tl p from by simp [nP, c1, c4]] at hP); exact ⟨_, _, _, hP⟩) | ((rw [show pR tb tl 10 4 9 u p S = (true, nxt tb tl (nxt tb tl p), st S 4 u (vlu tb tl (nxt tb tl p))) from by simp [pR, c1, c4]]); (rw [show nP tb tl (nxt tb tl p) 9 = nxt tb tl (nxt tb tl p) from by simp [nP, c1, c4]] at hP); exact ⟨_, _, _, hP⟩))) dX2_takePerhaps_37
    · refine lv_iconst (v := nI (0)) hx hb dX2_takePerhaps_29 (by decide) ?_
      refine nv_cv (show nI (0) = bI ((pR tb tl 10 4 9 u p S).1) from nv_f (by simp [pR, c1, c4])) ?_
      exact mu_zret hx hb hr hlocks hS ((by first | (rw [show pR tb tl 10 4 9 u p S = (true, p, S) from by simp [pR, c1, c4]]; exact ⟨_, _, _, hP⟩) | ((rw [show pR tb tl 10 4 9 u p S = (false, nxt tb tl p, S) from by simp [pR, c1, c4]]); (rw [show nP tb tl (nxt tb tl p) 9 = nxt tb tl p from by simp [nP, c1, c4]] at hP); exact ⟨_, _, _, hP⟩) | ((rw [show pR tb tl 10 4 9 u p S = (true, nxt tb tl (nxt tb tl p), st S 4 u (vlu tb tl (nxt tb tl p))) from by simp [pR, c1, c4]]); (rw [show nP tb tl (nxt tb tl p) 9 = nxt tb tl (nxt tb tl p) from by simp [nP, c1, c4]] at hP); exact ⟨_, _, _, hP⟩))) dX2_takePerhaps_30
  · refine lv_iconst (v := nI (1)) hx hb dX2_takePerhaps_8 (by decide) ?_
    refine nv_cv (show nI (1) = bI ((pR tb tl 10 4 9 u p S).1) from nv_t (by simp [pR, c1])) ?_
    exact mu_zret hx hb hr hlocks hS ((by first | (rw [show pR tb tl 10 4 9 u p S = (true, p, S) from by simp [pR, c1]]; exact ⟨_, _, _, hP⟩) | ((rw [show pR tb tl 10 4 9 u p S = (false, nxt tb tl p, S) from by simp [pR, c1]]); (rw [show nP tb tl (nxt tb tl p) 9 = nxt tb tl p from by simp [nP, c1]] at hP); exact ⟨_, _, _, hP⟩) | ((rw [show pR tb tl 10 4 9 u p S = (true, nxt tb tl (nxt tb tl p), st S 4 u (vlu tb tl (nxt tb tl p))) from by simp [pR, c1]]); (rw [show nP tb tl (nxt tb tl p) 9 = nxt tb tl (nxt tb tl p) from by simp [nP, c1]] at hP); exact ⟨_, _, _, hP⟩))) dX2_takePerhaps_9

set_option maxHeartbeats 4000000 in
set_option maxRecDepth 100000 in
/-- X2_takePerhaps -/
theorem c_X2_takePerhaps_nerve (l : Launch) (D : va_G) (ci : Nat → ClassId) (G : Nat → Prop) (ka : Nat) (adK adV : Nat → Nat) (fx : Nat) (a : Nat → Nat) (tl : Nat) (tb : Nat → Nat) (b : Nat → Nat) (S : OS) (w r nb : Nat → Int32) (hI : injA a 2) (hG : ∀ k, k < 2 → G (a k)) (hI2 : injA b 11) (hG2 : ∀ k, k < 11 → G (b k)) (hd : ∀ i j, i < 2 → j < 11 → a i ≠ b j) (p u : Nat) (h_tl : tl ≤ 120) (h_tb : ∀ k, tb k < 256) (hWF : WF S) (h_p : p ≤ tl) (h_u : u < 8) : Met l yX2_takePerhaps wsX2_takePerhaps ({ frames := 5, cells := 0, slots := 0, locals := 107 } : Room) (va_Pc [.ref (a 0), .ref (adK 11), .ref (b 6), .int (nI u), .int (nI 99)] (ro_B D (tyL ci) (wTp ci a tl tb (tkq tb tl p) ++ (wO (ci 0) b S w r nb)) (enS D (ci 0) G ka adK adV fx))) (mu_Q (aTO a b) (some (.int (bI ((pR tb tl 11 5 99 u p S).1)))) (fun H => ∃ w r nb, va_P D vwCl ((wTp ci a tl tb (tkq tb tl ((pR tb tl 11 5 99 u p S).2.1)) ++ (wO (ci 0) b ((pR tb tl 11 5 99 u p S).2.2) w r nb))) H)) 0 0 (aTO a b) := by
  refine mu_Met (cc := cX2_takePerhaps) (maxL := 6) (ret := (some .boolean)) [(0, .ref (a 0)), (1, .ref (adK 11)), (2, .ref (b 6)), (3, .int (nI u)), (4, .int (nI 99))] (wTO_D hI hI2 hd) (by decide) rfl (Nat.le_of_ble_eq_true rfl) rfl ?_
  intro pg e s m below meth c H locs hx hb hml hr hlocks hts hown hP hK hs0 hD hS ls hl
  have hown : s.vm.findClass RX2 = some m.cls := hown
  have hinX2 : ∀ w ∈ wsX20, w ∈ wsX2_takePerhaps := by decide +kernel
  have hE := hE_S D (ci 0) G ka adK adV fx
  have hGA := aTO_G hG hG2
  have f_t := tokf (tb := tb) h_p
  refine lv_aload_n hx hb dX2_takePerhaps_0 rfl (lv_at hl 0 rfl) ?_
  refine lv_aload_n hx hb dX2_takePerhaps_1 rfl (lv_at hl 1 rfl) ?_
  refine ro_V (n := 1) (As := [.ref (adK 11)]) (rest := []) ⟨hx, hb, hml, hown, hts⟩ (c_X2_isWord l D ci G ka adK adV fx a tl tb (p) (11) h_tl h_tb (by omega) (by omega)) gX2_takePerhaps_X2_isWord rfl ⟨rfl, rfl⟩ (by decide +kernel) rfl ⟨Nat.le_of_ble_eq_true rfl, Nat.le_of_ble_eq_true rfl⟩ hE (enS_S hGA hs0 hS) hK (va_Pl hP) (ci := 2) (q0 := 0) rfl rfl hl.1 rfl (Nat.le_of_ble_eq_true rfl) dX2_takePerhaps_2 ⟨Nat.zero_le _, Nat.zero_le _⟩ ?_
  refine nv_ifne_b (tgt := 10) hx hb dX2_takePerhaps_5 (by decide) (fun c1 => ?_) (fun c1 => ?_)
  · refine lv_aload_n hx hb dX2_takePerhaps_10 rfl (lv_at hl 0 rfl) ?_
    refine mu_V (n := 0) (As := []) (rest := []) ⟨hx, hb, hml, hown, hts⟩ (c_X2_advance l D ci G ka adK adV fx a tl tb hI hG (nI (srt tb tl p)) (nI (stt tb tl p)) (nI (vlu tb tl p)) (nxt tb tl p) h_tl h_tb (by omega)) gX2_takePerhaps_X2_advance rfl ⟨rfl, rfl⟩ (by decide +kernel) rfl ⟨Nat.le_of_ble_eq_true rfl, Nat.le_of_ble_eq_true rfl⟩ hE (enS_S hGA hs0 hS) hK (va_Pl hP) (ci := 2) (q0 := 0) rfl rfl hl.1 rfl (Nat.le_of_ble_eq_true rfl) dX2_takePerhaps_11 ⟨Nat.zero_le _, Nat.zero_le _⟩ hS (fun _ h => Or.inl h) (fun H1 locs hz hfr hB hS => ?_)
    have hP : va_P D vwCl (wTp ci a tl tb (tkq tb tl (nxt tb tl p)) ++ (wO (ci 0) b S w r nb)) H1 := wTO_t hd hP hfr hB
    generalize H1 = H at hP hS ⊢
    have hD : va_D (aTO a b) (wTp ci a tl tb (tkq tb tl (nxt tb tl p)) ++ (wO (ci 0) b S w r nb)) := wTO_D hI hI2 hd
    refine lv_aload_n hx hb dX2_takePerhaps_14 rfl (lv_at hl 0 rfl) ?_
    refine va_get (D := D) (ci := 2) (v := .int (nI (vlu tb tl (nxt tb tl p)))) (C := RX2) (T := TX2) (N := 6) hx hb hts hinX2 hown hK hP 0 rfl rfl 5 (by decide) (hts (.fieldLink RX2 28 "OneShort$Tape" "value" "I") (List.mem_of_getElem? (i := 1) rfl)) (fun _ h9 => h9) rfl dX2_takePerhaps_15 ?_
    refine lv_istore (lv' := [(5, .int (nI (vlu tb tl (nxt tb tl p)))), (0, .ref (a 0)), (1, .ref (adK 11)), (2, .ref (b 6)), (3, .int (nI u)), (4, .int (nI 99))]) hx hb dX2_takePerhaps_18 hl (by decide) rfl (fun ls hl => ?_)
    refine lv_aload_n hx hb dX2_takePerhaps_20 rfl (lv_at hl 1 rfl) ?_
    refine lv_iload hx hb dX2_takePerhaps_21 (lv_at hl 5 rfl) ?_
    refine mu_V (n := 1) (As := [.int (nI 99)]) (rest := []) ⟨hx, hb, hml, hown, hts⟩ (c_X2_takeNumber l D ci G ka adK adV fx a tl tb hI hG ((nxt tb tl p)) (99) h_tl h_tb (by omega) (by omega)) gX2_takePerhaps_X2_takeNumber rfl ⟨rfl, rfl⟩ (by decide +kernel) rfl ⟨Nat.le_of_ble_eq_true rfl, Nat.le_of_ble_eq_true rfl⟩ hE (enS_S hGA hs0 hS) hK (va_Pl hP) (ci := 2) (q0 := 0) rfl rfl hl.1 rfl (Nat.le_of_ble_eq_true rfl) dX2_takePerhaps_23 ⟨Nat.zero_le _, Nat.zero_le _⟩ hS (fun _ h => Or.inl h) (fun H1 locs hz hfr hB hS => ?_)
    have hP : va_P D vwCl (wTp ci a tl tb (tkq tb tl (nP tb tl (nxt tb tl p) 99)) ++ (wO (ci 0) b S w r nb)) H1 := wTO_t hd hP hfr hB
    generalize H1 = H at hP hS ⊢
    have hD : va_D (aTO a b) (wTp ci a tl tb (tkq tb tl (nP tb tl (nxt tb tl p) 99)) ++ (wO (ci 0) b S w r nb)) := wTO_D hI hI2 hd
    have f2 := tokf (tb := tb) (nP_le (tb := tb) (mx := 99) (show (nxt tb tl p) ≤ tl by omega))
    have f3 := nP_le (tb := tb) (mx := 99) (show (nxt tb tl p) ≤ tl by omega)
    refine nv_ifne_b (tgt := 31) hx hb dX2_takePerhaps_26 (by decide) (fun c4 => ?_) (fun c4 => ?_)
    · refine lv_aload_n hx hb dX2_takePerhaps_31 rfl (lv_at hl 3 rfl) ?_
      refine lv_iload_n hx hb dX2_takePerhaps_32 rfl (lv_at hl 4 rfl) ?_
      refine lv_iload hx hb dX2_takePerhaps_33 (lv_at hl 0 rfl) ?_
      refine nv_iast hx hb hK hP hD hS 8 0 rfl rfl (by omega) (by decide) dX2_takePerhaps_35 (fun H locs hP hD hS => ?_)
      have hP : va_P D vwCl (wTp ci a tl tb (tkq tb tl (nP tb tl (nxt tb tl p) 99)) ++ (wO (ci 0) b (st S 5 (u) (vlu tb tl (nxt tb tl p))) w r nb)) H := va_P.re (congrArg (fun z9 => wTp ci a tl tb (tkq tb tl (nP tb tl (nxt tb tl p) 99)) ++ z9) (wO_ast5 (ci 0) b S w r nb (u) (vlu tb tl (nxt tb tl p)))) hP
      have hD : va_D (aTO a b) (wTp ci a tl tb (tkq tb tl (nP tb tl (nxt tb tl p) 99)) ++ (wO (ci 0) b (st S 5 (u) (vlu tb tl (nxt tb tl p))) w r nb)) := wTO_D hI hI2 hd
      refine lv_iconst (v := nI (1)) hx hb dX2_takePerhaps_36 (by decide) ?_
      refine nv_cv (show nI (1) = bI ((pR tb tl 11 5 99 u p S).1) from nv_t (by simp [pR, c1, c4])) ?_
      exact mu_zret hx hb hr hlocks hS ((by first | (rw [show pR tb tl 11 5 99 u p S = (true, p, S) from by simp [pR, c1, c4]]; exact ⟨_, _, _, hP⟩) | ((rw [show pR tb tl 11 5 99 u p S = (false, nxt tb tl p, S) from by simp [pR, c1, c4]]); (rw [show nP tb tl (nxt tb tl p) 99 = nxt tb tl p from by simp [nP, c1, c4]] at hP); exact ⟨_, _, _, hP⟩) | ((rw [show pR tb tl 11 5 99 u p S = (true, nxt tb tl (nxt tb tl p), st S 5 u (vlu tb tl (nxt tb tl p))) from by simp [pR, c1, c4]]); (rw [show nP tb tl (nxt tb tl p) 99 = nxt tb tl (nxt tb tl p) from by simp [nP, c1, c4]] at hP); exact ⟨_, _, _, hP⟩))) dX2_takePerhaps_37
    · refine lv_iconst (v := nI (0)) hx hb dX2_takePerhaps_29 (by decide) ?_
      refine nv_cv (show nI (0) = bI ((pR tb tl 11 5 99 u p S).1) from nv_f (by simp [pR, c1, c4])) ?_
      exact mu_zret hx hb hr hlocks hS ((by first | (rw [show pR tb tl 11 5 99 u p S = (true, p, S) from by simp [pR, c1, c4]]; exact ⟨_, _, _, hP⟩) | ((rw [show pR tb tl 11 5 99 u p S = (false, nxt tb tl p, S) from by simp [pR, c1, c4]]); (rw [show nP tb tl (nxt tb tl p) 99 = nxt tb tl p from by simp [nP, c1, c4]] at hP); exact ⟨_, _, _, hP⟩) | ((rw [show pR tb tl 11 5 99 u p S = (true, nxt tb tl (nxt tb tl p), st S 5 u (vlu tb tl (nxt tb tl p))) from by simp [pR, c1, c4]]); (rw [show nP tb tl (nxt tb tl p) 99 = nxt tb tl (nxt tb tl p) from by simp [nP, c1, c4]] at hP); exact ⟨_, _, _, hP⟩))) dX2_takePerhaps_30
  · refine lv_iconst (v := nI (1)) hx hb dX2_takePerhaps_8 (by decide) ?_
    refine nv_cv (show nI (1) = bI ((pR tb tl 11 5 99 u p S).1) from nv_t (by simp [pR, c1])) ?_
    exact mu_zret hx hb hr hlocks hS ((by first | (rw [show pR tb tl 11 5 99 u p S = (true, p, S) from by simp [pR, c1]]; exact ⟨_, _, _, hP⟩) | ((rw [show pR tb tl 11 5 99 u p S = (false, nxt tb tl p, S) from by simp [pR, c1]]); (rw [show nP tb tl (nxt tb tl p) 99 = nxt tb tl p from by simp [nP, c1]] at hP); exact ⟨_, _, _, hP⟩) | ((rw [show pR tb tl 11 5 99 u p S = (true, nxt tb tl (nxt tb tl p), st S 5 u (vlu tb tl (nxt tb tl p))) from by simp [pR, c1]]); (rw [show nP tb tl (nxt tb tl p) 99 = nxt tb tl (nxt tb tl p) from by simp [nP, c1]] at hP); exact ⟨_, _, _, hP⟩))) dX2_takePerhaps_9

set_option maxHeartbeats 4000000 in
set_option maxRecDepth 100000 in
/-- X2_takeBar -/
theorem c_X2_takeBar (l : Launch) (D : va_G) (ci : Nat → ClassId) (G : Nat → Prop) (ka : Nat) (adK adV : Nat → Nat) (fx : Nat) (a : Nat → Nat) (tl : Nat) (tb : Nat → Nat) (b : Nat → Nat) (S : OS) (w r nb : Nat → Int32) (hI : injA a 2) (hG : ∀ k, k < 2 → G (a k)) (hI2 : injA b 11) (hG2 : ∀ k, k < 11 → G (b k)) (hd : ∀ i j, i < 2 → j < 11 → a i ≠ b j) (p : Nat) (h_tl : tl ≤ 120) (h_tb : ∀ k, tb k < 256) (hWF : WF S) (h_p : p ≤ tl) : Met l yX2_takeBar wsX2_takeBar ({ frames := 4, cells := 0, slots := 0, locals := 81 } : Room) (va_Pc [.ref (a 0), .ref (b 0)] (ro_B D (tyL ci) (wTp ci a tl tb (tkq tb tl p) ++ (wO (ci 0) b S w r nb)) (enS D (ci 0) G ka adK adV fx))) (mu_Q (aTO a b) (some (.int (bI ((bR tb tl p S).1)))) (fun H => ∃ w r nb, va_P D vwCl ((wTp ci a tl tb (tkq tb tl ((bR tb tl p S).2.1)) ++ (wO (ci 0) b ((bR tb tl p S).2.2) w r nb))) H)) 0 0 (aTO a b) := by
  refine mu_Met (cc := cX2_takeBar) (maxL := 4) (ret := (some .boolean)) [(0, .ref (a 0)), (1, .ref (b 0))] (wTO_D hI hI2 hd) (by decide) rfl (Nat.le_of_ble_eq_true rfl) rfl ?_
  intro pg e s m below meth c H locs hx hb hml hr hlocks hts hown hP hK hs0 hD hS ls hl
  have hown : s.vm.findClass RX2 = some m.cls := hown
  have hinX0 : ∀ w ∈ wsX00, w ∈ wsX2_takeBar := by decide +kernel
  have hinX2 : ∀ w ∈ wsX20, w ∈ wsX2_takeBar := by decide +kernel
  have hE := hE_S D (ci 0) G ka adK adV fx
  have hGA := aTO_G hG hG2
  have f_t := tokf (tb := tb) h_p
  refine lv_aload_n hx hb dX2_takeBar_0 rfl (lv_at hl 0 rfl) ?_
  refine mu_V (n := 0) (As := []) (rest := []) ⟨hx, hb, hml, hown, hts⟩ (c_X2_advance l D ci G ka adK adV fx a tl tb hI hG (nI (srt tb tl p)) (nI (stt tb tl p)) (nI (vlu tb tl p)) (nxt tb tl p) h_tl h_tb (by omega)) gX2_takeBar_X2_advance rfl ⟨rfl, rfl⟩ (by decide +kernel) rfl ⟨Nat.le_of_ble_eq_true rfl, Nat.le_of_ble_eq_true rfl⟩ hE (enS_S hGA hs0 hS) hK (va_Pl hP) (ci := 2) (q0 := 0) rfl rfl hl.1 rfl (Nat.le_of_ble_eq_true rfl) dX2_takeBar_1 ⟨Nat.zero_le _, Nat.zero_le _⟩ hS (fun _ h => Or.inl h) (fun H1 locs hz hfr hB hS => ?_)
  have hP : va_P D vwCl (wTp ci a tl tb (tkq tb tl (nxt tb tl p)) ++ (wO (ci 0) b S w r nb)) H1 := wTO_t hd hP hfr hB
  generalize H1 = H at hP hS ⊢
  have hD : va_D (aTO a b) (wTp ci a tl tb (tkq tb tl (nxt tb tl p)) ++ (wO (ci 0) b S w r nb)) := wTO_D hI hI2 hd
  refine lv_aload_n hx hb dX2_takeBar_4 rfl (lv_at hl 0 rfl) ?_
  refine va_get (D := D) (ci := 2) (v := .int (nI (vlu tb tl (nxt tb tl p)))) (C := RX2) (T := TX2) (N := 6) hx hb hts hinX2 hown hK hP 0 rfl rfl 5 (by decide) (hts (.fieldLink RX2 28 "OneShort$Tape" "value" "I") (List.mem_of_getElem? (i := 1) rfl)) (fun _ h9 => h9) rfl dX2_takeBar_5 ?_
  refine lv_istore_n (lv' := [(2, .int (nI (vlu tb tl (nxt tb tl p)))), (0, .ref (a 0)), (1, .ref (b 0))]) hx hb dX2_takeBar_8 rfl hl (by decide) rfl (fun ls hl => ?_)
  refine lv_aload_n hx hb dX2_takeBar_9 rfl (lv_at hl 1 rfl) ?_
  refine lv_bipush (v := nI (11)) hx hb dX2_takeBar_10 (by decide) ?_
  refine mu_V (n := 1) (As := [.int (nI 11)]) (rest := []) ⟨hx, hb, hml, hown, hts⟩ (c_X2_takeNumber l D ci G ka adK adV fx a tl tb hI hG ((nxt tb tl p)) (11) h_tl h_tb (by omega) (by omega)) gX2_takeBar_X2_takeNumber rfl ⟨rfl, rfl⟩ (by decide +kernel) rfl ⟨Nat.le_of_ble_eq_true rfl, Nat.le_of_ble_eq_true rfl⟩ hE (enS_S hGA hs0 hS) hK (va_Pl hP) (ci := 2) (q0 := 0) rfl rfl hl.1 rfl (Nat.le_of_ble_eq_true rfl) dX2_takeBar_12 ⟨Nat.zero_le _, Nat.zero_le _⟩ hS (fun _ h => Or.inl h) (fun H1 locs hz hfr hB hS => ?_)
  have hP : va_P D vwCl (wTp ci a tl tb (tkq tb tl (nP tb tl (nxt tb tl p) 11)) ++ (wO (ci 0) b S w r nb)) H1 := wTO_t hd hP hfr hB
  generalize H1 = H at hP hS ⊢
  have hD : va_D (aTO a b) (wTp ci a tl tb (tkq tb tl (nP tb tl (nxt tb tl p) 11)) ++ (wO (ci 0) b S w r nb)) := wTO_D hI hI2 hd
  have f1 := tokf (tb := tb) (nP_le (tb := tb) (mx := 11) (show (nxt tb tl p) ≤ tl by omega))
  have f2 := nP_le (tb := tb) (mx := 11) (show (nxt tb tl p) ≤ tl by omega)
  refine nv_ifne_b (tgt := 20) hx hb dX2_takeBar_15 (by decide) (fun c3 => ?_) (fun c3 => ?_)
  · have f4 := rNum_le c3
    have e_n1 : nP tb tl (nxt tb tl p) 11 = nxt tb tl (nxt tb tl p) := if_pos c3
    rw [e_n1] at hP
    have hP : va_P D vwCl (wTp ci a tl tb (tkq tb tl (nxt tb tl (nxt tb tl p))) ++ (wO (ci 0) b S w r nb)) H := hP
    have hD : va_D (aTO a b) (wTp ci a tl tb (tkq tb tl (nxt tb tl (nxt tb tl p))) ++ (wO (ci 0) b S w r nb)) := wTO_D hI hI2 hd
    have f5 := tokf (tb := tb) (p := nxt tb tl (nxt tb tl p)) (nxt_le (by omega))
    refine lv_aload_n hx hb dX2_takeBar_20 rfl (lv_at hl 1 rfl) ?_
    refine va_get (D := D) (ci := 2) (v := .int (nI (vlu tb tl (nxt tb tl (nxt tb tl p))))) (C := RX2) (T := TX2) (N := 6) hx hb hts hinX2 hown hK hP 0 rfl rfl 5 (by decide) (hts (.fieldLink RX2 28 "OneShort$Tape" "value" "I") (List.mem_of_getElem? (i := 1) rfl)) (fun _ h9 => h9) rfl dX2_takeBar_21 ?_
    refine lv_istore_n (lv' := [(3, .int (nI (vlu tb tl (nxt tb tl (nxt tb tl p))))), (2, .int (nI (vlu tb tl (nxt tb tl p)))), (0, .ref (a 0)), (1, .ref (b 0))]) hx hb dX2_takeBar_24 rfl hl (by decide) rfl (fun ls hl => ?_)
    refine lv_aload_n hx hb dX2_takeBar_25 rfl (lv_at hl 2 rfl) ?_
    refine lv_bipush (v := nI (63)) hx hb dX2_takeBar_26 (by decide) ?_
    refine mu_V (n := 1) (As := [.int (nI 63)]) (rest := []) ⟨hx, hb, hml, hown, hts⟩ (c_X2_takeNumber l D ci G ka adK adV fx a tl tb hI hG (nxt tb tl (nxt tb tl p)) (63) h_tl h_tb (by omega) (by omega)) gX2_takeBar_X2_takeNumber rfl ⟨rfl, rfl⟩ (by decide +kernel) rfl ⟨Nat.le_of_ble_eq_true rfl, Nat.le_of_ble_eq_true rfl⟩ hE (enS_S hGA hs0 hS) hK (va_Pl hP) (ci := 2) (q0 := 0) rfl rfl hl.1 rfl (Nat.le_of_ble_eq_true rfl) dX2_takeBar_28 ⟨Nat.zero_le _, Nat.zero_le _⟩ hS (fun _ h => Or.inl h) (fun H1 locs hz hfr hB hS => ?_)
    have hP : va_P D vwCl (wTp ci a tl tb (tkq tb tl (nP tb tl (nxt tb tl (nxt tb tl p)) 63)) ++ (wO (ci 0) b S w r nb)) H1 := wTO_t hd hP hfr hB
    generalize H1 = H at hP hS ⊢
    have hD : va_D (aTO a b) (wTp ci a tl tb (tkq tb tl (nP tb tl (nxt tb tl (nxt tb tl p)) 63)) ++ (wO (ci 0) b S w r nb)) := wTO_D hI hI2 hd
    have f6 := tokf (tb := tb) (nP_le (tb := tb) (mx := 63) (show nxt tb tl (nxt tb tl p) ≤ tl by omega))
    have f7 := nP_le (tb := tb) (mx := 63) (show nxt tb tl (nxt tb tl p) ≤ tl by omega)
    refine nv_ifne_b (tgt := 36) hx hb dX2_takeBar_31 (by decide) (fun c8 => ?_) (fun c8 => ?_)
    · refine lv_aload_n hx hb dX2_takeBar_36 rfl (lv_at hl 3 rfl) ?_
      refine va_get (D := D) (ci := 0) (v := .ref (b 1)) (C := RX0) (T := TX0) (N := 13) hx hb hts hinX0 hown hK hP 2 rfl rfl 0 (by decide) (hts (.fieldLink RX2 85 "OneShort$Orchestra" "bars" "[I") (List.mem_of_getElem? (i := 2) rfl)) (fun _ h9 => h9) rfl dX2_takeBar_37 ?_
      refine lv_iload_n hx hb dX2_takeBar_40 rfl (lv_at hl 1 rfl) ?_
      refine lv_iload_n hx hb dX2_takeBar_41 rfl (lv_at hl 0 rfl) ?_
      refine nv_iast hx hb hK hP hD hS 3 0 rfl rfl (by omega) (by decide) dX2_takeBar_42 (fun H locs hP hD hS => ?_)
      have hP : va_P D vwCl (wTp ci a tl tb (tkq tb tl (nP tb tl (nxt tb tl (nxt tb tl p)) 63)) ++ (wO (ci 0) b (st S 0 (vlu tb tl (nxt tb tl p)) (vlu tb tl (nxt tb tl (nxt tb tl p)))) w r nb)) H := va_P.re (congrArg (fun z9 => wTp ci a tl tb (tkq tb tl (nP tb tl (nxt tb tl (nxt tb tl p)) 63)) ++ z9) (wO_ast0 (ci 0) b S w r nb (vlu tb tl (nxt tb tl p)) (vlu tb tl (nxt tb tl (nxt tb tl p))))) hP
      have hD : va_D (aTO a b) (wTp ci a tl tb (tkq tb tl (nP tb tl (nxt tb tl (nxt tb tl p)) 63)) ++ (wO (ci 0) b (st S 0 (vlu tb tl (nxt tb tl p)) (vlu tb tl (nxt tb tl (nxt tb tl p)))) w r nb)) := wTO_D hI hI2 hd
      refine lv_iconst (v := nI (1)) hx hb dX2_takeBar_43 (by decide) ?_
      refine nv_cv (show nI (1) = bI ((bR tb tl p S).1) from nv_t (by simp [bR, c3, c8])) ?_
      exact mu_zret hx hb hr hlocks hS ((by first | ((rw [show bR tb tl p S = (false, nxt tb tl p, S) from by simp [bR, c3, c8]]); (rw [show nP tb tl (nxt tb tl p) 11 = nxt tb tl p from by simp [nP, c3, c8]] at hP); exact ⟨_, _, _, hP⟩) | ((rw [show bR tb tl p S = (false, nxt tb tl (nxt tb tl p), S) from by simp [bR, c3, c8]]); (rw [show nP tb tl (nxt tb tl (nxt tb tl p)) 63 = nxt tb tl (nxt tb tl p) from by simp [nP, c3, c8]] at hP); exact ⟨_, _, _, hP⟩) | ((rw [show bR tb tl p S = (true, nxt tb tl (nxt tb tl (nxt tb tl p)), st S 0 (vlu tb tl (nxt tb tl p)) (vlu tb tl (nxt tb tl (nxt tb tl p)))) from by simp [bR, c3, c8]]); (rw [show nP tb tl (nxt tb tl (nxt tb tl p)) 63 = nxt tb tl (nxt tb tl (nxt tb tl p)) from by simp [nP, c3, c8]] at hP); exact ⟨_, _, _, hP⟩))) dX2_takeBar_44
    · refine lv_iconst (v := nI (0)) hx hb dX2_takeBar_34 (by decide) ?_
      refine nv_cv (show nI (0) = bI ((bR tb tl p S).1) from nv_f (by simp [bR, c3, c8])) ?_
      exact mu_zret hx hb hr hlocks hS ((by first | ((rw [show bR tb tl p S = (false, nxt tb tl p, S) from by simp [bR, c3, c8]]); (rw [show nP tb tl (nxt tb tl p) 11 = nxt tb tl p from by simp [nP, c3, c8]] at hP); exact ⟨_, _, _, hP⟩) | ((rw [show bR tb tl p S = (false, nxt tb tl (nxt tb tl p), S) from by simp [bR, c3, c8]]); (rw [show nP tb tl (nxt tb tl (nxt tb tl p)) 63 = nxt tb tl (nxt tb tl p) from by simp [nP, c3, c8]] at hP); exact ⟨_, _, _, hP⟩) | ((rw [show bR tb tl p S = (true, nxt tb tl (nxt tb tl (nxt tb tl p)), st S 0 (vlu tb tl (nxt tb tl p)) (vlu tb tl (nxt tb tl (nxt tb tl p)))) from by simp [bR, c3, c8]]); (rw [show nP tb tl (nxt tb tl (nxt tb tl p)) 63 = nxt tb tl (nxt tb tl (nxt tb tl p)) from by simp [nP, c3, c8]] at hP); exact ⟨_, _, _, hP⟩))) dX2_takeBar_35
  · refine lv_iconst (v := nI (0)) hx hb dX2_takeBar_18 (by decide) ?_
    refine nv_cv (show nI (0) = bI ((bR tb tl p S).1) from nv_f (by simp [bR, c3])) ?_
    exact mu_zret hx hb hr hlocks hS ((by first | ((rw [show bR tb tl p S = (false, nxt tb tl p, S) from by simp [bR, c3]]); (rw [show nP tb tl (nxt tb tl p) 11 = nxt tb tl p from by simp [nP, c3]] at hP); exact ⟨_, _, _, hP⟩) | ((rw [show bR tb tl p S = (false, nxt tb tl (nxt tb tl p), S) from by simp [bR, c3]]); (rw [show nP tb tl (nxt tb tl (nxt tb tl p)) 63 = nxt tb tl (nxt tb tl p) from by simp [nP, c3]] at hP); exact ⟨_, _, _, hP⟩) | ((rw [show bR tb tl p S = (true, nxt tb tl (nxt tb tl (nxt tb tl p)), st S 0 (vlu tb tl (nxt tb tl p)) (vlu tb tl (nxt tb tl (nxt tb tl p)))) from by simp [bR, c3]]); (rw [show nP tb tl (nxt tb tl (nxt tb tl p)) 63 = nxt tb tl (nxt tb tl (nxt tb tl p)) from by simp [nP, c3]] at hP); exact ⟨_, _, _, hP⟩))) dX2_takeBar_19

set_option maxHeartbeats 4000000 in
set_option maxRecDepth 100000 in
/-- X2_takeItem -/
theorem c_X2_takeItem (l : Launch) (D : va_G) (ci : Nat → ClassId) (G : Nat → Prop) (ka : Nat) (adK adV : Nat → Nat) (fx : Nat) (a : Nat → Nat) (tl : Nat) (tb : Nat → Nat) (b : Nat → Nat) (S : OS) (w r nb : Nat → Int32) (hI : injA a 2) (hG : ∀ k, k < 2 → G (a k)) (hI2 : injA b 11) (hG2 : ∀ k, k < 11 → G (b k)) (hd : ∀ i j, i < 2 → j < 11 → a i ≠ b j) (p : Nat) (h_tl : tl ≤ 120) (h_tb : ∀ k, tb k < 256) (hWF : WF S) (h_p : p ≤ tl) : Met l yX2_takeItem wsX2_takeItem ({ frames := 6, cells := 0, slots := 0, locals := 132 } : Room) (va_Pc [.ref (a 0), .ref (b 0)] (ro_B D (tyL ci) (wTp ci a tl tb (tkq tb tl p) ++ (wO (ci 0) b S w r nb)) (enS D (ci 0) G ka adK adV fx))) (mu_Q (aTO a b) (some (.int (bI ((iR tb tl p S).1)))) (fun H => ∃ w r nb, va_P D vwCl ((wTp ci a tl tb (tkq tb tl ((iR tb tl p S).2.1)) ++ (wO (ci 0) b ((iR tb tl p S).2.2) w r nb))) H)) 0 0 (aTO a b) := by
  refine mu_Met (cc := cX2_takeItem) (maxL := 4) (ret := (some .boolean)) [(0, .ref (a 0)), (1, .ref (b 0))] (wTO_D hI hI2 hd) (by decide) rfl (Nat.le_of_ble_eq_true rfl) rfl ?_
  intro pg e s m below meth c H locs hx hb hml hr hlocks hts hown hP hK hs0 hD hS ls hl
  have hown : s.vm.findClass RX2 = some m.cls := hown
  have hinX0 : ∀ w ∈ wsX00, w ∈ wsX2_takeItem := by decide +kernel
  have hE := hE_S D (ci 0) G ka adK adV fx
  have hGA := aTO_G hG hG2
  have f_t := tokf (tb := tb) h_p
  have f_n8 := hWF.n
  refine lv_aload_n hx hb dX2_takeItem_0 rfl (lv_at hl 0 rfl) ?_
  refine va_ldcS (tx := "bar") (q := adK 7) hx hb hown (hs0.2.2.2.2 ("OneShort$Tape", 38, "bar", 7) (by decide)) dX2_takeItem_1 ?_
  refine ro_V (n := 1) (As := [.ref (adK 7)]) (rest := []) ⟨hx, hb, hml, hown, hts⟩ (c_X2_isWord l D ci G ka adK adV fx a tl tb (p) (7) h_tl h_tb (by omega) (by omega)) gX2_takeItem_X2_isWord rfl ⟨rfl, rfl⟩ (by decide +kernel) rfl ⟨Nat.le_of_ble_eq_true rfl, Nat.le_of_ble_eq_true rfl⟩ hE (enS_S hGA hs0 hS) hK (va_Pl hP) (ci := 2) (q0 := 0) rfl rfl hl.1 rfl (Nat.le_of_ble_eq_true rfl) dX2_takeItem_3 ⟨Nat.zero_le _, Nat.zero_le _⟩ ?_
  refine nv_ifeq_b (tgt := 15) hx hb dX2_takeItem_6 (by decide) (fun c1 => ?_) (fun c1 => ?_)
  · refine lv_aload_n hx hb dX2_takeItem_15 rfl (lv_at hl 0 rfl) ?_
    refine ro_V (n := 0) (As := []) (rest := []) ⟨hx, hb, hml, hown, hts⟩ (c_X2_kindTold l D ci G ka adK adV fx a tl tb (p) h_tl h_tb (by omega)) gX2_takeItem_X2_kindTold rfl ⟨rfl, rfl⟩ (by decide +kernel) rfl ⟨Nat.le_of_ble_eq_true rfl, Nat.le_of_ble_eq_true rfl⟩ hE (enS_S hGA hs0 hS) hK (va_Pl hP) (ci := 2) (q0 := 0) rfl rfl hl.1 rfl (Nat.le_of_ble_eq_true rfl) dX2_takeItem_16 ⟨Nat.zero_le _, Nat.zero_le _⟩ ?_
    have f2 := kT_le (tb := tb) (tl := tl) (p)
    refine lv_istore_n (lv' := [(2, .int (nI (kT tb tl p) - nI (1))), (0, .ref (a 0)), (1, .ref (b 0))]) hx hb dX2_takeItem_19 rfl hl (by decide) rfl (fun ls hl => ?_)
    refine lv_iload_n hx hb dX2_takeItem_20 rfl (lv_at hl 0 rfl) ?_
    refine nv_iflt_D (tgt := 33) hx hb (by omega) dX2_takeItem_21 (by decide) (fun c3 => ?_) (fun c3 => ?_)
    · refine lv_iconst (v := nI (0)) hx hb dX2_takeItem_33 (by decide) ?_
      refine nv_cv (show nI (0) = bI ((iR tb tl p S).1) from nv_f (by rw [show iR tb tl p S = _ from (by first | exact iR_b c1 | exact iR_0 c1 (Or.inl c3) | exact iR_0 c1 (Or.inr c3) | exact (iR_k c1 e_k1 (by omega)).trans (kR_1 e_r1 c3) | exact (iR_k c1 e_k1 (by omega)).trans (kR_2 e_r1 c1 e_r2 c3) | exact (iR_k c1 e_k1 (by omega)).trans (kR_3 e_r1 rfl e_r2 c1 e_r3 c3) | exact (iR_k c1 e_k1 (by omega)).trans (kR_4 e_r1 rfl e_r2 rfl e_r3 c1 e_r4))]; try assumption)) ?_
      exact mu_zret hx hb hr hlocks hS ((by rw [show iR tb tl p S = _ from (by first | exact iR_b c1 | exact iR_0 c1 (Or.inl c3) | exact iR_0 c1 (Or.inr c3) | exact (iR_k c1 e_k1 (by omega)).trans (kR_1 e_r1 c3) | exact (iR_k c1 e_k1 (by omega)).trans (kR_2 e_r1 c1 e_r2 c3) | exact (iR_k c1 e_k1 (by omega)).trans (kR_3 e_r1 rfl e_r2 c1 e_r3 c3) | exact (iR_k c1 e_k1 (by omega)).trans (kR_4 e_r1 rfl e_r2 rfl e_r3 c1 e_r4))]; exact ⟨_, _, _, hP⟩)) dX2_takeItem_34
    · obtain ⟨k1, e_k1⟩ : ∃ k1, kT tb tl p = k1 + 1 := ⟨kT tb tl p - 1, by omega⟩
      rw [show nI (kT tb tl p) - nI 1 = nI k1 by rw [e_k1]; exact nI_pred k1] at hl
      refine lv_aload_n hx hb dX2_takeItem_24 rfl (lv_at hl 2 rfl) ?_
      refine va_get (D := D) (ci := 0) (v := .int (nI (S 7 0))) (C := RX0) (T := TX0) (N := 13) hx hb hts hinX0 hown hK hP 2 rfl rfl 7 (by decide) (hts (.fieldLink RX2 51 "OneShort$Orchestra" "size" "I") (List.mem_of_getElem? (i := 1) rfl)) (fun _ h9 => h9) rfl dX2_takeItem_25 ?_
      refine lv_bipush (v := nI (8)) hx hb dX2_takeItem_28 (by decide) ?_
      refine nv_icmp_lt (tgt := 35) hx hb (by omega) (by omega) dX2_takeItem_30 (by decide) (fun c4 => ?_) (fun c4 => ?_)
      · refine lv_aload_n hx hb dX2_takeItem_35 rfl (lv_at hl 2 rfl) ?_
        refine lv_iload_n hx hb dX2_takeItem_36 rfl (lv_at hl 0 rfl) ?_
        refine lv_iconst (v := nI (0)) hx hb dX2_takeItem_37 (by decide) ?_
        refine mu_V (n := 2) (As := [.int (nI k1), .int (nI 0)]) (rest := []) ⟨hx, hb, hml, hown, hts⟩ (c_X0_engage l D ci G ka b S w r nb hI2 hG2 (k1) (0) hWF (by omega)) gX2_takeItem_X0_engage rfl ⟨rfl, rfl⟩ (by decide +kernel) rfl ⟨Nat.le_of_ble_eq_true rfl, Nat.le_of_ble_eq_true rfl⟩ (hE_en D (ci 0) G ka) (enS_S hGA hs0 hS).1 hK (va_Pr hP) (ci := 0) (q0 := 0) rfl rfl hl.1 rfl (Nat.le_of_ble_eq_true rfl) dX2_takeItem_38 ⟨Nat.zero_le _, Nat.zero_le _⟩ hS (fun _ h => Or.inr h) (fun H1 locs hz hfr hB hS => ?_)
        have hB := hB
        have hP : va_P D vwCl (wTp ci a tl tb (tkq tb tl p) ++ (wO (ci 0) b (engS S k1 0) w r nb)) H1 := wTO_o hd hP hfr hB
        generalize H1 = H at hP hS ⊢
        have hD : va_D (aTO a b) (wTp ci a tl tb (tkq tb tl p) ++ (wO (ci 0) b (engS S k1 0) w r nb)) := wTO_D hI hI2 hd
        have hW_e : WF (engS S k1 0) := WF_engS hWF (by omega) (by omega)
        refine lv_istore_n (lv' := [(3, .int (nI (S 7 0))), (2, .int (nI k1)), (0, .ref (a 0)), (1, .ref (b 0))]) hx hb dX2_takeItem_41 rfl hl (by decide) rfl (fun ls hl => ?_)
        refine lv_aload_n hx hb dX2_takeItem_42 rfl (lv_at hl 2 rfl) ?_
        refine mu_V (n := 0) (As := []) (rest := []) ⟨hx, hb, hml, hown, hts⟩ (c_X2_advance l D ci G ka adK adV fx a tl tb hI hG (nI (srt tb tl p)) (nI (stt tb tl p)) (nI (vlu tb tl p)) (nxt tb tl p) h_tl h_tb (by omega)) gX2_takeItem_X2_advance rfl ⟨rfl, rfl⟩ (by decide +kernel) rfl ⟨Nat.le_of_ble_eq_true rfl, Nat.le_of_ble_eq_true rfl⟩ hE (enS_S hGA hs0 hS) hK (va_Pl hP) (ci := 2) (q0 := 0) rfl rfl hl.1 rfl (Nat.le_of_ble_eq_true rfl) dX2_takeItem_43 ⟨Nat.zero_le _, Nat.zero_le _⟩ hS (fun _ h => Or.inl h) (fun H1 locs hz hfr hB hS => ?_)
        have hP : va_P D vwCl (wTp ci a tl tb (tkq tb tl (nxt tb tl p)) ++ (wO (ci 0) b (engS S k1 0) w r nb)) H1 := wTO_t hd hP hfr hB
        generalize H1 = H at hP hS ⊢
        have hD : va_D (aTO a b) (wTp ci a tl tb (tkq tb tl (nxt tb tl p)) ++ (wO (ci 0) b (engS S k1 0) w r nb)) := wTO_D hI hI2 hd
        refine lv_aload_n hx hb dX2_takeItem_46 rfl (lv_at hl 2 rfl) ?_
        refine va_ldcS (tx := "on") (q := adK 8) hx hb hown (hs0.2.2.2.2 ("OneShort$Tape", 60, "on", 8) (by decide)) dX2_takeItem_47 ?_
        refine lv_aload_n hx hb dX2_takeItem_49 rfl (lv_at hl 3 rfl) ?_
        refine va_get (D := D) (ci := 0) (v := .ref (b 3)) (C := RX0) (T := TX0) (N := 13) hx hb hts hinX0 hown hK hP 2 rfl rfl 2 (by decide) (hts (.fieldLink RX2 62 "OneShort$Orchestra" "seat" "[I") (List.mem_of_getElem? (i := 2) rfl)) (fun _ h9 => h9) rfl dX2_takeItem_50 ?_
        refine lv_iload_n hx hb dX2_takeItem_53 rfl (lv_at hl 0 rfl) ?_
        refine lv_bipush (v := nI (15)) hx hb dX2_takeItem_54 (by decide) ?_
        refine mu_V (n := 4) (As := [.ref (adK 8), .ref (b 3), .int (nI (S 7 0)), .int (nI 15)]) (rest := []) ⟨hx, hb, hml, hown, hts⟩ (c_X2_takePerhaps_on l D ci G ka adK adV fx a tl tb b (engS S k1 0) w r nb hI hG hI2 hG2 hd ((nxt tb tl p)) (S 7 0) h_tl h_tb hW_e (by omega) (by omega)) gX2_takeItem_X2_takePerhaps rfl ⟨rfl, rfl⟩ (by decide +kernel) rfl ⟨Nat.le_of_ble_eq_true rfl, Nat.le_of_ble_eq_true rfl⟩ hE (enS_S hGA hs0 hS) hK hP (ci := 2) (q0 := 0) rfl rfl hl.1 rfl (Nat.le_of_ble_eq_true rfl) dX2_takeItem_56 ⟨Nat.zero_le _, Nat.zero_le _⟩ hS (fun _ h => h) (fun H1 locs hz hfr hB hS => ?_)
        obtain ⟨w, r, nb, hP⟩ := hB
        have hP : va_P D vwCl (wTp ci a tl tb (tkq tb tl ((pR tb tl 8 2 15 (S 7 0) (nxt tb tl p) (engS S k1 0)).2.1)) ++ (wO (ci 0) b ((pR tb tl 8 2 15 (S 7 0) (nxt tb tl p) (engS S k1 0)).2.2) w r nb)) H1 := hP
        generalize H1 = H at hP hS ⊢
        have hD : va_D (aTO a b) (wTp ci a tl tb (tkq tb tl ((pR tb tl 8 2 15 (S 7 0) (nxt tb tl p) (engS S k1 0)).2.1)) ++ (wO (ci 0) b ((pR tb tl 8 2 15 (S 7 0) (nxt tb tl p) (engS S k1 0)).2.2) w r nb)) := wTO_D hI hI2 hd
        obtain ⟨r1, e_r1⟩ : ∃ r1, pR tb tl 8 2 15 (S 7 0) (nxt tb tl p) (engS S k1 0) = r1 := ⟨_, rfl⟩
        rw [e_r1] at hP
        have hP : va_P D vwCl (wTp ci a tl tb (tkq tb tl r1.2.1) ++ (wO (ci 0) b r1.2.2 w r nb)) H := hP
        have hD : va_D (aTO a b) (wTp ci a tl tb (tkq tb tl r1.2.1) ++ (wO (ci 0) b r1.2.2 w r nb)) := wTO_D hI hI2 hd
        have ok_r1 : okR tl (nxt tb tl p) r1 := by rw [← e_r1]; exact pR_ok hW_e (by omega) (fun _ hv => WF_st2 hW_e _ (by omega))
        obtain ⟨hW_r1, f_r1, f_r1b⟩ := ok_r1
        have f_r1t := tokf (tb := tb) (p := r1.2.1) (by omega)
        refine nv_cv (show bI ((pR tb tl 8 2 15 (S 7 0) (nxt tb tl p) (engS S k1 0)).1) = bI (r1.1) from congrArg bI (by rw [e_r1])) ?_
        refine nv_ifeq_b (tgt := 113) hx hb dX2_takeItem_59 (by decide) (fun c5 => ?_) (fun c5 => ?_)
        · refine lv_iconst (v := nI (0)) hx hb dX2_takeItem_113 (by decide) ?_
          refine nv_cv (show nI (0) = bI ((iR tb tl p S).1) from nv_f (by rw [show iR tb tl p S = _ from (by first | exact iR_b c1 | exact iR_0 c1 (Or.inl c5) | exact iR_0 c1 (Or.inr c5) | exact (iR_k c1 e_k1 (by omega)).trans (kR_1 e_r1 c5) | exact (iR_k c1 e_k1 (by omega)).trans (kR_2 e_r1 c4 e_r2 c5) | exact (iR_k c1 e_k1 (by omega)).trans (kR_3 e_r1 c3 e_r2 c4 e_r3 c5) | exact (iR_k c1 e_k1 (by omega)).trans (kR_4 e_r1 c1 e_r2 c3 e_r3 c4 e_r4))]; try assumption)) ?_
          exact mu_zret hx hb hr hlocks hS ((by rw [show iR tb tl p S = _ from (by first | exact iR_b c1 | exact iR_0 c1 (Or.inl c5) | exact iR_0 c1 (Or.inr c5) | exact (iR_k c1 e_k1 (by omega)).trans (kR_1 e_r1 c5) | exact (iR_k c1 e_k1 (by omega)).trans (kR_2 e_r1 c4 e_r2 c5) | exact (iR_k c1 e_k1 (by omega)).trans (kR_3 e_r1 c3 e_r2 c4 e_r3 c5) | exact (iR_k c1 e_k1 (by omega)).trans (kR_4 e_r1 c1 e_r2 c3 e_r3 c4 e_r4))]; exact ⟨_, _, _, hP⟩)) dX2_takeItem_114
        · refine lv_aload_n hx hb dX2_takeItem_62 rfl (lv_at hl 2 rfl) ?_
          refine va_ldcS (tx := "part") (q := adK 9) hx hb hown (hs0.2.2.2.2 ("OneShort$Tape", 69, "part", 9) (by decide)) dX2_takeItem_63 ?_
          refine lv_aload_n hx hb dX2_takeItem_65 rfl (lv_at hl 3 rfl) ?_
          refine va_get (D := D) (ci := 0) (v := .ref (b 4)) (C := RX0) (T := TX0) (N := 13) hx hb hts hinX0 hown hK hP 2 rfl rfl 3 (by decide) (hts (.fieldLink RX2 71 "OneShort$Orchestra" "part" "[I") (List.mem_of_getElem? (i := 3) rfl)) (fun _ h9 => h9) rfl dX2_takeItem_66 ?_
          refine lv_iload_n hx hb dX2_takeItem_69 rfl (lv_at hl 0 rfl) ?_
          refine lv_iconst (v := nI (5)) hx hb dX2_takeItem_70 (by decide) ?_
          refine mu_V (n := 4) (As := [.ref (adK 9), .ref (b 4), .int (nI (S 7 0)), .int (nI 5)]) (rest := []) ⟨hx, hb, hml, hown, hts⟩ (c_X2_takePerhaps_part l D ci G ka adK adV fx a tl tb b r1.2.2 w r nb hI hG hI2 hG2 hd (r1.2.1) (S 7 0) h_tl h_tb hW_r1 (by omega) (by omega)) gX2_takeItem_X2_takePerhaps rfl ⟨rfl, rfl⟩ (by decide +kernel) rfl ⟨Nat.le_of_ble_eq_true rfl, Nat.le_of_ble_eq_true rfl⟩ hE (enS_S hGA hs0 hS) hK hP (ci := 2) (q0 := 0) rfl rfl hl.1 rfl (Nat.le_of_ble_eq_true rfl) dX2_takeItem_71 ⟨Nat.zero_le _, Nat.zero_le _⟩ hS (fun _ h => h) (fun H1 locs hz hfr hB hS => ?_)
          obtain ⟨w, r, nb, hP⟩ := hB
          have hP : va_P D vwCl (wTp ci a tl tb (tkq tb tl ((pR tb tl 9 3 5 (S 7 0) r1.2.1 r1.2.2).2.1)) ++ (wO (ci 0) b ((pR tb tl 9 3 5 (S 7 0) r1.2.1 r1.2.2).2.2) w r nb)) H1 := hP
          generalize H1 = H at hP hS ⊢
          have hD : va_D (aTO a b) (wTp ci a tl tb (tkq tb tl ((pR tb tl 9 3 5 (S 7 0) r1.2.1 r1.2.2).2.1)) ++ (wO (ci 0) b ((pR tb tl 9 3 5 (S 7 0) r1.2.1 r1.2.2).2.2) w r nb)) := wTO_D hI hI2 hd
          obtain ⟨r2, e_r2⟩ : ∃ r2, pR tb tl 9 3 5 (S 7 0) r1.2.1 r1.2.2 = r2 := ⟨_, rfl⟩
          rw [e_r2] at hP
          have hP : va_P D vwCl (wTp ci a tl tb (tkq tb tl r2.2.1) ++ (wO (ci 0) b r2.2.2 w r nb)) H := hP
          have hD : va_D (aTO a b) (wTp ci a tl tb (tkq tb tl r2.2.1) ++ (wO (ci 0) b r2.2.2 w r nb)) := wTO_D hI hI2 hd
          have ok_r2 : okR tl (r1.2.1) r2 := by rw [← e_r2]; exact pR_ok hW_r1 (by omega) (fun _ hv => WF_st3 hW_r1 _ (by omega))
          obtain ⟨hW_r2, f_r2, f_r2b⟩ := ok_r2
          have f_r2t := tokf (tb := tb) (p := r2.2.1) (by omega)
          refine nv_cv (show bI ((pR tb tl 9 3 5 (S 7 0) r1.2.1 r1.2.2).1) = bI (r2.1) from congrArg bI (by rw [e_r2])) ?_
          refine nv_ifeq_b (tgt := 113) hx hb dX2_takeItem_74 (by decide) (fun c6 => ?_) (fun c6 => ?_)
          · refine lv_iconst (v := nI (0)) hx hb dX2_takeItem_113 (by decide) ?_
            refine nv_cv (show nI (0) = bI ((iR tb tl p S).1) from nv_f (by rw [show iR tb tl p S = _ from (by first | exact iR_b c1 | exact iR_0 c1 (Or.inl c6) | exact iR_0 c1 (Or.inr c6) | exact (iR_k c1 e_k1 (by omega)).trans (kR_1 e_r1 c6) | exact (iR_k c1 e_k1 (by omega)).trans (kR_2 e_r1 c5 e_r2 c6) | exact (iR_k c1 e_k1 (by omega)).trans (kR_3 e_r1 c4 e_r2 c5 e_r3 c6) | exact (iR_k c1 e_k1 (by omega)).trans (kR_4 e_r1 c3 e_r2 c4 e_r3 c5 e_r4))]; try assumption)) ?_
            exact mu_zret hx hb hr hlocks hS ((by rw [show iR tb tl p S = _ from (by first | exact iR_b c1 | exact iR_0 c1 (Or.inl c6) | exact iR_0 c1 (Or.inr c6) | exact (iR_k c1 e_k1 (by omega)).trans (kR_1 e_r1 c6) | exact (iR_k c1 e_k1 (by omega)).trans (kR_2 e_r1 c5 e_r2 c6) | exact (iR_k c1 e_k1 (by omega)).trans (kR_3 e_r1 c4 e_r2 c5 e_r3 c6) | exact (iR_k c1 e_k1 (by omega)).trans (kR_4 e_r1 c3 e_r2 c4 e_r3 c5 e_r4))]; exact ⟨_, _, _, hP⟩)) dX2_takeItem_114
          · refine lv_aload_n hx hb dX2_takeItem_77 rfl (lv_at hl 2 rfl) ?_
            refine va_ldcS (tx := "loud") (q := adK 10) hx hb hown (hs0.2.2.2.2 ("OneShort$Tape", 73, "loud", 10) (by decide)) dX2_takeItem_78 ?_
            refine lv_aload_n hx hb dX2_takeItem_80 rfl (lv_at hl 3 rfl) ?_
            refine va_get (D := D) (ci := 0) (v := .ref (b 5)) (C := RX0) (T := TX0) (N := 13) hx hb hts hinX0 hown hK hP 2 rfl rfl 4 (by decide) (hts (.fieldLink RX2 75 "OneShort$Orchestra" "loud" "[I") (List.mem_of_getElem? (i := 4) rfl)) (fun _ h9 => h9) rfl dX2_takeItem_81 ?_
            refine lv_iload_n hx hb dX2_takeItem_84 rfl (lv_at hl 0 rfl) ?_
            refine lv_bipush (v := nI (9)) hx hb dX2_takeItem_85 (by decide) ?_
            refine mu_V (n := 4) (As := [.ref (adK 10), .ref (b 5), .int (nI (S 7 0)), .int (nI 9)]) (rest := []) ⟨hx, hb, hml, hown, hts⟩ (c_X2_takePerhaps_loud l D ci G ka adK adV fx a tl tb b r2.2.2 w r nb hI hG hI2 hG2 hd (r2.2.1) (S 7 0) h_tl h_tb hW_r2 (by omega) (by omega)) gX2_takeItem_X2_takePerhaps rfl ⟨rfl, rfl⟩ (by decide +kernel) rfl ⟨Nat.le_of_ble_eq_true rfl, Nat.le_of_ble_eq_true rfl⟩ hE (enS_S hGA hs0 hS) hK hP (ci := 2) (q0 := 0) rfl rfl hl.1 rfl (Nat.le_of_ble_eq_true rfl) dX2_takeItem_87 ⟨Nat.zero_le _, Nat.zero_le _⟩ hS (fun _ h => h) (fun H1 locs hz hfr hB hS => ?_)
            obtain ⟨w, r, nb, hP⟩ := hB
            have hP : va_P D vwCl (wTp ci a tl tb (tkq tb tl ((pR tb tl 10 4 9 (S 7 0) r2.2.1 r2.2.2).2.1)) ++ (wO (ci 0) b ((pR tb tl 10 4 9 (S 7 0) r2.2.1 r2.2.2).2.2) w r nb)) H1 := hP
            generalize H1 = H at hP hS ⊢
            have hD : va_D (aTO a b) (wTp ci a tl tb (tkq tb tl ((pR tb tl 10 4 9 (S 7 0) r2.2.1 r2.2.2).2.1)) ++ (wO (ci 0) b ((pR tb tl 10 4 9 (S 7 0) r2.2.1 r2.2.2).2.2) w r nb)) := wTO_D hI hI2 hd
            obtain ⟨r3, e_r3⟩ : ∃ r3, pR tb tl 10 4 9 (S 7 0) r2.2.1 r2.2.2 = r3 := ⟨_, rfl⟩
            rw [e_r3] at hP
            have hP : va_P D vwCl (wTp ci a tl tb (tkq tb tl r3.2.1) ++ (wO (ci 0) b r3.2.2 w r nb)) H := hP
            have hD : va_D (aTO a b) (wTp ci a tl tb (tkq tb tl r3.2.1) ++ (wO (ci 0) b r3.2.2 w r nb)) := wTO_D hI hI2 hd
            have ok_r3 : okR tl (r2.2.1) r3 := by rw [← e_r3]; exact pR_ok hW_r2 (by omega) (fun _ hv => WF_st4 hW_r2 _ (by omega))
            obtain ⟨hW_r3, f_r3, f_r3b⟩ := ok_r3
            have f_r3t := tokf (tb := tb) (p := r3.2.1) (by omega)
            refine nv_cv (show bI ((pR tb tl 10 4 9 (S 7 0) r2.2.1 r2.2.2).1) = bI (r3.1) from congrArg bI (by rw [e_r3])) ?_
            refine nv_ifeq_b (tgt := 113) hx hb dX2_takeItem_90 (by decide) (fun c7 => ?_) (fun c7 => ?_)
            · refine lv_iconst (v := nI (0)) hx hb dX2_takeItem_113 (by decide) ?_
              refine nv_cv (show nI (0) = bI ((iR tb tl p S).1) from nv_f (by rw [show iR tb tl p S = _ from (by first | exact iR_b c1 | exact iR_0 c1 (Or.inl c7) | exact iR_0 c1 (Or.inr c7) | exact (iR_k c1 e_k1 (by omega)).trans (kR_1 e_r1 c7) | exact (iR_k c1 e_k1 (by omega)).trans (kR_2 e_r1 c6 e_r2 c7) | exact (iR_k c1 e_k1 (by omega)).trans (kR_3 e_r1 c5 e_r2 c6 e_r3 c7) | exact (iR_k c1 e_k1 (by omega)).trans (kR_4 e_r1 c4 e_r2 c5 e_r3 c6 e_r4))]; try assumption)) ?_
              exact mu_zret hx hb hr hlocks hS ((by rw [show iR tb tl p S = _ from (by first | exact iR_b c1 | exact iR_0 c1 (Or.inl c7) | exact iR_0 c1 (Or.inr c7) | exact (iR_k c1 e_k1 (by omega)).trans (kR_1 e_r1 c7) | exact (iR_k c1 e_k1 (by omega)).trans (kR_2 e_r1 c6 e_r2 c7) | exact (iR_k c1 e_k1 (by omega)).trans (kR_3 e_r1 c5 e_r2 c6 e_r3 c7) | exact (iR_k c1 e_k1 (by omega)).trans (kR_4 e_r1 c4 e_r2 c5 e_r3 c6 e_r4))]; exact ⟨_, _, _, hP⟩)) dX2_takeItem_114
            · refine lv_aload_n hx hb dX2_takeItem_93 rfl (lv_at hl 2 rfl) ?_
              refine va_ldcS (tx := "nerve") (q := adK 11) hx hb hown (hs0.2.2.2.2 ("OneShort$Tape", 77, "nerve", 11) (by decide)) dX2_takeItem_94 ?_
              refine lv_aload_n hx hb dX2_takeItem_96 rfl (lv_at hl 3 rfl) ?_
              refine va_get (D := D) (ci := 0) (v := .ref (b 6)) (C := RX0) (T := TX0) (N := 13) hx hb hts hinX0 hown hK hP 2 rfl rfl 5 (by decide) (hts (.fieldLink RX2 79 "OneShort$Orchestra" "nerve" "[I") (List.mem_of_getElem? (i := 5) rfl)) (fun _ h9 => h9) rfl dX2_takeItem_97 ?_
              refine lv_iload_n hx hb dX2_takeItem_100 rfl (lv_at hl 0 rfl) ?_
              refine lv_bipush (v := nI (99)) hx hb dX2_takeItem_101 (by decide) ?_
              refine mu_V (n := 4) (As := [.ref (adK 11), .ref (b 6), .int (nI (S 7 0)), .int (nI 99)]) (rest := []) ⟨hx, hb, hml, hown, hts⟩ (c_X2_takePerhaps_nerve l D ci G ka adK adV fx a tl tb b r3.2.2 w r nb hI hG hI2 hG2 hd (r3.2.1) (S 7 0) h_tl h_tb hW_r3 (by omega) (by omega)) gX2_takeItem_X2_takePerhaps rfl ⟨rfl, rfl⟩ (by decide +kernel) rfl ⟨Nat.le_of_ble_eq_true rfl, Nat.le_of_ble_eq_true rfl⟩ hE (enS_S hGA hs0 hS) hK hP (ci := 2) (q0 := 0) rfl rfl hl.1 rfl (Nat.le_of_ble_eq_true rfl) dX2_takeItem_103 ⟨Nat.zero_le _, Nat.zero_le _⟩ hS (fun _ h => h) (fun H1 locs hz hfr hB hS => ?_)
              obtain ⟨w, r, nb, hP⟩ := hB
              have hP : va_P D vwCl (wTp ci a tl tb (tkq tb tl ((pR tb tl 11 5 99 (S 7 0) r3.2.1 r3.2.2).2.1)) ++ (wO (ci 0) b ((pR tb tl 11 5 99 (S 7 0) r3.2.1 r3.2.2).2.2) w r nb)) H1 := hP
              generalize H1 = H at hP hS ⊢
              have hD : va_D (aTO a b) (wTp ci a tl tb (tkq tb tl ((pR tb tl 11 5 99 (S 7 0) r3.2.1 r3.2.2).2.1)) ++ (wO (ci 0) b ((pR tb tl 11 5 99 (S 7 0) r3.2.1 r3.2.2).2.2) w r nb)) := wTO_D hI hI2 hd
              obtain ⟨r4, e_r4⟩ : ∃ r4, pR tb tl 11 5 99 (S 7 0) r3.2.1 r3.2.2 = r4 := ⟨_, rfl⟩
              rw [e_r4] at hP
              have hP : va_P D vwCl (wTp ci a tl tb (tkq tb tl r4.2.1) ++ (wO (ci 0) b r4.2.2 w r nb)) H := hP
              have hD : va_D (aTO a b) (wTp ci a tl tb (tkq tb tl r4.2.1) ++ (wO (ci 0) b r4.2.2 w r nb)) := wTO_D hI hI2 hd
              have ok_r4 : okR tl (r3.2.1) r4 := by rw [← e_r4]; exact pR_ok hW_r3 (by omega) (fun _ hv => WF_st5 hW_r3 _ (by omega))
              obtain ⟨hW_r4, f_r4, f_r4b⟩ := ok_r4
              have f_r4t := tokf (tb := tb) (p := r4.2.1) (by omega)
              refine nv_cv (show bI ((pR tb tl 11 5 99 (S 7 0) r3.2.1 r3.2.2).1) = bI (r4.1) from congrArg bI (by rw [e_r4])) ?_
              refine nv_ifeq_b (tgt := 113) hx hb dX2_takeItem_106 (by decide) (fun c8 => ?_) (fun c8 => ?_)
              · refine lv_iconst (v := nI (0)) hx hb dX2_takeItem_113 (by decide) ?_
                refine nv_cv (show nI (0) = bI ((iR tb tl p S).1) from nv_f (by rw [show iR tb tl p S = _ from (by first | exact iR_b c1 | exact iR_0 c1 (Or.inl c8) | exact iR_0 c1 (Or.inr c8) | exact (iR_k c1 e_k1 (by omega)).trans (kR_1 e_r1 c8) | exact (iR_k c1 e_k1 (by omega)).trans (kR_2 e_r1 c7 e_r2 c8) | exact (iR_k c1 e_k1 (by omega)).trans (kR_3 e_r1 c6 e_r2 c7 e_r3 c8) | exact (iR_k c1 e_k1 (by omega)).trans (kR_4 e_r1 c5 e_r2 c6 e_r3 c7 e_r4))]; try assumption)) ?_
                exact mu_zret hx hb hr hlocks hS ((by rw [show iR tb tl p S = _ from (by first | exact iR_b c1 | exact iR_0 c1 (Or.inl c8) | exact iR_0 c1 (Or.inr c8) | exact (iR_k c1 e_k1 (by omega)).trans (kR_1 e_r1 c8) | exact (iR_k c1 e_k1 (by omega)).trans (kR_2 e_r1 c7 e_r2 c8) | exact (iR_k c1 e_k1 (by omega)).trans (kR_3 e_r1 c6 e_r2 c7 e_r3 c8) | exact (iR_k c1 e_k1 (by omega)).trans (kR_4 e_r1 c5 e_r2 c6 e_r3 c7 e_r4))]; exact ⟨_, _, _, hP⟩)) dX2_takeItem_114
              · refine lv_iconst (v := nI (1)) hx hb dX2_takeItem_109 (by decide) ?_
                refine lv_goto (tgt := 114) hx hb dX2_takeItem_110 (by decide) ?_
                refine nv_cv (show nI (1) = bI ((iR tb tl p S).1) from nv_t (by rw [show iR tb tl p S = _ from (by first | exact iR_b c1 | exact iR_0 c1 (Or.inl c8) | exact iR_0 c1 (Or.inr c8) | exact (iR_k c1 e_k1 (by omega)).trans (kR_1 e_r1 c8) | exact (iR_k c1 e_k1 (by omega)).trans (kR_2 e_r1 c7 e_r2 c8) | exact (iR_k c1 e_k1 (by omega)).trans (kR_3 e_r1 c6 e_r2 c7 e_r3 c8) | exact (iR_k c1 e_k1 (by omega)).trans (kR_4 e_r1 c5 e_r2 c6 e_r3 c7 e_r4))]; try assumption)) ?_
                exact mu_zret hx hb hr hlocks hS ((by rw [show iR tb tl p S = _ from (by first | exact iR_b c1 | exact iR_0 c1 (Or.inl c8) | exact iR_0 c1 (Or.inr c8) | exact (iR_k c1 e_k1 (by omega)).trans (kR_1 e_r1 c8) | exact (iR_k c1 e_k1 (by omega)).trans (kR_2 e_r1 c7 e_r2 c8) | exact (iR_k c1 e_k1 (by omega)).trans (kR_3 e_r1 c6 e_r2 c7 e_r3 c8) | exact (iR_k c1 e_k1 (by omega)).trans (kR_4 e_r1 c5 e_r2 c6 e_r3 c7 e_r4))]; exact ⟨_, _, _, hP⟩)) dX2_takeItem_114
      · refine lv_iconst (v := nI (0)) hx hb dX2_takeItem_33 (by decide) ?_
        refine nv_cv (show nI (0) = bI ((iR tb tl p S).1) from nv_f (by rw [show iR tb tl p S = _ from (by first | exact iR_b c1 | exact iR_0 c1 (Or.inl c4) | exact iR_0 c1 (Or.inr c4) | exact (iR_k c1 e_k1 (by omega)).trans (kR_1 e_r1 c4) | exact (iR_k c1 e_k1 (by omega)).trans (kR_2 e_r1 c3 e_r2 c4) | exact (iR_k c1 e_k1 (by omega)).trans (kR_3 e_r1 c1 e_r2 c3 e_r3 c4) | exact (iR_k c1 e_k1 (by omega)).trans (kR_4 e_r1 rfl e_r2 c1 e_r3 c3 e_r4))]; try assumption)) ?_
        exact mu_zret hx hb hr hlocks hS ((by rw [show iR tb tl p S = _ from (by first | exact iR_b c1 | exact iR_0 c1 (Or.inl c4) | exact iR_0 c1 (Or.inr c4) | exact (iR_k c1 e_k1 (by omega)).trans (kR_1 e_r1 c4) | exact (iR_k c1 e_k1 (by omega)).trans (kR_2 e_r1 c3 e_r2 c4) | exact (iR_k c1 e_k1 (by omega)).trans (kR_3 e_r1 c1 e_r2 c3 e_r3 c4) | exact (iR_k c1 e_k1 (by omega)).trans (kR_4 e_r1 rfl e_r2 c1 e_r3 c3 e_r4))]; exact ⟨_, _, _, hP⟩)) dX2_takeItem_34
  · refine lv_aload_n hx hb dX2_takeItem_9 rfl (lv_at hl 0 rfl) ?_
    refine lv_aload_n hx hb dX2_takeItem_10 rfl (lv_at hl 1 rfl) ?_
    refine mu_V (n := 1) (As := [.ref (b 0)]) (rest := []) ⟨hx, hb, hml, hown, hts⟩ (c_X2_takeBar l D ci G ka adK adV fx a tl tb b S w r nb hI hG hI2 hG2 hd (p) h_tl h_tb hWF (by omega)) gX2_takeItem_X2_takeBar rfl ⟨rfl, rfl⟩ (by decide +kernel) rfl ⟨Nat.le_of_ble_eq_true rfl, Nat.le_of_ble_eq_true rfl⟩ hE (enS_S hGA hs0 hS) hK hP (ci := 2) (q0 := 0) rfl rfl hl.1 rfl (Nat.le_of_ble_eq_true rfl) dX2_takeItem_11 ⟨Nat.zero_le _, Nat.zero_le _⟩ hS (fun _ h => h) (fun H1 locs hz hfr hB hS => ?_)
    obtain ⟨w, r, nb, hP⟩ := hB
    have hP : va_P D vwCl (wTp ci a tl tb (tkq tb tl ((bR tb tl p S).2.1)) ++ (wO (ci 0) b ((bR tb tl p S).2.2) w r nb)) H1 := hP
    generalize H1 = H at hP hS ⊢
    have hD : va_D (aTO a b) (wTp ci a tl tb (tkq tb tl ((bR tb tl p S).2.1)) ++ (wO (ci 0) b ((bR tb tl p S).2.2) w r nb)) := wTO_D hI hI2 hd
    refine nv_cv (show bI ((bR tb tl p S).1) = bI ((iR tb tl p S).1) from congrArg bI (by rw [iR_b c1])) ?_
    exact mu_zret hx hb hr hlocks hS ((by rw [show iR tb tl p S = _ from (by first | exact iR_b c1 | exact iR_0 c1 (Or.inl c1) | exact iR_0 c1 (Or.inr c1) | exact (iR_k c1 e_k1 (by omega)).trans (kR_1 e_r1 c1) | exact (iR_k c1 e_k1 (by omega)).trans (kR_2 e_r1 rfl e_r2 c1) | exact (iR_k c1 e_k1 (by omega)).trans (kR_3 e_r1 rfl e_r2 rfl e_r3 c1) | exact (iR_k c1 e_k1 (by omega)).trans (kR_4 e_r1 rfl e_r2 rfl e_r3 rfl e_r4))]; exact ⟨_, _, _, hP⟩)) dX2_takeItem_14

set_option maxHeartbeats 4000000 in
set_option maxRecDepth 100000 in
/-- X2_tellTo -/
theorem c_X2_tellTo (l : Launch) (D : va_G) (ci : Nat → ClassId) (G : Nat → Prop) (ka : Nat) (adK adV : Nat → Nat) (fx : Nat) (a : Nat → Nat) (tl : Nat) (tb : Nat → Nat) (b : Nat → Nat) (S : OS) (w r nb : Nat → Int32) (hI : injA a 2) (hG : ∀ k, k < 2 → G (a k)) (hI2 : injA b 11) (hG2 : ∀ k, k < 11 → G (b k)) (hd : ∀ i j, i < 2 → j < 11 → a i ≠ b j) (x0 x1 x2 x3 : Int32) (h_tl : tl ≤ 120) (h_tb : ∀ k, tb k < 256) (hWF : WF S) : Met l yX2_tellTo wsX2_tellTo ({ frames := 7, cells := 0, slots := 0, locals := 155 } : Room) (va_Pc [.ref (a 0), .ref (b 0)] (ro_B D (tyL ci) (wTp ci a tl tb (q4 (x0) (x1) (x2) (x3)) ++ (wO (ci 0) b S w r nb)) (enS D (ci 0) G ka adK adV fx))) (mu_Q (aTO a b) (some (.int (tI (tR tb tl 120 1 0 S)))) (fun H => ∃ tq w r nb, va_P D vwCl (wTp ci a tl tb tq ++ wO (ci 0) b (tR tb tl 120 1 0 S).2.2 w r nb) H)) 0 0 (aTO a b) := by
  refine mu_Met (cc := cX2_tellTo) (maxL := 3) (ret := (some .int)) [(0, .ref (a 0)), (1, .ref (b 0))] (wTO_D hI hI2 hd) (by decide) rfl (Nat.le_of_ble_eq_true rfl) rfl ?_
  intro p e s m below meth c H locs hx hb hml hr hlocks hts hown hP hK hs0 hD hS ls hl
  have hown : s.vm.findClass RX2 = some m.cls := hown
  have hinX2 : ∀ w ∈ wsX20, w ∈ wsX2_tellTo := by decide +kernel
  have hE := hE_S D (ci 0) G ka adK adV fx
  have hGA := aTO_G hG hG2
  refine lv_aload_n hx hb dX2_tellTo_0 rfl (lv_at hl 0 rfl) ?_
  refine lv_iconst (v := nI (0)) hx hb dX2_tellTo_1 (by decide) ?_
  refine va_put (D := D) (ci := 2) (v := .int (nI 0)) (ty := .int) (C := RX2) (T := TX2) (N := 6) hx hb hts hinX2 tyX2 tyX2_ok nmX2 hown hK hP hD hS 0 rfl rfl 4 (by decide) (hts (.fieldLink RX2 25 "OneShort$Tape" "next" "I") (List.mem_of_getElem? (i := 1) rfl)) (fun _ h9 => h9) rfl (by decide +kernel) rfl rfl (Nat.le_of_ble_eq_true rfl) dX2_tellTo_2 (fun H locs hP hD hS => ?_)
  have hP : va_P D vwCl (wTp ci a tl tb (q4 (x0) (x1) (nI (0)) (x3)) ++ (wO (ci 0) b S w r nb)) H := va_P.re (congrArg (fun z9 => z9 ++ (wO (ci 0) b S w r nb)) (wTq_2 ci a tl tb (x0) (x1) (x2) (x3) (nI (0)))) hP
  have hD : va_D (aTO a b) (wTp ci a tl tb (q4 (x0) (x1) (nI (0)) (x3)) ++ (wO (ci 0) b S w r nb)) := wTO_D hI hI2 hd
  refine lv_aload_n hx hb dX2_tellTo_5 rfl (lv_at hl 0 rfl) ?_
  refine mu_V (n := 0) (As := []) (rest := []) ⟨hx, hb, hml, hown, hts⟩ (c_X2_advance l D ci G ka adK adV fx a tl tb hI hG (x0) (x1) (x3) (0) h_tl h_tb (by omega)) gX2_tellTo_X2_advance rfl ⟨rfl, rfl⟩ (by decide +kernel) rfl ⟨Nat.le_of_ble_eq_true rfl, Nat.le_of_ble_eq_true rfl⟩ hE (enS_S hGA hs0 hS) hK (va_Pl hP) (ci := 2) (q0 := 0) rfl rfl hl.1 rfl (Nat.le_of_ble_eq_true rfl) dX2_tellTo_6 ⟨Nat.zero_le _, Nat.zero_le _⟩ hS (fun _ h => Or.inl h) (fun H1 locs hz hfr hB hS => ?_)
  have hP : va_P D vwCl (wTp ci a tl tb (tkq tb tl 0) ++ (wO (ci 0) b S w r nb)) H1 := wTO_t hd hP hfr hB
  generalize H1 = H at hP hS ⊢
  have hD : va_D (aTO a b) (wTp ci a tl tb (tkq tb tl 0) ++ (wO (ci 0) b S w r nb)) := wTO_D hI hI2 hd
  refine lv_iconst (v := nI (1)) hx hb dX2_tellTo_9 (by decide) ?_
  refine lv_istore_n (lv' := [(2, .int (nI 1)), (0, .ref (a 0)), (1, .ref (b 0))]) hx hb dX2_tellTo_10 rfl hl (by decide) rfl (fun ls hl => ?_)
  have L11 : ∀ (k11 : Nat) (i : Nat) (p2 : Nat) (S2 : OS), 121 - i < k11 → (1 ≤ i) → (i ≤ 121) → (p2 ≤ tl) → (WF S2) → (tR tb tl (121 - i) i p2 S2 = tR tb tl 120 1 0 S) → ∀ (x2 : Int32), x2 = nI (i) → ∀ (w : Nat → Int32) (r : Nat → Int32) (nb : Nat → Int32), ∀ (H : Heap) (locs : List Loc), va_P D vwCl (wTp ci a tl tb (tkq tb tl p2) ++ (wO (ci 0) b S2 w r nb)) H → va_S (aTO a b) s.heap H locs → ∀ ls : Array Slot, lv_has ls 3 [(2, .int (x2)), (0, .ref (a 0)), (1, .ref (b 0))] → W p l e (headSpec wsX2_tellTo ({ frames := 7, cells := 0, slots := 0, locals := 155 } : Room)).room s m ([.ref (a 0), .ref (b 0)] : List Value).toArray below meth c H locs 0 0 (MQ below (mu_Q (aTO a b) (some (.int (tI (tR tb tl 120 1 0 S)))) (fun H => ∃ tq w r nb, va_P D vwCl (wTp ci a tl tb tq ++ wO (ci 0) b (tR tb tl 120 1 0 S).2.2 w r nb) H)) ([.ref (a 0), .ref (b 0)] : List Value).toArray s 0 0 (aTO a b)) (F0 m 11 ls []) := by
    intro k11
    induction k11 with
    | zero => intro i p2 S2 h0; exact absurd h0 (Nat.not_lt_zero _)
    | succ k11 ih11 =>
      intro i p2 S2 hk11 h_i0 h_i h_p hWF2 h_r x2 e2 w r nb H locs hP hS ls hl
      subst e2
      have hD : va_D (aTO a b) (wTp ci a tl tb (tkq tb tl p2) ++ (wO (ci 0) b S2 w r nb)) := wTO_D hI hI2 hd
      have f_t := tokf (tb := tb) h_p
      refine lv_iload_n hx hb dX2_tellTo_11 rfl (lv_at hl 0 rfl) ?_
      refine lv_bipush (v := nI (120)) hx hb dX2_tellTo_12 (by decide) ?_
      refine nv_icmp_gt (tgt := 58) hx hb (by omega) (by omega) dX2_tellTo_14 (by decide) (fun c1 => ?_) (fun c1 => ?_)
      · refine lv_iconst (v := -1) hx hb dX2_tellTo_58 (by decide) ?_
        refine lv_aload_n hx hb dX2_tellTo_59 rfl (lv_at hl 1 rfl) ?_
        refine va_get (D := D) (ci := 2) (v := .int (nI (stt tb tl p2))) (C := RX2) (T := TX2) (N := 6) hx hb hts hinX2 hown hK hP 0 rfl rfl 3 (by decide) (hts (.fieldLink RX2 22 "OneShort$Tape" "start" "I") (List.mem_of_getElem? (i := 3) rfl)) (fun _ h9 => h9) rfl dX2_tellTo_60 ?_
        refine lv_isub hx hb dX2_tellTo_63 ?_
        have h_T : tR tb tl 120 1 0 S = (false, stt tb tl p2, S2) := h_r.symm.trans (by first | exact tR_a (by omega) e_r0 c1 | exact tR_c (by omega) e_r0 rfl rfl c1 | exact tR_z (by omega))
        refine nv_cv (show (-1 - nI (stt tb tl p2)) = tI (tR tb tl 120 1 0 S) from tI_f h_T) ?_
        exact mu_iret hx hb hr hlocks hS ((by rw [h_T]; exact ⟨_, _, _, _, hP⟩)) dX2_tellTo_64
      · refine lv_aload_n hx hb dX2_tellTo_17 rfl (lv_at hl 1 rfl) ?_
        refine lv_aload_n hx hb dX2_tellTo_18 rfl (lv_at hl 2 rfl) ?_
        refine mu_V (n := 1) (As := [.ref (b 0)]) (rest := []) ⟨hx, hb, hml, hown, hts⟩ (c_X2_takeItem l D ci G ka adK adV fx a tl tb b S2 w r nb hI hG hI2 hG2 hd (p2) h_tl h_tb hWF2 (by omega)) gX2_tellTo_X2_takeItem rfl ⟨rfl, rfl⟩ (by decide +kernel) rfl ⟨Nat.le_of_ble_eq_true rfl, Nat.le_of_ble_eq_true rfl⟩ hE (enS_S hGA hs0 hS) hK hP (ci := 2) (q0 := 0) rfl rfl hl.1 rfl (Nat.le_of_ble_eq_true rfl) dX2_tellTo_19 ⟨Nat.zero_le _, Nat.zero_le _⟩ hS (fun _ h => h) (fun H1 locs hz hfr hB hS => ?_)
        obtain ⟨w, r, nb, hP⟩ := hB
        have hP : va_P D vwCl (wTp ci a tl tb (tkq tb tl ((iR tb tl p2 S2).2.1)) ++ (wO (ci 0) b ((iR tb tl p2 S2).2.2) w r nb)) H1 := hP
        generalize H1 = H at hP hS ⊢
        have hD : va_D (aTO a b) (wTp ci a tl tb (tkq tb tl ((iR tb tl p2 S2).2.1)) ++ (wO (ci 0) b ((iR tb tl p2 S2).2.2) w r nb)) := wTO_D hI hI2 hd
        obtain ⟨r0, e_r0⟩ : ∃ r0, iR tb tl p2 S2 = r0 := ⟨_, rfl⟩
        rw [e_r0] at hP
        have hP : va_P D vwCl (wTp ci a tl tb (tkq tb tl r0.2.1) ++ (wO (ci 0) b r0.2.2 w r nb)) H := hP
        have hD : va_D (aTO a b) (wTp ci a tl tb (tkq tb tl r0.2.1) ++ (wO (ci 0) b r0.2.2 w r nb)) := wTO_D hI hI2 hd
        have ok_r0 : okR tl (p2) r0 := by rw [← e_r0]; exact (iR_ok hWF2 h_p).1
        obtain ⟨hW_r0, f_r0, f_r0b⟩ := ok_r0
        have f_r0t := tokf (tb := tb) (p := r0.2.1) (by omega)
        refine nv_cv (show bI ((iR tb tl p2 S2).1) = bI (r0.1) from congrArg bI (by rw [e_r0])) ?_
        refine nv_ifne_b (tgt := 28) hx hb dX2_tellTo_22 (by decide) (fun c2 => ?_) (fun c2 => ?_)
        · refine lv_aload_n hx hb dX2_tellTo_28 rfl (lv_at hl 1 rfl) ?_
          refine va_get (D := D) (ci := 2) (v := .int (nI (srt tb tl r0.2.1))) (C := RX2) (T := TX2) (N := 6) hx hb hts hinX2 hown hK hP 0 rfl rfl 2 (by decide) (hts (.fieldLink RX2 19 "OneShort$Tape" "sort" "I") (List.mem_of_getElem? (i := 2) rfl)) (fun _ h9 => h9) rfl dX2_tellTo_29 ?_
          refine nv_ifne (tgt := 37) hx hb (by omega) dX2_tellTo_32 (by decide) (fun c3 => ?_) (fun c3 => ?_)
          · refine lv_aload_n hx hb dX2_tellTo_37 rfl (lv_at hl 1 rfl) ?_
            refine va_get (D := D) (ci := 2) (v := .int (nI (srt tb tl r0.2.1))) (C := RX2) (T := TX2) (N := 6) hx hb hts hinX2 hown hK hP 0 rfl rfl 2 (by decide) (hts (.fieldLink RX2 19 "OneShort$Tape" "sort" "I") (List.mem_of_getElem? (i := 2) rfl)) (fun _ h9 => h9) rfl dX2_tellTo_38 ?_
            refine lv_iconst (v := nI (3)) hx hb dX2_tellTo_41 (by decide) ?_
            refine nv_icmp_eq (tgt := 48) hx hb (by omega) (by omega) dX2_tellTo_42 (by decide) (fun c4 => ?_) (fun c4 => ?_)
            · refine lv_aload_n hx hb dX2_tellTo_48 rfl (lv_at hl 1 rfl) ?_
              refine mu_V (n := 0) (As := []) (rest := []) ⟨hx, hb, hml, hown, hts⟩ (c_X2_advance l D ci G ka adK adV fx a tl tb hI hG (nI (srt tb tl r0.2.1)) (nI (stt tb tl r0.2.1)) (nI (vlu tb tl r0.2.1)) (nxt tb tl r0.2.1) h_tl h_tb (by omega)) gX2_tellTo_X2_advance rfl ⟨rfl, rfl⟩ (by decide +kernel) rfl ⟨Nat.le_of_ble_eq_true rfl, Nat.le_of_ble_eq_true rfl⟩ hE (enS_S hGA hs0 hS) hK (va_Pl hP) (ci := 2) (q0 := 0) rfl rfl hl.1 rfl (Nat.le_of_ble_eq_true rfl) dX2_tellTo_49 ⟨Nat.zero_le _, Nat.zero_le _⟩ hS (fun _ h => Or.inl h) (fun H1 locs hz hfr hB hS => ?_)
              have hP : va_P D vwCl (wTp ci a tl tb (tkq tb tl (nxt tb tl r0.2.1)) ++ (wO (ci 0) b r0.2.2 w r nb)) H1 := wTO_t hd hP hfr hB
              generalize H1 = H at hP hS ⊢
              have hD : va_D (aTO a b) (wTp ci a tl tb (tkq tb tl (nxt tb tl r0.2.1)) ++ (wO (ci 0) b r0.2.2 w r nb)) := wTO_D hI hI2 hd
              refine nv_iinc1 (lv' := [(2, .int (nI (i + 1))), (0, .ref (a 0)), (1, .ref (b 0))]) hx hb dX2_tellTo_52 hl (k := 0) rfl (by decide) rfl (fun ls hl => ?_)
              refine lv_goto (tgt := 11) hx hb dX2_tellTo_55 (by decide) ?_
              exact ih11 (i + 1) (nxt tb tl r0.2.1) (r0.2.2) (by omega) (by omega) (by omega) (by omega) hW_r0 ((tR_d (by omega) e_r0 c2 c4).symm.trans h_r) (nI (i + 1)) rfl (w) (r) (nb) _ _ hP hS ls (lv_sub hl [0, 1, 2] rfl)
            · refine lv_goto (tgt := 58) hx hb dX2_tellTo_45 (by decide) ?_
              refine lv_iconst (v := -1) hx hb dX2_tellTo_58 (by decide) ?_
              refine lv_aload_n hx hb dX2_tellTo_59 rfl (lv_at hl 1 rfl) ?_
              refine va_get (D := D) (ci := 2) (v := .int (nI (stt tb tl r0.2.1))) (C := RX2) (T := TX2) (N := 6) hx hb hts hinX2 hown hK hP 0 rfl rfl 3 (by decide) (hts (.fieldLink RX2 22 "OneShort$Tape" "start" "I") (List.mem_of_getElem? (i := 3) rfl)) (fun _ h9 => h9) rfl dX2_tellTo_60 ?_
              refine lv_isub hx hb dX2_tellTo_63 ?_
              have h_T : tR tb tl 120 1 0 S = (false, stt tb tl r0.2.1, r0.2.2) := h_r.symm.trans (by first | exact tR_a (by omega) e_r0 c4 | exact tR_c (by omega) e_r0 c2 c3 c4 | exact tR_z (by omega))
              refine nv_cv (show (-1 - nI (stt tb tl r0.2.1)) = tI (tR tb tl 120 1 0 S) from tI_f h_T) ?_
              exact mu_iret hx hb hr hlocks hS ((by rw [h_T]; exact ⟨_, _, _, _, hP⟩)) dX2_tellTo_64
          · refine lv_iload_n hx hb dX2_tellTo_35 rfl (lv_at hl 0 rfl) ?_
            have h_T : tR tb tl 120 1 0 S = (true, i, r0.2.2) := h_r.symm.trans (tR_b (by omega) e_r0 c2 c3)
            refine nv_cv (show nI (i) = tI (tR tb tl 120 1 0 S) from tI_t h_T) ?_
            exact mu_iret hx hb hr hlocks hS ((by rw [h_T]; exact ⟨_, _, _, _, hP⟩)) dX2_tellTo_36
        · refine lv_goto (tgt := 58) hx hb dX2_tellTo_25 (by decide) ?_
          refine lv_iconst (v := -1) hx hb dX2_tellTo_58 (by decide) ?_
          refine lv_aload_n hx hb dX2_tellTo_59 rfl (lv_at hl 1 rfl) ?_
          refine va_get (D := D) (ci := 2) (v := .int (nI (stt tb tl r0.2.1))) (C := RX2) (T := TX2) (N := 6) hx hb hts hinX2 hown hK hP 0 rfl rfl 3 (by decide) (hts (.fieldLink RX2 22 "OneShort$Tape" "start" "I") (List.mem_of_getElem? (i := 3) rfl)) (fun _ h9 => h9) rfl dX2_tellTo_60 ?_
          refine lv_isub hx hb dX2_tellTo_63 ?_
          have h_T : tR tb tl 120 1 0 S = (false, stt tb tl r0.2.1, r0.2.2) := h_r.symm.trans (by first | exact tR_a (by omega) e_r0 c2 | exact tR_c (by omega) e_r0 rfl c1 c2 | exact tR_z (by omega))
          refine nv_cv (show (-1 - nI (stt tb tl r0.2.1)) = tI (tR tb tl 120 1 0 S) from tI_f h_T) ?_
          exact mu_iret hx hb hr hlocks hS ((by rw [h_T]; exact ⟨_, _, _, _, hP⟩)) dX2_tellTo_64
  exact L11 _ (1) (0) (S) (Nat.lt_succ_self _) (by omega) (by omega) (by omega) hWF rfl (nI (1)) rfl (w) (r) (nb) _ _ hP hS ls (lv_sub hl [0, 1, 2] rfl)
