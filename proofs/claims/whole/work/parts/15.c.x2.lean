/-! walks laid by program -/
set_option maxHeartbeats 4000000 in
set_option maxRecDepth 100000 in
/-- X2_isLetter -/
theorem c_X2_isLetter (l : Launch) (D : va_G) (ci : Nat → ClassId) (wc : va_W) (E : State → Heap → Prop) (b : Nat) (hE9 : EW E) (h_b : b ≤ 256) : Met l yX2_isLetter wsX2_isLetter ({ frames := 0, cells := 0, slots := 0, locals := 0 } : Room) (va_Pc [.int (nI (b) - nI (1))] (ro_B D (tyL ci) wc (E))) (ro_Q (some (.int (bI (bLt b))))) 0 0 (fun _ => False) := by
  refine ro_Met (cc := cX2_isLetter) (maxL := 1) (ret := (some .boolean)) [(0, .int (nI (b) - nI (1)))] (by decide) rfl (Nat.le_of_ble_eq_true rfl) rfl ?_
  intro p e s m below meth c hx hb hml hr hlocks hts hown hP hK hs ls hl
  have hown : s.vm.findClass RX2 = some m.cls := hown
  have hE := hE9
  refine lv_iload_n hx hb dX2_isLetter_0 rfl (lv_at hl 0 rfl) ?_
  refine lv_bipush (v := nI (97)) hx hb dX2_isLetter_1 (by decide) ?_
  refine nv_icmp_lt_DN (tgt := 16) hx hb (by omega) (by omega) dX2_isLetter_3 (by decide) (fun c1 => ?_) (fun c1 => ?_)
  · refine lv_iconst (v := nI (0)) hx hb dX2_isLetter_16 (by decide) ?_
    refine nv_cv (show nI (0) = bI (bLt b) from nv_f (by unfold bLt; simp; omega)) ?_
    exact ro_zret hx hb hr hlocks dX2_isLetter_17
  · refine lv_iload_n hx hb dX2_isLetter_6 rfl (lv_at hl 0 rfl) ?_
    refine lv_bipush (v := nI (122)) hx hb dX2_isLetter_7 (by decide) ?_
    refine nv_icmp_gt_DN (tgt := 16) hx hb (by omega) (by omega) dX2_isLetter_9 (by decide) (fun c2 => ?_) (fun c2 => ?_)
    · refine lv_iconst (v := nI (0)) hx hb dX2_isLetter_16 (by decide) ?_
      refine nv_cv (show nI (0) = bI (bLt b) from nv_f (by unfold bLt; simp; omega)) ?_
      exact ro_zret hx hb hr hlocks dX2_isLetter_17
    · refine lv_iconst (v := nI (1)) hx hb dX2_isLetter_12 (by decide) ?_
      refine lv_goto (tgt := 17) hx hb dX2_isLetter_13 (by decide) ?_
      refine nv_cv (show nI (1) = bI (bLt b) from nv_t (by unfold bLt; simp; omega)) ?_
      exact ro_zret hx hb hr hlocks dX2_isLetter_17

set_option maxHeartbeats 4000000 in
set_option maxRecDepth 100000 in
/-- X2_isDigit -/
theorem c_X2_isDigit (l : Launch) (D : va_G) (ci : Nat → ClassId) (wc : va_W) (E : State → Heap → Prop) (b : Nat) (hE9 : EW E) (h_b : b ≤ 256) : Met l yX2_isDigit wsX2_isDigit ({ frames := 0, cells := 0, slots := 0, locals := 0 } : Room) (va_Pc [.int (nI (b) - nI (1))] (ro_B D (tyL ci) wc (E))) (ro_Q (some (.int (bI (bDg b))))) 0 0 (fun _ => False) := by
  refine ro_Met (cc := cX2_isDigit) (maxL := 1) (ret := (some .boolean)) [(0, .int (nI (b) - nI (1)))] (by decide) rfl (Nat.le_of_ble_eq_true rfl) rfl ?_
  intro p e s m below meth c hx hb hml hr hlocks hts hown hP hK hs ls hl
  have hown : s.vm.findClass RX2 = some m.cls := hown
  have hE := hE9
  refine lv_iload_n hx hb dX2_isDigit_0 rfl (lv_at hl 0 rfl) ?_
  refine lv_bipush (v := nI (48)) hx hb dX2_isDigit_1 (by decide) ?_
  refine nv_icmp_lt_DN (tgt := 16) hx hb (by omega) (by omega) dX2_isDigit_3 (by decide) (fun c1 => ?_) (fun c1 => ?_)
  · refine lv_iconst (v := nI (0)) hx hb dX2_isDigit_16 (by decide) ?_
    refine nv_cv (show nI (0) = bI (bDg b) from nv_f (by unfold bDg; simp; omega)) ?_
    exact ro_zret hx hb hr hlocks dX2_isDigit_17
  · refine lv_iload_n hx hb dX2_isDigit_6 rfl (lv_at hl 0 rfl) ?_
    refine lv_bipush (v := nI (57)) hx hb dX2_isDigit_7 (by decide) ?_
    refine nv_icmp_gt_DN (tgt := 16) hx hb (by omega) (by omega) dX2_isDigit_9 (by decide) (fun c2 => ?_) (fun c2 => ?_)
    · refine lv_iconst (v := nI (0)) hx hb dX2_isDigit_16 (by decide) ?_
      refine nv_cv (show nI (0) = bI (bDg b) from nv_f (by unfold bDg; simp; omega)) ?_
      exact ro_zret hx hb hr hlocks dX2_isDigit_17
    · refine lv_iconst (v := nI (1)) hx hb dX2_isDigit_12 (by decide) ?_
      refine lv_goto (tgt := 17) hx hb dX2_isDigit_13 (by decide) ?_
      refine nv_cv (show nI (1) = bI (bDg b) from nv_t (by unfold bDg; simp; omega)) ?_
      exact ro_zret hx hb hr hlocks dX2_isDigit_17

set_option maxHeartbeats 4000000 in
set_option maxRecDepth 100000 in
/-- X2_sortBegunBy -/
theorem c_X2_sortBegunBy (l : Launch) (D : va_G) (ci : Nat → ClassId) (wc : va_W) (E : State → Heap → Prop) (b : Nat) (hE9 : EW E) (h_b : b ≤ 256) : Met l yX2_sortBegunBy wsX2_sortBegunBy ({ frames := 1, cells := 0, slots := 0, locals := 20 } : Room) (va_Pc [.int (nI (b) - nI (1))] (ro_B D (tyL ci) wc (E))) (ro_Q (some (.int (nI (srtB b))))) 0 0 (fun _ => False) := by
  refine ro_Met (cc := cX2_sortBegunBy) (maxL := 1) (ret := (some .int)) [(0, .int (nI (b) - nI (1)))] (by decide) rfl (Nat.le_of_ble_eq_true rfl) rfl ?_
  intro p e s m below meth c hx hb hml hr hlocks hts hown hP hK hs ls hl
  have hown : s.vm.findClass RX2 = some m.cls := hown
  have hE := hE9
  refine lv_iload_n hx hb dX2_sortBegunBy_0 rfl (lv_at hl 0 rfl) ?_
  refine nv_ifge_D (tgt := 6) hx hb (by omega) dX2_sortBegunBy_1 (by decide) (fun c1 => ?_) (fun c1 => ?_)
  · refine lv_iload_n hx hb dX2_sortBegunBy_6 rfl (lv_at hl 0 rfl) ?_
    refine ro_S (n := 1) (As := [.int (nI (b) - nI (1))]) (rest := []) ⟨hx, hb, hml, hown, hts⟩ (c_X2_isLetter l D ci wc (E) (b) hE (by omega)) gX2_sortBegunBy_X2_isLetter rfl ⟨rfl, rfl⟩ (by decide +kernel) rfl ⟨Nat.le_of_ble_eq_true rfl, Nat.le_of_ble_eq_true rfl⟩ hE hs hK hP hl.1 rfl (Nat.le_of_ble_eq_true rfl) dX2_sortBegunBy_7 ⟨Nat.zero_le _, Nat.zero_le _⟩ ?_
    refine nv_ifeq_b (tgt := 15) hx hb dX2_sortBegunBy_10 (by decide) (fun c2 => ?_) (fun c2 => ?_)
    · refine lv_iload_n hx hb dX2_sortBegunBy_15 rfl (lv_at hl 0 rfl) ?_
      refine ro_S (n := 1) (As := [.int (nI (b) - nI (1))]) (rest := []) ⟨hx, hb, hml, hown, hts⟩ (c_X2_isDigit l D ci wc (E) (b) hE (by omega)) gX2_sortBegunBy_X2_isDigit rfl ⟨rfl, rfl⟩ (by decide +kernel) rfl ⟨Nat.le_of_ble_eq_true rfl, Nat.le_of_ble_eq_true rfl⟩ hE hs hK hP hl.1 rfl (Nat.le_of_ble_eq_true rfl) dX2_sortBegunBy_16 ⟨Nat.zero_le _, Nat.zero_le _⟩ ?_
      refine nv_ifeq_b (tgt := 24) hx hb dX2_sortBegunBy_19 (by decide) (fun c3 => ?_) (fun c3 => ?_)
      · refine lv_iload_n hx hb dX2_sortBegunBy_24 rfl (lv_at hl 0 rfl) ?_
        refine lv_bipush (v := nI (59)) hx hb dX2_sortBegunBy_25 (by decide) ?_
        refine nv_icmp_ne_DN (tgt := 34) hx hb (by omega) (by omega) dX2_sortBegunBy_27 (by decide) (fun c4 => ?_) (fun c4 => ?_)
        · refine lv_iconst (v := nI (4)) hx hb dX2_sortBegunBy_34 (by decide) ?_
          refine nv_cv (show nI (4) = nI (srtB b) from nv_e (by first | (rw [srtB, if_pos c1]; done) | (rw [srtB, if_neg (by omega), if_pos c2]; done) | (rw [srtB, if_neg (by omega), if_neg (by rw [c2]; decide), if_pos c3]; done) | (rw [srtB, if_neg (by omega), if_neg (by rw [c2]; decide), if_neg (by rw [c3]; decide), if_pos c4]; done) | (rw [srtB, if_neg (by omega), if_neg (by rw [c2]; decide), if_neg (by rw [c3]; decide), if_neg c4]; done))) ?_
          exact ro_iret hx hb hr hlocks dX2_sortBegunBy_35
        · refine lv_iconst (v := nI (3)) hx hb dX2_sortBegunBy_30 (by decide) ?_
          refine lv_goto (tgt := 35) hx hb dX2_sortBegunBy_31 (by decide) ?_
          refine nv_cv (show nI (3) = nI (srtB b) from nv_e (by first | (rw [srtB, if_pos c1]; done) | (rw [srtB, if_neg (by omega), if_pos c2]; done) | (rw [srtB, if_neg (by omega), if_neg (by rw [c2]; decide), if_pos c3]; done) | (rw [srtB, if_neg (by omega), if_neg (by rw [c2]; decide), if_neg (by rw [c3]; decide), if_pos c4]; done) | (rw [srtB, if_neg (by omega), if_neg (by rw [c2]; decide), if_neg (by rw [c3]; decide), if_neg c4]; done))) ?_
          exact ro_iret hx hb hr hlocks dX2_sortBegunBy_35
      · refine lv_iconst (v := nI (2)) hx hb dX2_sortBegunBy_22 (by decide) ?_
        refine nv_cv (show nI (2) = nI (srtB b) from nv_e (by first | (rw [srtB, if_pos c1]; done) | (rw [srtB, if_neg (by omega), if_pos c2]; done) | (rw [srtB, if_neg (by omega), if_neg (by rw [c2]; decide), if_pos c3]; done) | (rw [srtB, if_neg (by omega), if_neg (by rw [c2]; decide), if_neg (by rw [c3]; decide), if_pos rfl]; done) | (rw [srtB, if_neg (by omega), if_neg (by rw [c2]; decide), if_neg (by rw [c3]; decide), if_neg rfl]; done))) ?_
        exact ro_iret hx hb hr hlocks dX2_sortBegunBy_23
    · refine lv_iconst (v := nI (1)) hx hb dX2_sortBegunBy_13 (by decide) ?_
      refine nv_cv (show nI (1) = nI (srtB b) from nv_e (by first | (rw [srtB, if_pos c1]; done) | (rw [srtB, if_neg (by omega), if_pos c2]; done) | (rw [srtB, if_neg (by omega), if_neg (by rw [c2]; decide), if_pos rfl]; done) | (rw [srtB, if_neg (by omega), if_neg (by rw [c2]; decide), if_neg (by rw [rfl]; decide), if_pos rfl]; done) | (rw [srtB, if_neg (by omega), if_neg (by rw [c2]; decide), if_neg (by rw [rfl]; decide), if_neg rfl]; done))) ?_
      exact ro_iret hx hb hr hlocks dX2_sortBegunBy_14
  · refine lv_iconst (v := nI (0)) hx hb dX2_sortBegunBy_4 (by decide) ?_
    refine nv_cv (show nI (0) = nI (srtB b) from nv_e (by first | (rw [srtB, if_pos c1]; done) | (rw [srtB, if_neg (by omega), if_pos rfl]; done) | (rw [srtB, if_neg (by omega), if_neg (by rw [rfl]; decide), if_pos rfl]; done) | (rw [srtB, if_neg (by omega), if_neg (by rw [rfl]; decide), if_neg (by rw [rfl]; decide), if_pos rfl]; done) | (rw [srtB, if_neg (by omega), if_neg (by rw [rfl]; decide), if_neg (by rw [rfl]; decide), if_neg rfl]; done))) ?_
    exact ro_iret hx hb hr hlocks dX2_sortBegunBy_5

set_option maxHeartbeats 4000000 in
set_option maxRecDepth 100000 in
/-- X2_byteAt -/
theorem c_X2_byteAt (l : Launch) (D : va_G) (ci : Nat → ClassId) (G : Nat → Prop) (ka : Nat) (adK adV : Nat → Nat) (fx : Nat) (a : Nat → Nat) (tl : Nat) (tb : Nat → Nat) (x0 x1 x2 x3 : Int32) (k : Nat) (h_tl : tl ≤ 120) (h_tb : ∀ k, tb k < 256) (h_k : k < 1000) : Met l yX2_byteAt wsX2_byteAt ({ frames := 0, cells := 0, slots := 0, locals := 0 } : Room) (va_Pc [.ref (a 0), .int (nI k)] (ro_B D (tyL ci) (wTp ci a tl tb (q4 (x0) (x1) (x2) (x3))) (enS D (ci 0) G ka adK adV fx))) (ro_Q (some (.int (nI (bE tb tl k) - nI (1))))) 0 0 (fun _ => False) := by
  refine ro_Met (cc := cX2_byteAt) (maxL := 2) (ret := (some .int)) [(0, .ref (a 0)), (1, .int (nI k))] (by decide) rfl (Nat.le_of_ble_eq_true rfl) rfl ?_
  intro p e s m below meth c hx hb hml hr hlocks hts hown hP hK hs ls hl
  have hown : s.vm.findClass RX2 = some m.cls := hown
  have hinX2 : ∀ w ∈ wsX20, w ∈ wsX2_byteAt := by decide +kernel
  have hE := hE_S D (ci 0) G ka adK adV fx
  refine lv_iload_n hx hb dX2_byteAt_0 rfl (lv_at hl 1 rfl) ?_
  refine nv_iflt (tgt := 27) hx hb (by omega) dX2_byteAt_1 (by decide) ?_
  refine lv_iload_n hx hb dX2_byteAt_4 rfl (lv_at hl 1 rfl) ?_
  refine lv_aload_n hx hb dX2_byteAt_5 rfl (lv_at hl 0 rfl) ?_
  refine va_get (D := D) (ci := 2) (v := .int (nI tl)) (C := RX2) (T := TX2) (N := 6) hx hb hts hinX2 hown hK hP 0 rfl rfl 0 (by decide) (hts (.fieldLink RX2 9 "OneShort$Tape" "length" "I") (List.mem_of_getElem? (i := 1) rfl)) (fun _ h9 => h9) rfl dX2_byteAt_6 ?_
  refine nv_icmp_ge (tgt := 27) hx hb (by omega) (by omega) dX2_byteAt_9 (by decide) (fun c2 => ?_) (fun c2 => ?_)
  · refine lv_iconst (v := -1) hx hb dX2_byteAt_27 (by decide) ?_
    refine nv_cv (show -1 = nI (bE tb tl k) - nI (1) from by first | (rw [bE_in (by omega)]; exact (nI_pred _).symm) | (rw [bE_out (by omega)]; decide)) ?_
    exact ro_iret hx hb hr hlocks dX2_byteAt_28
  · refine lv_iload_n hx hb dX2_byteAt_12 rfl (lv_at hl 1 rfl) ?_
    refine lv_bipush (v := nI (120)) hx hb dX2_byteAt_13 (by decide) ?_
    refine nv_icmp_ge (tgt := 27) hx hb (by omega) (by omega) dX2_byteAt_15 (by decide) (fun c3 => ?_) (fun c3 => ?_)
    · refine lv_iconst (v := -1) hx hb dX2_byteAt_27 (by decide) ?_
      refine nv_cv (show -1 = nI (bE tb tl k) - nI (1) from by first | (rw [bE_in (by omega)]; exact (nI_pred _).symm) | (rw [bE_out (by omega)]; decide)) ?_
      exact ro_iret hx hb hr hlocks dX2_byteAt_28
    · refine lv_aload_n hx hb dX2_byteAt_18 rfl (lv_at hl 0 rfl) ?_
      refine va_get (D := D) (ci := 2) (v := .ref (a 1)) (C := RX2) (T := TX2) (N := 6) hx hb hts hinX2 hown hK hP 0 rfl rfl 1 (by decide) (hts (.fieldLink RX2 15 "OneShort$Tape" "bytes" "[I") (List.mem_of_getElem? (i := 2) rfl)) (fun _ h9 => h9) rfl dX2_byteAt_19 ?_
      refine lv_iload_n hx hb dX2_byteAt_22 rfl (lv_at hl 1 rfl) ?_
      have f4 := h_tb (k)
      refine nv_iald (v := nI (tb (k))) hx hb hK hP 1 0 rfl rfl (by omega) (by decide) rfl dX2_byteAt_23 ?_
      refine lv_goto (tgt := 28) hx hb dX2_byteAt_24 (by decide) ?_
      refine nv_cv (show nI (tb (k)) = nI (bE tb tl k) - nI (1) from by first | (rw [bE_in (by omega)]; exact (nI_pred _).symm) | (rw [bE_out (by omega)]; decide)) ?_
      exact ro_iret hx hb hr hlocks dX2_byteAt_28

set_option maxHeartbeats 4000000 in
set_option maxRecDepth 100000 in
/-- X2_advance -/
theorem c_X2_advance (l : Launch) (D : va_G) (ci : Nat → ClassId) (G : Nat → Prop) (ka : Nat) (adK adV : Nat → Nat) (fx : Nat) (a : Nat → Nat) (tl : Nat) (tb : Nat → Nat) (hI : injA a 2) (hG : ∀ k, k < 2 → G (a k)) (x0 x1 x3 : Int32) (p : Nat) (h_tl : tl ≤ 120) (h_tb : ∀ k, tb k < 256) (h_p : p ≤ tl) : Met l yX2_advance wsX2_advance ({ frames := 2, cells := 0, slots := 0, locals := 40 } : Room) (va_Pc [.ref (a 0)] (ro_B D (tyL ci) (wTp ci a tl tb (q4 (x0) (x1) (nI (p)) (x3))) (enS D (ci 0) G ka adK adV fx))) (mu_Q (aT a) (none) (fun H => va_P D vwCl ((wTp ci a tl tb (tkq tb tl p))) H)) 0 0 (aT a) := by
  refine mu_Met (cc := cX2_advance) (maxL := 1) (ret := none) [(0, .ref (a 0))] (wTp_D hI) (by decide) rfl (Nat.le_of_ble_eq_true rfl) rfl ?_
  intro pg e s m below meth c H locs hx hb hml hr hlocks hts hown hP hK hs0 hD hS ls hl
  have hown : s.vm.findClass RX2 = some m.cls := hown
  have hinX2 : ∀ w ∈ wsX20, w ∈ wsX2_advance := by decide +kernel
  have hE := hE_S D (ci 0) G ka adK adV fx
  have hGA := aT_G hG
  have f_t := tokf (tb := tb) h_p
  have f_a := aft_le (tb := tb) h_p
  have L137 : ∀ (k137 : Nat) (cur : Nat) (v : Nat), tl - cur < k137 → (cur ≤ tl) → (v ≤ 1000) → (I137 tb tl p cur v) → ∀ (H : Heap) (locs : List Loc), va_P D vwCl (wTp ci a tl tb (q4 (nI (srt tb tl p)) (nI ((stt tb tl p))) (nI (cur)) (nI (v)))) H → va_S (aT a) s.heap H locs → ∀ ls : Array Slot, lv_has ls 1 [(0, .ref (a 0))] → W pg l e (headSpec wsX2_advance ({ frames := 2, cells := 0, slots := 0, locals := 40 } : Room)).room s m ([.ref (a 0)] : List Value).toArray below meth c H locs 0 0 (MQ below (mu_Q (aT a) (none) (fun H => va_P D vwCl ((wTp ci a tl tb (tkq tb tl p))) H)) ([.ref (a 0)] : List Value).toArray s 0 0 (aT a)) (F0 m 137 ls []) := by
    intro k137
    induction k137 with
    | zero => intro cur v h0; exact absurd h0 (Nat.not_lt_zero _)
    | succ k137 ih137 =>
      intro cur v hk137 h_c3 h_v h_q    H locs hP hS ls hl
      have hD : va_D (aT a) (wTp ci a tl tb (q4 (nI (srt tb tl p)) (nI ((stt tb tl p))) (nI (cur)) (nI (v)))) := wTp_D hI
      refine lv_aload_n hx hb dX2_advance_137 rfl (lv_at hl 0 rfl) ?_
      refine va_get (D := D) (ci := 2) (v := .int (nI cur)) (C := RX2) (T := TX2) (N := 6) hx hb hts hinX2 hown hK hP 0 rfl rfl 4 (by decide) (hts (.fieldLink RX2 25 "OneShort$Tape" "next" "I") (List.mem_of_getElem? (i := 1) rfl)) (fun _ h9 => h9) rfl dX2_advance_138 ?_
      refine lv_aload_n hx hb dX2_advance_141 rfl (lv_at hl 0 rfl) ?_
      refine va_get (D := D) (ci := 2) (v := .int (nI tl)) (C := RX2) (T := TX2) (N := 6) hx hb hts hinX2 hown hK hP 0 rfl rfl 0 (by decide) (hts (.fieldLink RX2 9 "OneShort$Tape" "length" "I") (List.mem_of_getElem? (i := 2) rfl)) (fun _ h9 => h9) rfl dX2_advance_142 ?_
      refine nv_icmp_ge (tgt := 212) hx hb (by omega) (by omega) dX2_advance_145 (by decide) (fun c1 => ?_) (fun c1 => ?_)
      · obtain ⟨e_1, e_2⟩ := I137_e h_q (Or.inl c1)
        subst e_1 e_2
        exact mu_vret hx hb hr hlocks hS (hP) dX2_advance_212
      · refine lv_aload_n hx hb dX2_advance_148 rfl (lv_at hl 0 rfl) ?_
        refine va_get (D := D) (ci := 2) (v := .int (nI (srt tb tl p))) (C := RX2) (T := TX2) (N := 6) hx hb hts hinX2 hown hK hP 0 rfl rfl 2 (by decide) (hts (.fieldLink RX2 19 "OneShort$Tape" "sort" "I") (List.mem_of_getElem? (i := 5) rfl)) (fun _ h9 => h9) rfl dX2_advance_149 ?_
        refine lv_iconst (v := nI (2)) hx hb dX2_advance_152 (by decide) ?_
        refine nv_icmp_ne (tgt := 212) hx hb (by omega) (by omega) dX2_advance_153 (by decide) (fun c2 => ?_) (fun c2 => ?_)
        · obtain ⟨e_1, e_2⟩ := I137_e h_q (Or.inr (Or.inl c2))
          subst e_1 e_2
          exact mu_vret hx hb hr hlocks hS (hP) dX2_advance_212
        · refine lv_aload_n hx hb dX2_advance_156 rfl (lv_at hl 0 rfl) ?_
          refine lv_aload_n hx hb dX2_advance_157 rfl (lv_at hl 0 rfl) ?_
          refine va_get (D := D) (ci := 2) (v := .int (nI cur)) (C := RX2) (T := TX2) (N := 6) hx hb hts hinX2 hown hK hP 0 rfl rfl 4 (by decide) (hts (.fieldLink RX2 25 "OneShort$Tape" "next" "I") (List.mem_of_getElem? (i := 1) rfl)) (fun _ h9 => h9) rfl dX2_advance_158 ?_
          refine ro_V (n := 1) (As := [.int (nI cur)]) (rest := []) ⟨hx, hb, hml, hown, hts⟩ (c_X2_byteAt l D ci G ka adK adV fx a tl tb (nI (srt tb tl p)) (nI ((stt tb tl p))) (nI (cur)) (nI (v)) (cur) h_tl h_tb (by omega)) gX2_advance_X2_byteAt rfl ⟨rfl, rfl⟩ (by decide +kernel) rfl ⟨Nat.le_of_ble_eq_true rfl, Nat.le_of_ble_eq_true rfl⟩ hE (enS_S hGA hs0 hS) hK hP (ci := 2) (q0 := 0) rfl rfl hl.1 rfl (Nat.le_of_ble_eq_true rfl) dX2_advance_161 ⟨Nat.zero_le _, Nat.zero_le _⟩ ?_
          have f3 := bE_le (tl := tl) h_tb (cur)
          refine ro_S (n := 1) (As := [.int (nI (bE tb tl cur) - nI (1))]) (rest := []) ⟨hx, hb, hml, hown, hts⟩ (c_X2_isDigit l D ci (wTp ci a tl tb (q4 (nI (srt tb tl p)) (nI ((stt tb tl p))) (nI (cur)) (nI (v)))) (enS D (ci 0) G ka adK adV fx) (bE tb tl cur) hE (by omega)) gX2_advance_X2_isDigit rfl ⟨rfl, rfl⟩ (by decide +kernel) rfl ⟨Nat.le_of_ble_eq_true rfl, Nat.le_of_ble_eq_true rfl⟩ hE (enS_S hGA hs0 hS) hK hP hl.1 rfl (Nat.le_of_ble_eq_true rfl) dX2_advance_164 ⟨Nat.zero_le _, Nat.zero_le _⟩ ?_
          refine nv_ifeq_b (tgt := 212) hx hb dX2_advance_167 (by decide) (fun c4 => ?_) (fun c4 => ?_)
          · obtain ⟨e_1, e_2⟩ := I137_e h_q (Or.inr (Or.inr c4))
            subst e_1 e_2
            exact mu_vret hx hb hr hlocks hS (hP) dX2_advance_212
          · have f5 := bDg_ge c4
            refine lv_aload_n hx hb dX2_advance_170 rfl (lv_at hl 0 rfl) ?_
            refine lv_sipush (v := nI (1000)) hx hb dX2_advance_171 (by decide) ?_
            refine lv_aload_n hx hb dX2_advance_174 rfl (lv_at hl 0 rfl) ?_
            refine va_get (D := D) (ci := 2) (v := .int (nI v)) (C := RX2) (T := TX2) (N := 6) hx hb hts hinX2 hown hK hP 0 rfl rfl 5 (by decide) (hts (.fieldLink RX2 28 "OneShort$Tape" "value" "I") (List.mem_of_getElem? (i := 4) rfl)) (fun _ h9 => h9) rfl dX2_advance_175 ?_
            refine lv_bipush (v := nI (10)) hx hb dX2_advance_178 (by decide) ?_
            refine nv_imul hx hb dX2_advance_180 ?_
            refine lv_aload_n hx hb dX2_advance_181 rfl (lv_at hl 0 rfl) ?_
            refine lv_aload_n hx hb dX2_advance_182 rfl (lv_at hl 0 rfl) ?_
            refine va_get (D := D) (ci := 2) (v := .int (nI cur)) (C := RX2) (T := TX2) (N := 6) hx hb hts hinX2 hown hK hP 0 rfl rfl 4 (by decide) (hts (.fieldLink RX2 25 "OneShort$Tape" "next" "I") (List.mem_of_getElem? (i := 1) rfl)) (fun _ h9 => h9) rfl dX2_advance_183 ?_
            refine ro_V (n := 1) (As := [.int (nI cur)]) (rest := [.int (nI ((v * 10))), .int (nI 1000), .ref (a 0)]) ⟨hx, hb, hml, hown, hts⟩ (c_X2_byteAt l D ci G ka adK adV fx a tl tb (nI (srt tb tl p)) (nI ((stt tb tl p))) (nI (cur)) (nI (v)) (cur) h_tl h_tb (by omega)) gX2_advance_X2_byteAt rfl ⟨rfl, rfl⟩ (by decide +kernel) rfl ⟨Nat.le_of_ble_eq_true rfl, Nat.le_of_ble_eq_true rfl⟩ hE (enS_S hGA hs0 hS) hK hP (ci := 2) (q0 := 0) rfl rfl hl.1 rfl (Nat.le_of_ble_eq_true rfl) dX2_advance_186 ⟨Nat.zero_le _, Nat.zero_le _⟩ ?_
            have f6 := bE_le (tl := tl) h_tb (cur)
            refine lv_iadd hx hb dX2_advance_189 ?_
            refine lv_bipush (v := nI (48)) hx hb dX2_advance_190 (by decide) ?_
            refine lv_isub hx hb dX2_advance_192 ?_
            refine nv_cv (show ((nI ((v * 10)) + (nI (bE tb tl cur) - nI (1))) - nI (48)) = nI ((v * 10 + (bE tb tl cur - 49))) from dig_v (by omega)) ?_
            refine va_mmin hx hb (hml.trans hl.1.symm) hown (hts (.methodLink RX2 127 Lib.Math.min.name) (List.mem_of_getElem? (i := 6) rfl)) (hts (.static Lib.Math.min.name) (List.mem_of_getElem? (i := 7) rfl)) (hts (.initialized "java/lang/Math") (List.mem_of_getElem? (i := 8) rfl)) (hts (.code Lib.Math.min.name Lib.Math.min.code 2 (some .int)) (List.mem_of_getElem? (i := 9) rfl)) (Nat.le_of_ble_eq_true rfl) (Nat.le_of_ble_eq_true rfl) (Nat.zero_le _) (Nat.zero_le _) dX2_advance_193 (nv_cv (nv_min (x := 1000) (y := (v * 10 + (bE tb tl cur - 49))) (by omega) (by omega)) ?_)
            refine va_put (D := D) (ci := 2) (v := .int (nI (min (1000) ((v * 10 + (bE tb tl cur - 49)))))) (ty := .int) (C := RX2) (T := TX2) (N := 6) hx hb hts hinX2 tyX2 tyX2_ok nmX2 hown hK hP hD hS 0 rfl rfl 5 (by decide) (hts (.fieldLink RX2 28 "OneShort$Tape" "value" "I") (List.mem_of_getElem? (i := 4) rfl)) (fun _ h9 => h9) rfl (by decide +kernel) rfl rfl (Nat.le_of_ble_eq_true rfl) dX2_advance_196 (fun H locs hP hD hS => ?_)
            have hP : va_P D vwCl (wTp ci a tl tb (q4 (nI (srt tb tl p)) (nI ((stt tb tl p))) (nI (cur)) (nI (min (1000) ((v * 10 + (bE tb tl cur - 49))))))) H := va_P.re (wTq_3 ci a tl tb (nI (srt tb tl p)) (nI ((stt tb tl p))) (nI (cur)) (nI (v)) (nI (min (1000) ((v * 10 + (bE tb tl cur - 49)))))) hP
            have hD : va_D (aT a) (wTp ci a tl tb (q4 (nI (srt tb tl p)) (nI ((stt tb tl p))) (nI (cur)) (nI (min (1000) ((v * 10 + (bE tb tl cur - 49))))))) := wTp_D hI
            refine lv_aload_n hx hb dX2_advance_199 rfl (lv_at hl 0 rfl) ?_
            refine lv_dup hx hb dX2_advance_200 rfl ?_
            refine va_get (D := D) (ci := 2) (v := .int (nI cur)) (C := RX2) (T := TX2) (N := 6) hx hb hts hinX2 hown hK hP 0 rfl rfl 4 (by decide) (hts (.fieldLink RX2 25 "OneShort$Tape" "next" "I") (List.mem_of_getElem? (i := 1) rfl)) (fun _ h9 => h9) rfl dX2_advance_201 ?_
            refine lv_iconst (v := nI (1)) hx hb dX2_advance_204 (by decide) ?_
            refine nv_iadd hx hb dX2_advance_205 ?_
            refine va_put (D := D) (ci := 2) (v := .int (nI ((cur + 1)))) (ty := .int) (C := RX2) (T := TX2) (N := 6) hx hb hts hinX2 tyX2 tyX2_ok nmX2 hown hK hP hD hS 0 rfl rfl 4 (by decide) (hts (.fieldLink RX2 25 "OneShort$Tape" "next" "I") (List.mem_of_getElem? (i := 1) rfl)) (fun _ h9 => h9) rfl (by decide +kernel) rfl rfl (Nat.le_of_ble_eq_true rfl) dX2_advance_206 (fun H locs hP hD hS => ?_)
            have hP : va_P D vwCl (wTp ci a tl tb (q4 (nI (srt tb tl p)) (nI ((stt tb tl p))) (nI ((cur + 1))) (nI (min (1000) ((v * 10 + (bE tb tl cur - 49))))))) H := va_P.re (wTq_2 ci a tl tb (nI (srt tb tl p)) (nI ((stt tb tl p))) (nI (cur)) (nI (min (1000) ((v * 10 + (bE tb tl cur - 49))))) (nI ((cur + 1)))) hP
            have hD : va_D (aT a) (wTp ci a tl tb (q4 (nI (srt tb tl p)) (nI ((stt tb tl p))) (nI ((cur + 1))) (nI (min (1000) ((v * 10 + (bE tb tl cur - 49))))))) := wTp_D hI
            refine lv_goto (tgt := 137) hx hb dX2_advance_209 (by decide) ?_
            exact ih137 (cur + 1) (min (1000) ((v * 10 + (bE tb tl cur - 49)))) (by omega) (by omega) (Nat.min_le_left _ _) (I137_s h_q c2 (by omega) c4)  _ _ hP hS ls (lv_sub hl [0] rfl)
  have L91 : ∀ (k91 : Nat) (cur : Nat), tl - cur < k91 → (cur ≤ tl) → (I91 tb tl p cur) → ∀ (H : Heap) (locs : List Loc), va_P D vwCl (wTp ci a tl tb (q4 (nI (srt tb tl p)) (nI ((stt tb tl p))) (nI (cur)) (nI (0)))) H → va_S (aT a) s.heap H locs → ∀ ls : Array Slot, lv_has ls 1 [(0, .ref (a 0))] → W pg l e (headSpec wsX2_advance ({ frames := 2, cells := 0, slots := 0, locals := 40 } : Room)).room s m ([.ref (a 0)] : List Value).toArray below meth c H locs 0 0 (MQ below (mu_Q (aT a) (none) (fun H => va_P D vwCl ((wTp ci a tl tb (tkq tb tl p))) H)) ([.ref (a 0)] : List Value).toArray s 0 0 (aT a)) (F0 m 91 ls []) := by
    intro k91
    induction k91 with
    | zero => intro cur h0; exact absurd h0 (Nat.not_lt_zero _)
    | succ k91 ih91 =>
      intro cur hk91 h_c2 h_i    H locs hP hS ls hl
      have hD : va_D (aT a) (wTp ci a tl tb (q4 (nI (srt tb tl p)) (nI ((stt tb tl p))) (nI (cur)) (nI (0)))) := wTp_D hI
      refine lv_aload_n hx hb dX2_advance_91 rfl (lv_at hl 0 rfl) ?_
      refine va_get (D := D) (ci := 2) (v := .int (nI cur)) (C := RX2) (T := TX2) (N := 6) hx hb hts hinX2 hown hK hP 0 rfl rfl 4 (by decide) (hts (.fieldLink RX2 25 "OneShort$Tape" "next" "I") (List.mem_of_getElem? (i := 1) rfl)) (fun _ h9 => h9) rfl dX2_advance_92 ?_
      refine lv_aload_n hx hb dX2_advance_95 rfl (lv_at hl 0 rfl) ?_
      refine va_get (D := D) (ci := 2) (v := .int (nI tl)) (C := RX2) (T := TX2) (N := 6) hx hb hts hinX2 hown hK hP 0 rfl rfl 0 (by decide) (hts (.fieldLink RX2 9 "OneShort$Tape" "length" "I") (List.mem_of_getElem? (i := 2) rfl)) (fun _ h9 => h9) rfl dX2_advance_96 ?_
      refine nv_icmp_ge (tgt := 137) hx hb (by omega) (by omega) dX2_advance_99 (by decide) (fun c7 => ?_) (fun c7 => ?_)
      · obtain rfl : cur = aft tb tl p := I91_e h_i (Or.inl c7)
        exact L137 _ (aft tb tl p) (0) (Nat.lt_succ_self _) f_a (by omega) I137_0  _ _ hP hS ls (lv_sub hl [0] rfl)
      · refine lv_aload_n hx hb dX2_advance_102 rfl (lv_at hl 0 rfl) ?_
        refine va_get (D := D) (ci := 2) (v := .int (nI (srt tb tl p))) (C := RX2) (T := TX2) (N := 6) hx hb hts hinX2 hown hK hP 0 rfl rfl 2 (by decide) (hts (.fieldLink RX2 19 "OneShort$Tape" "sort" "I") (List.mem_of_getElem? (i := 5) rfl)) (fun _ h9 => h9) rfl dX2_advance_103 ?_
        refine lv_iconst (v := nI (1)) hx hb dX2_advance_106 (by decide) ?_
        refine nv_icmp_ne (tgt := 137) hx hb (by omega) (by omega) dX2_advance_107 (by decide) (fun c8 => ?_) (fun c8 => ?_)
        · obtain rfl : cur = aft tb tl p := I91_e h_i (Or.inr (Or.inl c8))
          exact L137 _ (aft tb tl p) (0) (Nat.lt_succ_self _) f_a (by omega) I137_0  _ _ hP hS ls (lv_sub hl [0] rfl)
        · refine lv_aload_n hx hb dX2_advance_110 rfl (lv_at hl 0 rfl) ?_
          refine lv_aload_n hx hb dX2_advance_111 rfl (lv_at hl 0 rfl) ?_
          refine va_get (D := D) (ci := 2) (v := .int (nI cur)) (C := RX2) (T := TX2) (N := 6) hx hb hts hinX2 hown hK hP 0 rfl rfl 4 (by decide) (hts (.fieldLink RX2 25 "OneShort$Tape" "next" "I") (List.mem_of_getElem? (i := 1) rfl)) (fun _ h9 => h9) rfl dX2_advance_112 ?_
          refine ro_V (n := 1) (As := [.int (nI cur)]) (rest := []) ⟨hx, hb, hml, hown, hts⟩ (c_X2_byteAt l D ci G ka adK adV fx a tl tb (nI (srt tb tl p)) (nI ((stt tb tl p))) (nI (cur)) (nI (0)) (cur) h_tl h_tb (by omega)) gX2_advance_X2_byteAt rfl ⟨rfl, rfl⟩ (by decide +kernel) rfl ⟨Nat.le_of_ble_eq_true rfl, Nat.le_of_ble_eq_true rfl⟩ hE (enS_S hGA hs0 hS) hK hP (ci := 2) (q0 := 0) rfl rfl hl.1 rfl (Nat.le_of_ble_eq_true rfl) dX2_advance_115 ⟨Nat.zero_le _, Nat.zero_le _⟩ ?_
          have f9 := bE_le (tl := tl) h_tb (cur)
          refine ro_S (n := 1) (As := [.int (nI (bE tb tl cur) - nI (1))]) (rest := []) ⟨hx, hb, hml, hown, hts⟩ (c_X2_isLetter l D ci (wTp ci a tl tb (q4 (nI (srt tb tl p)) (nI ((stt tb tl p))) (nI (cur)) (nI (0)))) (enS D (ci 0) G ka adK adV fx) (bE tb tl cur) hE (by omega)) gX2_advance_X2_isLetter rfl ⟨rfl, rfl⟩ (by decide +kernel) rfl ⟨Nat.le_of_ble_eq_true rfl, Nat.le_of_ble_eq_true rfl⟩ hE (enS_S hGA hs0 hS) hK hP hl.1 rfl (Nat.le_of_ble_eq_true rfl) dX2_advance_118 ⟨Nat.zero_le _, Nat.zero_le _⟩ ?_
          refine nv_ifeq_b (tgt := 137) hx hb dX2_advance_121 (by decide) (fun c10 => ?_) (fun c10 => ?_)
          · obtain rfl : cur = aft tb tl p := I91_e h_i (Or.inr (Or.inr c10))
            exact L137 _ (aft tb tl p) (0) (Nat.lt_succ_self _) f_a (by omega) I137_0  _ _ hP hS ls (lv_sub hl [0] rfl)
          · refine lv_aload_n hx hb dX2_advance_124 rfl (lv_at hl 0 rfl) ?_
            refine lv_dup hx hb dX2_advance_125 rfl ?_
            refine va_get (D := D) (ci := 2) (v := .int (nI cur)) (C := RX2) (T := TX2) (N := 6) hx hb hts hinX2 hown hK hP 0 rfl rfl 4 (by decide) (hts (.fieldLink RX2 25 "OneShort$Tape" "next" "I") (List.mem_of_getElem? (i := 1) rfl)) (fun _ h9 => h9) rfl dX2_advance_126 ?_
            refine lv_iconst (v := nI (1)) hx hb dX2_advance_129 (by decide) ?_
            refine nv_iadd hx hb dX2_advance_130 ?_
            refine va_put (D := D) (ci := 2) (v := .int (nI ((cur + 1)))) (ty := .int) (C := RX2) (T := TX2) (N := 6) hx hb hts hinX2 tyX2 tyX2_ok nmX2 hown hK hP hD hS 0 rfl rfl 4 (by decide) (hts (.fieldLink RX2 25 "OneShort$Tape" "next" "I") (List.mem_of_getElem? (i := 1) rfl)) (fun _ h9 => h9) rfl (by decide +kernel) rfl rfl (Nat.le_of_ble_eq_true rfl) dX2_advance_131 (fun H locs hP hD hS => ?_)
            have hP : va_P D vwCl (wTp ci a tl tb (q4 (nI (srt tb tl p)) (nI ((stt tb tl p))) (nI ((cur + 1))) (nI (0)))) H := va_P.re (wTq_2 ci a tl tb (nI (srt tb tl p)) (nI ((stt tb tl p))) (nI (cur)) (nI (0)) (nI ((cur + 1)))) hP
            have hD : va_D (aT a) (wTp ci a tl tb (q4 (nI (srt tb tl p)) (nI ((stt tb tl p))) (nI ((cur + 1))) (nI (0)))) := wTp_D hI
            refine lv_goto (tgt := 91) hx hb dX2_advance_134 (by decide) ?_
            exact ih91 (cur + 1) (by omega) (by omega) (I91_s h_i c8 (by omega) c10)  _ _ hP hS ls (lv_sub hl [0] rfl)
  have L0 : ∀ (k0 : Nat) (cur : Nat), tl - cur < k0 → (cur ≤ tl) → (ext (blk tb tl) (121 - cur) cur = stt tb tl p) → ∀ (H : Heap) (locs : List Loc), va_P D vwCl (wTp ci a tl tb (q4 (x0) (x1) (nI (cur)) (x3))) H → va_S (aT a) s.heap H locs → ∀ ls : Array Slot, lv_has ls 1 [(0, .ref (a 0))] → W pg l e (headSpec wsX2_advance ({ frames := 2, cells := 0, slots := 0, locals := 40 } : Room)).room s m ([.ref (a 0)] : List Value).toArray below meth c H locs 0 0 (MQ below (mu_Q (aT a) (none) (fun H => va_P D vwCl ((wTp ci a tl tb (tkq tb tl p))) H)) ([.ref (a 0)] : List Value).toArray s 0 0 (aT a)) (F0 m 0 ls []) := by
    intro k0
    induction k0 with
    | zero => intro cur h0; exact absurd h0 (Nat.not_lt_zero _)
    | succ k0 ih0 =>
      intro cur hk0 h_c h_e    H locs hP hS ls hl
      have hD : va_D (aT a) (wTp ci a tl tb (q4 (x0) (x1) (nI (cur)) (x3))) := wTp_D hI
      refine lv_aload_n hx hb dX2_advance_0 rfl (lv_at hl 0 rfl) ?_
      refine va_get (D := D) (ci := 2) (v := .int (nI cur)) (C := RX2) (T := TX2) (N := 6) hx hb hts hinX2 hown hK hP 0 rfl rfl 4 (by decide) (hts (.fieldLink RX2 25 "OneShort$Tape" "next" "I") (List.mem_of_getElem? (i := 1) rfl)) (fun _ h9 => h9) rfl dX2_advance_1 ?_
      refine lv_aload_n hx hb dX2_advance_4 rfl (lv_at hl 0 rfl) ?_
      refine va_get (D := D) (ci := 2) (v := .int (nI tl)) (C := RX2) (T := TX2) (N := 6) hx hb hts hinX2 hown hK hP 0 rfl rfl 0 (by decide) (hts (.fieldLink RX2 9 "OneShort$Tape" "length" "I") (List.mem_of_getElem? (i := 2) rfl)) (fun _ h9 => h9) rfl dX2_advance_5 ?_
      refine nv_icmp_ge (tgt := 37) hx hb (by omega) (by omega) dX2_advance_8 (by decide) (fun c11 => ?_) (fun c11 => ?_)
      · obtain rfl : cur = stt tb tl p := ext_e (blk_n (tb := tb) (tl := tl) (Or.inl c11)) h_e
        refine lv_aload_n hx hb dX2_advance_37 rfl (lv_at hl 0 rfl) ?_
        refine lv_aload_n hx hb dX2_advance_38 rfl (lv_at hl 0 rfl) ?_
        refine va_get (D := D) (ci := 2) (v := .int (nI ((stt tb tl p)))) (C := RX2) (T := TX2) (N := 6) hx hb hts hinX2 hown hK hP 0 rfl rfl 4 (by decide) (hts (.fieldLink RX2 25 "OneShort$Tape" "next" "I") (List.mem_of_getElem? (i := 1) rfl)) (fun _ h9 => h9) rfl dX2_advance_39 ?_
        refine va_put (D := D) (ci := 2) (v := .int (nI ((stt tb tl p)))) (ty := .int) (C := RX2) (T := TX2) (N := 6) hx hb hts hinX2 tyX2 tyX2_ok nmX2 hown hK hP hD hS 0 rfl rfl 3 (by decide) (hts (.fieldLink RX2 22 "OneShort$Tape" "start" "I") (List.mem_of_getElem? (i := 3) rfl)) (fun _ h9 => h9) rfl (by decide +kernel) rfl rfl (Nat.le_of_ble_eq_true rfl) dX2_advance_42 (fun H locs hP hD hS => ?_)
        have hP : va_P D vwCl (wTp ci a tl tb (q4 (x0) (nI ((stt tb tl p))) (nI ((stt tb tl p))) (x3))) H := va_P.re (wTq_1 ci a tl tb (x0) (x1) (nI ((stt tb tl p))) (x3) (nI ((stt tb tl p)))) hP
        have hD : va_D (aT a) (wTp ci a tl tb (q4 (x0) (nI ((stt tb tl p))) (nI ((stt tb tl p))) (x3))) := wTp_D hI
        refine lv_aload_n hx hb dX2_advance_45 rfl (lv_at hl 0 rfl) ?_
        refine lv_iconst (v := nI (0)) hx hb dX2_advance_46 (by decide) ?_
        refine va_put (D := D) (ci := 2) (v := .int (nI 0)) (ty := .int) (C := RX2) (T := TX2) (N := 6) hx hb hts hinX2 tyX2 tyX2_ok nmX2 hown hK hP hD hS 0 rfl rfl 5 (by decide) (hts (.fieldLink RX2 28 "OneShort$Tape" "value" "I") (List.mem_of_getElem? (i := 4) rfl)) (fun _ h9 => h9) rfl (by decide +kernel) rfl rfl (Nat.le_of_ble_eq_true rfl) dX2_advance_47 (fun H locs hP hD hS => ?_)
        have hP : va_P D vwCl (wTp ci a tl tb (q4 (x0) (nI ((stt tb tl p))) (nI ((stt tb tl p))) (nI (0)))) H := va_P.re (wTq_3 ci a tl tb (x0) (nI ((stt tb tl p))) (nI ((stt tb tl p))) (x3) (nI (0))) hP
        have hD : va_D (aT a) (wTp ci a tl tb (q4 (x0) (nI ((stt tb tl p))) (nI ((stt tb tl p))) (nI (0)))) := wTp_D hI
        refine lv_aload_n hx hb dX2_advance_50 rfl (lv_at hl 0 rfl) ?_
        refine lv_aload_n hx hb dX2_advance_51 rfl (lv_at hl 0 rfl) ?_
        refine lv_aload_n hx hb dX2_advance_52 rfl (lv_at hl 0 rfl) ?_
        refine va_get (D := D) (ci := 2) (v := .int (nI ((stt tb tl p)))) (C := RX2) (T := TX2) (N := 6) hx hb hts hinX2 hown hK hP 0 rfl rfl 3 (by decide) (hts (.fieldLink RX2 22 "OneShort$Tape" "start" "I") (List.mem_of_getElem? (i := 3) rfl)) (fun _ h9 => h9) rfl dX2_advance_53 ?_
        refine ro_V (n := 1) (As := [.int (nI ((stt tb tl p)))]) (rest := [.ref (a 0)]) ⟨hx, hb, hml, hown, hts⟩ (c_X2_byteAt l D ci G ka adK adV fx a tl tb (x0) (nI ((stt tb tl p))) (nI ((stt tb tl p))) (nI (0)) ((stt tb tl p)) h_tl h_tb (by omega)) gX2_advance_X2_byteAt rfl ⟨rfl, rfl⟩ (by decide +kernel) rfl ⟨Nat.le_of_ble_eq_true rfl, Nat.le_of_ble_eq_true rfl⟩ hE (enS_S hGA hs0 hS) hK hP (ci := 2) (q0 := 0) rfl rfl hl.1 rfl (Nat.le_of_ble_eq_true rfl) dX2_advance_56 ⟨Nat.zero_le _, Nat.zero_le _⟩ ?_
        have f12 := bE_le (tl := tl) h_tb ((stt tb tl p))
        refine ro_S (n := 1) (As := [.int (nI (bE tb tl (stt tb tl p)) - nI (1))]) (rest := [.ref (a 0)]) ⟨hx, hb, hml, hown, hts⟩ (c_X2_sortBegunBy l D ci (wTp ci a tl tb (q4 (x0) (nI ((stt tb tl p))) (nI ((stt tb tl p))) (nI (0)))) (enS D (ci 0) G ka adK adV fx) (bE tb tl (stt tb tl p)) hE (by omega)) gX2_advance_X2_sortBegunBy rfl ⟨rfl, rfl⟩ (by decide +kernel) rfl ⟨Nat.le_of_ble_eq_true rfl, Nat.le_of_ble_eq_true rfl⟩ hE (enS_S hGA hs0 hS) hK hP hl.1 rfl (Nat.le_of_ble_eq_true rfl) dX2_advance_59 ⟨Nat.zero_le _, Nat.zero_le _⟩ ?_
        have f13 := srtB_le (bE tb tl (stt tb tl p))
        have f14 := srt_le (tb := tb) (tl := tl) p
        refine nv_cv (show nI (srtB (bE tb tl (stt tb tl p))) = nI (srt tb tl p) from rfl) ?_
        refine va_put (D := D) (ci := 2) (v := .int (nI (srt tb tl p))) (ty := .int) (C := RX2) (T := TX2) (N := 6) hx hb hts hinX2 tyX2 tyX2_ok nmX2 hown hK hP hD hS 0 rfl rfl 2 (by decide) (hts (.fieldLink RX2 19 "OneShort$Tape" "sort" "I") (List.mem_of_getElem? (i := 5) rfl)) (fun _ h9 => h9) rfl (by decide +kernel) rfl rfl (Nat.le_of_ble_eq_true rfl) dX2_advance_62 (fun H locs hP hD hS => ?_)
        have hP : va_P D vwCl (wTp ci a tl tb (q4 (nI (srt tb tl p)) (nI ((stt tb tl p))) (nI ((stt tb tl p))) (nI (0)))) H := va_P.re (wTq_0 ci a tl tb (x0) (nI ((stt tb tl p))) (nI ((stt tb tl p))) (nI (0)) (nI (srt tb tl p))) hP
        have hD : va_D (aT a) (wTp ci a tl tb (q4 (nI (srt tb tl p)) (nI ((stt tb tl p))) (nI ((stt tb tl p))) (nI (0)))) := wTp_D hI
        refine lv_aload_n hx hb dX2_advance_65 rfl (lv_at hl 0 rfl) ?_
        refine va_get (D := D) (ci := 2) (v := .int (nI (srt tb tl p))) (C := RX2) (T := TX2) (N := 6) hx hb hts hinX2 hown hK hP 0 rfl rfl 2 (by decide) (hts (.fieldLink RX2 19 "OneShort$Tape" "sort" "I") (List.mem_of_getElem? (i := 5) rfl)) (fun _ h9 => h9) rfl dX2_advance_66 ?_
        refine lv_iconst (v := nI (3)) hx hb dX2_advance_69 (by decide) ?_
        refine nv_icmp_eq (tgt := 81) hx hb (by omega) (by omega) dX2_advance_70 (by decide) (fun c15 => ?_) (fun c15 => ?_)
        · refine lv_aload_n hx hb dX2_advance_81 rfl (lv_at hl 0 rfl) ?_
          refine lv_dup hx hb dX2_advance_82 rfl ?_
          refine va_get (D := D) (ci := 2) (v := .int (nI ((stt tb tl p)))) (C := RX2) (T := TX2) (N := 6) hx hb hts hinX2 hown hK hP 0 rfl rfl 4 (by decide) (hts (.fieldLink RX2 25 "OneShort$Tape" "next" "I") (List.mem_of_getElem? (i := 1) rfl)) (fun _ h9 => h9) rfl dX2_advance_83 ?_
          refine lv_iconst (v := nI (1)) hx hb dX2_advance_86 (by decide) ?_
          refine nv_iadd hx hb dX2_advance_87 ?_
          refine va_put (D := D) (ci := 2) (v := .int (nI (((stt tb tl p) + 1)))) (ty := .int) (C := RX2) (T := TX2) (N := 6) hx hb hts hinX2 tyX2 tyX2_ok nmX2 hown hK hP hD hS 0 rfl rfl 4 (by decide) (hts (.fieldLink RX2 25 "OneShort$Tape" "next" "I") (List.mem_of_getElem? (i := 1) rfl)) (fun _ h9 => h9) rfl (by decide +kernel) rfl rfl (Nat.le_of_ble_eq_true rfl) dX2_advance_88 (fun H locs hP hD hS => ?_)
          have hP : va_P D vwCl (wTp ci a tl tb (q4 (nI (srt tb tl p)) (nI ((stt tb tl p))) (nI (((stt tb tl p) + 1))) (nI (0)))) H := va_P.re (wTq_2 ci a tl tb (nI (srt tb tl p)) (nI ((stt tb tl p))) (nI ((stt tb tl p))) (nI (0)) (nI (((stt tb tl p) + 1)))) hP
          have hD : va_D (aT a) (wTp ci a tl tb (q4 (nI (srt tb tl p)) (nI ((stt tb tl p))) (nI (((stt tb tl p) + 1))) (nI (0)))) := wTp_D hI
          exact L91 _ (((stt tb tl p) + 1)) (Nat.lt_succ_self _) (by first | omega | (have := srt_lt (tb := tb) (tl := tl) (p := p) (by omega); omega)) (by first | exact I91_a (Or.inl c15) | exact I91_a (Or.inr c15) | exact I91_b c11 c15)  _ _ hP hS ls (lv_sub hl [0] rfl)
        · refine lv_aload_n hx hb dX2_advance_73 rfl (lv_at hl 0 rfl) ?_
          refine va_get (D := D) (ci := 2) (v := .int (nI (srt tb tl p))) (C := RX2) (T := TX2) (N := 6) hx hb hts hinX2 hown hK hP 0 rfl rfl 2 (by decide) (hts (.fieldLink RX2 19 "OneShort$Tape" "sort" "I") (List.mem_of_getElem? (i := 5) rfl)) (fun _ h9 => h9) rfl dX2_advance_74 ?_
          refine lv_iconst (v := nI (4)) hx hb dX2_advance_77 (by decide) ?_
          refine nv_icmp_ne (tgt := 91) hx hb (by omega) (by omega) dX2_advance_78 (by decide) (fun c16 => ?_) (fun c16 => ?_)
          · exact L91 _ ((stt tb tl p)) (Nat.lt_succ_self _) (by first | omega | (have := srt_lt (tb := tb) (tl := tl) (p := p) (by omega); omega)) (by first | exact I91_a (Or.inl c16) | exact I91_a (Or.inr c16) | exact I91_b c15 c16)  _ _ hP hS ls (lv_sub hl [0] rfl)
          · refine lv_aload_n hx hb dX2_advance_81 rfl (lv_at hl 0 rfl) ?_
            refine lv_dup hx hb dX2_advance_82 rfl ?_
            refine va_get (D := D) (ci := 2) (v := .int (nI ((stt tb tl p)))) (C := RX2) (T := TX2) (N := 6) hx hb hts hinX2 hown hK hP 0 rfl rfl 4 (by decide) (hts (.fieldLink RX2 25 "OneShort$Tape" "next" "I") (List.mem_of_getElem? (i := 1) rfl)) (fun _ h9 => h9) rfl dX2_advance_83 ?_
            refine lv_iconst (v := nI (1)) hx hb dX2_advance_86 (by decide) ?_
            refine nv_iadd hx hb dX2_advance_87 ?_
            refine va_put (D := D) (ci := 2) (v := .int (nI (((stt tb tl p) + 1)))) (ty := .int) (C := RX2) (T := TX2) (N := 6) hx hb hts hinX2 tyX2 tyX2_ok nmX2 hown hK hP hD hS 0 rfl rfl 4 (by decide) (hts (.fieldLink RX2 25 "OneShort$Tape" "next" "I") (List.mem_of_getElem? (i := 1) rfl)) (fun _ h9 => h9) rfl (by decide +kernel) rfl rfl (Nat.le_of_ble_eq_true rfl) dX2_advance_88 (fun H locs hP hD hS => ?_)
            have hP : va_P D vwCl (wTp ci a tl tb (q4 (nI (srt tb tl p)) (nI ((stt tb tl p))) (nI (((stt tb tl p) + 1))) (nI (0)))) H := va_P.re (wTq_2 ci a tl tb (nI (srt tb tl p)) (nI ((stt tb tl p))) (nI ((stt tb tl p))) (nI (0)) (nI (((stt tb tl p) + 1)))) hP
            have hD : va_D (aT a) (wTp ci a tl tb (q4 (nI (srt tb tl p)) (nI ((stt tb tl p))) (nI (((stt tb tl p) + 1))) (nI (0)))) := wTp_D hI
            exact L91 _ (((stt tb tl p) + 1)) (Nat.lt_succ_self _) (by first | omega | (have := srt_lt (tb := tb) (tl := tl) (p := p) (by omega); omega)) (by first | exact I91_a (Or.inl c16) | exact I91_a (Or.inr c16) | exact I91_b c15 c16)  _ _ hP hS ls (lv_sub hl [0] rfl)
      · refine lv_aload_n hx hb dX2_advance_11 rfl (lv_at hl 0 rfl) ?_
        refine lv_aload_n hx hb dX2_advance_12 rfl (lv_at hl 0 rfl) ?_
        refine va_get (D := D) (ci := 2) (v := .int (nI cur)) (C := RX2) (T := TX2) (N := 6) hx hb hts hinX2 hown hK hP 0 rfl rfl 4 (by decide) (hts (.fieldLink RX2 25 "OneShort$Tape" "next" "I") (List.mem_of_getElem? (i := 1) rfl)) (fun _ h9 => h9) rfl dX2_advance_13 ?_
        refine ro_V (n := 1) (As := [.int (nI cur)]) (rest := []) ⟨hx, hb, hml, hown, hts⟩ (c_X2_byteAt l D ci G ka adK adV fx a tl tb (x0) (x1) (nI (cur)) (x3) (cur) h_tl h_tb (by omega)) gX2_advance_X2_byteAt rfl ⟨rfl, rfl⟩ (by decide +kernel) rfl ⟨Nat.le_of_ble_eq_true rfl, Nat.le_of_ble_eq_true rfl⟩ hE (enS_S hGA hs0 hS) hK hP (ci := 2) (q0 := 0) rfl rfl hl.1 rfl (Nat.le_of_ble_eq_true rfl) dX2_advance_16 ⟨Nat.zero_le _, Nat.zero_le _⟩ ?_
        have f17 := bE_le (tl := tl) h_tb (cur)
        refine lv_bipush (v := nI (32)) hx hb dX2_advance_19 (by decide) ?_
        refine nv_icmp_ne_DN (tgt := 37) hx hb (by omega) (by omega) dX2_advance_21 (by decide) (fun c18 => ?_) (fun c18 => ?_)
        · obtain rfl : cur = stt tb tl p := ext_e (blk_n (tb := tb) (tl := tl) (Or.inr c18)) h_e
          refine lv_aload_n hx hb dX2_advance_37 rfl (lv_at hl 0 rfl) ?_
          refine lv_aload_n hx hb dX2_advance_38 rfl (lv_at hl 0 rfl) ?_
          refine va_get (D := D) (ci := 2) (v := .int (nI ((stt tb tl p)))) (C := RX2) (T := TX2) (N := 6) hx hb hts hinX2 hown hK hP 0 rfl rfl 4 (by decide) (hts (.fieldLink RX2 25 "OneShort$Tape" "next" "I") (List.mem_of_getElem? (i := 1) rfl)) (fun _ h9 => h9) rfl dX2_advance_39 ?_
          refine va_put (D := D) (ci := 2) (v := .int (nI ((stt tb tl p)))) (ty := .int) (C := RX2) (T := TX2) (N := 6) hx hb hts hinX2 tyX2 tyX2_ok nmX2 hown hK hP hD hS 0 rfl rfl 3 (by decide) (hts (.fieldLink RX2 22 "OneShort$Tape" "start" "I") (List.mem_of_getElem? (i := 3) rfl)) (fun _ h9 => h9) rfl (by decide +kernel) rfl rfl (Nat.le_of_ble_eq_true rfl) dX2_advance_42 (fun H locs hP hD hS => ?_)
          have hP : va_P D vwCl (wTp ci a tl tb (q4 (x0) (nI ((stt tb tl p))) (nI ((stt tb tl p))) (x3))) H := va_P.re (wTq_1 ci a tl tb (x0) (x1) (nI ((stt tb tl p))) (x3) (nI ((stt tb tl p)))) hP
          have hD : va_D (aT a) (wTp ci a tl tb (q4 (x0) (nI ((stt tb tl p))) (nI ((stt tb tl p))) (x3))) := wTp_D hI
          refine lv_aload_n hx hb dX2_advance_45 rfl (lv_at hl 0 rfl) ?_
          refine lv_iconst (v := nI (0)) hx hb dX2_advance_46 (by decide) ?_
          refine va_put (D := D) (ci := 2) (v := .int (nI 0)) (ty := .int) (C := RX2) (T := TX2) (N := 6) hx hb hts hinX2 tyX2 tyX2_ok nmX2 hown hK hP hD hS 0 rfl rfl 5 (by decide) (hts (.fieldLink RX2 28 "OneShort$Tape" "value" "I") (List.mem_of_getElem? (i := 4) rfl)) (fun _ h9 => h9) rfl (by decide +kernel) rfl rfl (Nat.le_of_ble_eq_true rfl) dX2_advance_47 (fun H locs hP hD hS => ?_)
          have hP : va_P D vwCl (wTp ci a tl tb (q4 (x0) (nI ((stt tb tl p))) (nI ((stt tb tl p))) (nI (0)))) H := va_P.re (wTq_3 ci a tl tb (x0) (nI ((stt tb tl p))) (nI ((stt tb tl p))) (x3) (nI (0))) hP
          have hD : va_D (aT a) (wTp ci a tl tb (q4 (x0) (nI ((stt tb tl p))) (nI ((stt tb tl p))) (nI (0)))) := wTp_D hI
          refine lv_aload_n hx hb dX2_advance_50 rfl (lv_at hl 0 rfl) ?_
          refine lv_aload_n hx hb dX2_advance_51 rfl (lv_at hl 0 rfl) ?_
          refine lv_aload_n hx hb dX2_advance_52 rfl (lv_at hl 0 rfl) ?_
          refine va_get (D := D) (ci := 2) (v := .int (nI ((stt tb tl p)))) (C := RX2) (T := TX2) (N := 6) hx hb hts hinX2 hown hK hP 0 rfl rfl 3 (by decide) (hts (.fieldLink RX2 22 "OneShort$Tape" "start" "I") (List.mem_of_getElem? (i := 3) rfl)) (fun _ h9 => h9) rfl dX2_advance_53 ?_
          refine ro_V (n := 1) (As := [.int (nI ((stt tb tl p)))]) (rest := [.ref (a 0)]) ⟨hx, hb, hml, hown, hts⟩ (c_X2_byteAt l D ci G ka adK adV fx a tl tb (x0) (nI ((stt tb tl p))) (nI ((stt tb tl p))) (nI (0)) ((stt tb tl p)) h_tl h_tb (by omega)) gX2_advance_X2_byteAt rfl ⟨rfl, rfl⟩ (by decide +kernel) rfl ⟨Nat.le_of_ble_eq_true rfl, Nat.le_of_ble_eq_true rfl⟩ hE (enS_S hGA hs0 hS) hK hP (ci := 2) (q0 := 0) rfl rfl hl.1 rfl (Nat.le_of_ble_eq_true rfl) dX2_advance_56 ⟨Nat.zero_le _, Nat.zero_le _⟩ ?_
          have f19 := bE_le (tl := tl) h_tb ((stt tb tl p))
          refine ro_S (n := 1) (As := [.int (nI (bE tb tl (stt tb tl p)) - nI (1))]) (rest := [.ref (a 0)]) ⟨hx, hb, hml, hown, hts⟩ (c_X2_sortBegunBy l D ci (wTp ci a tl tb (q4 (x0) (nI ((stt tb tl p))) (nI ((stt tb tl p))) (nI (0)))) (enS D (ci 0) G ka adK adV fx) (bE tb tl (stt tb tl p)) hE (by omega)) gX2_advance_X2_sortBegunBy rfl ⟨rfl, rfl⟩ (by decide +kernel) rfl ⟨Nat.le_of_ble_eq_true rfl, Nat.le_of_ble_eq_true rfl⟩ hE (enS_S hGA hs0 hS) hK hP hl.1 rfl (Nat.le_of_ble_eq_true rfl) dX2_advance_59 ⟨Nat.zero_le _, Nat.zero_le _⟩ ?_
          have f20 := srtB_le (bE tb tl (stt tb tl p))
          have f21 := srt_le (tb := tb) (tl := tl) p
          refine nv_cv (show nI (srtB (bE tb tl (stt tb tl p))) = nI (srt tb tl p) from rfl) ?_
          refine va_put (D := D) (ci := 2) (v := .int (nI (srt tb tl p))) (ty := .int) (C := RX2) (T := TX2) (N := 6) hx hb hts hinX2 tyX2 tyX2_ok nmX2 hown hK hP hD hS 0 rfl rfl 2 (by decide) (hts (.fieldLink RX2 19 "OneShort$Tape" "sort" "I") (List.mem_of_getElem? (i := 5) rfl)) (fun _ h9 => h9) rfl (by decide +kernel) rfl rfl (Nat.le_of_ble_eq_true rfl) dX2_advance_62 (fun H locs hP hD hS => ?_)
          have hP : va_P D vwCl (wTp ci a tl tb (q4 (nI (srt tb tl p)) (nI ((stt tb tl p))) (nI ((stt tb tl p))) (nI (0)))) H := va_P.re (wTq_0 ci a tl tb (x0) (nI ((stt tb tl p))) (nI ((stt tb tl p))) (nI (0)) (nI (srt tb tl p))) hP
          have hD : va_D (aT a) (wTp ci a tl tb (q4 (nI (srt tb tl p)) (nI ((stt tb tl p))) (nI ((stt tb tl p))) (nI (0)))) := wTp_D hI
          refine lv_aload_n hx hb dX2_advance_65 rfl (lv_at hl 0 rfl) ?_
          refine va_get (D := D) (ci := 2) (v := .int (nI (srt tb tl p))) (C := RX2) (T := TX2) (N := 6) hx hb hts hinX2 hown hK hP 0 rfl rfl 2 (by decide) (hts (.fieldLink RX2 19 "OneShort$Tape" "sort" "I") (List.mem_of_getElem? (i := 5) rfl)) (fun _ h9 => h9) rfl dX2_advance_66 ?_
          refine lv_iconst (v := nI (3)) hx hb dX2_advance_69 (by decide) ?_
          refine nv_icmp_eq (tgt := 81) hx hb (by omega) (by omega) dX2_advance_70 (by decide) (fun c22 => ?_) (fun c22 => ?_)
          · refine lv_aload_n hx hb dX2_advance_81 rfl (lv_at hl 0 rfl) ?_
            refine lv_dup hx hb dX2_advance_82 rfl ?_
            refine va_get (D := D) (ci := 2) (v := .int (nI ((stt tb tl p)))) (C := RX2) (T := TX2) (N := 6) hx hb hts hinX2 hown hK hP 0 rfl rfl 4 (by decide) (hts (.fieldLink RX2 25 "OneShort$Tape" "next" "I") (List.mem_of_getElem? (i := 1) rfl)) (fun _ h9 => h9) rfl dX2_advance_83 ?_
            refine lv_iconst (v := nI (1)) hx hb dX2_advance_86 (by decide) ?_
            refine nv_iadd hx hb dX2_advance_87 ?_
            refine va_put (D := D) (ci := 2) (v := .int (nI (((stt tb tl p) + 1)))) (ty := .int) (C := RX2) (T := TX2) (N := 6) hx hb hts hinX2 tyX2 tyX2_ok nmX2 hown hK hP hD hS 0 rfl rfl 4 (by decide) (hts (.fieldLink RX2 25 "OneShort$Tape" "next" "I") (List.mem_of_getElem? (i := 1) rfl)) (fun _ h9 => h9) rfl (by decide +kernel) rfl rfl (Nat.le_of_ble_eq_true rfl) dX2_advance_88 (fun H locs hP hD hS => ?_)
            have hP : va_P D vwCl (wTp ci a tl tb (q4 (nI (srt tb tl p)) (nI ((stt tb tl p))) (nI (((stt tb tl p) + 1))) (nI (0)))) H := va_P.re (wTq_2 ci a tl tb (nI (srt tb tl p)) (nI ((stt tb tl p))) (nI ((stt tb tl p))) (nI (0)) (nI (((stt tb tl p) + 1)))) hP
            have hD : va_D (aT a) (wTp ci a tl tb (q4 (nI (srt tb tl p)) (nI ((stt tb tl p))) (nI (((stt tb tl p) + 1))) (nI (0)))) := wTp_D hI
            exact L91 _ (((stt tb tl p) + 1)) (Nat.lt_succ_self _) (by first | omega | (have := srt_lt (tb := tb) (tl := tl) (p := p) (by omega); omega)) (by first | exact I91_a (Or.inl c22) | exact I91_a (Or.inr c22) | exact I91_b c18 c22)  _ _ hP hS ls (lv_sub hl [0] rfl)
          · refine lv_aload_n hx hb dX2_advance_73 rfl (lv_at hl 0 rfl) ?_
            refine va_get (D := D) (ci := 2) (v := .int (nI (srt tb tl p))) (C := RX2) (T := TX2) (N := 6) hx hb hts hinX2 hown hK hP 0 rfl rfl 2 (by decide) (hts (.fieldLink RX2 19 "OneShort$Tape" "sort" "I") (List.mem_of_getElem? (i := 5) rfl)) (fun _ h9 => h9) rfl dX2_advance_74 ?_
            refine lv_iconst (v := nI (4)) hx hb dX2_advance_77 (by decide) ?_
            refine nv_icmp_ne (tgt := 91) hx hb (by omega) (by omega) dX2_advance_78 (by decide) (fun c23 => ?_) (fun c23 => ?_)
            · exact L91 _ ((stt tb tl p)) (Nat.lt_succ_self _) (by first | omega | (have := srt_lt (tb := tb) (tl := tl) (p := p) (by omega); omega)) (by first | exact I91_a (Or.inl c23) | exact I91_a (Or.inr c23) | exact I91_b c22 c23)  _ _ hP hS ls (lv_sub hl [0] rfl)
            · refine lv_aload_n hx hb dX2_advance_81 rfl (lv_at hl 0 rfl) ?_
              refine lv_dup hx hb dX2_advance_82 rfl ?_
              refine va_get (D := D) (ci := 2) (v := .int (nI ((stt tb tl p)))) (C := RX2) (T := TX2) (N := 6) hx hb hts hinX2 hown hK hP 0 rfl rfl 4 (by decide) (hts (.fieldLink RX2 25 "OneShort$Tape" "next" "I") (List.mem_of_getElem? (i := 1) rfl)) (fun _ h9 => h9) rfl dX2_advance_83 ?_
              refine lv_iconst (v := nI (1)) hx hb dX2_advance_86 (by decide) ?_
              refine nv_iadd hx hb dX2_advance_87 ?_
              refine va_put (D := D) (ci := 2) (v := .int (nI (((stt tb tl p) + 1)))) (ty := .int) (C := RX2) (T := TX2) (N := 6) hx hb hts hinX2 tyX2 tyX2_ok nmX2 hown hK hP hD hS 0 rfl rfl 4 (by decide) (hts (.fieldLink RX2 25 "OneShort$Tape" "next" "I") (List.mem_of_getElem? (i := 1) rfl)) (fun _ h9 => h9) rfl (by decide +kernel) rfl rfl (Nat.le_of_ble_eq_true rfl) dX2_advance_88 (fun H locs hP hD hS => ?_)
              have hP : va_P D vwCl (wTp ci a tl tb (q4 (nI (srt tb tl p)) (nI ((stt tb tl p))) (nI (((stt tb tl p) + 1))) (nI (0)))) H := va_P.re (wTq_2 ci a tl tb (nI (srt tb tl p)) (nI ((stt tb tl p))) (nI ((stt tb tl p))) (nI (0)) (nI (((stt tb tl p) + 1)))) hP
              have hD : va_D (aT a) (wTp ci a tl tb (q4 (nI (srt tb tl p)) (nI ((stt tb tl p))) (nI (((stt tb tl p) + 1))) (nI (0)))) := wTp_D hI
              exact L91 _ (((stt tb tl p) + 1)) (Nat.lt_succ_self _) (by first | omega | (have := srt_lt (tb := tb) (tl := tl) (p := p) (by omega); omega)) (by first | exact I91_a (Or.inl c23) | exact I91_a (Or.inr c23) | exact I91_b c22 c23)  _ _ hP hS ls (lv_sub hl [0] rfl)
        · refine lv_aload_n hx hb dX2_advance_24 rfl (lv_at hl 0 rfl) ?_
          refine lv_dup hx hb dX2_advance_25 rfl ?_
          refine va_get (D := D) (ci := 2) (v := .int (nI cur)) (C := RX2) (T := TX2) (N := 6) hx hb hts hinX2 hown hK hP 0 rfl rfl 4 (by decide) (hts (.fieldLink RX2 25 "OneShort$Tape" "next" "I") (List.mem_of_getElem? (i := 1) rfl)) (fun _ h9 => h9) rfl dX2_advance_26 ?_
          refine lv_iconst (v := nI (1)) hx hb dX2_advance_29 (by decide) ?_
          refine nv_iadd hx hb dX2_advance_30 ?_
          refine va_put (D := D) (ci := 2) (v := .int (nI ((cur + 1)))) (ty := .int) (C := RX2) (T := TX2) (N := 6) hx hb hts hinX2 tyX2 tyX2_ok nmX2 hown hK hP hD hS 0 rfl rfl 4 (by decide) (hts (.fieldLink RX2 25 "OneShort$Tape" "next" "I") (List.mem_of_getElem? (i := 1) rfl)) (fun _ h9 => h9) rfl (by decide +kernel) rfl rfl (Nat.le_of_ble_eq_true rfl) dX2_advance_31 (fun H locs hP hD hS => ?_)
          have hP : va_P D vwCl (wTp ci a tl tb (q4 (x0) (x1) (nI ((cur + 1))) (x3))) H := va_P.re (wTq_2 ci a tl tb (x0) (x1) (nI (cur)) (x3) (nI ((cur + 1)))) hP
          have hD : va_D (aT a) (wTp ci a tl tb (q4 (x0) (x1) (nI ((cur + 1))) (x3))) := wTp_D hI
          refine lv_goto (tgt := 0) hx hb dX2_advance_34 (by decide) ?_
          exact ih0 (cur + 1) (by omega) (by omega) (ext_s (blk_y c18) (by omega) h_e)  _ _ hP hS ls (lv_sub hl [0] rfl)
  exact L0 _ (p) (Nat.lt_succ_self _) h_p rfl  _ _ hP hS ls (lv_sub hl [0] rfl)
