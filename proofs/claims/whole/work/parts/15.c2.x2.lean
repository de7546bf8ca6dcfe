/-! walks laid by program -/
set_option maxHeartbeats 4000000 in
set_option maxRecDepth 100000 in
/-- X2_isWord -/
theorem c_X2_isWord (l : Launch) (D : va_G) (ci : Nat → ClassId) (G : Nat → Prop) (ka : Nat) (adK adV : Nat → Nat) (fx : Nat) (a : Nat → Nat) (tl : Nat) (tb : Nat → Nat) (p i : Nat) (h_tl : tl ≤ 120) (h_tb : ∀ k, tb k < 256) (h_p : p ≤ tl) (h_i : i < 12) : Met l yX2_isWord wsX2_isWord ({ frames := 4, cells := 0, slots := 0, locals := 85 } : Room) (va_Pc [.ref (a 0), .ref (adK (i))] (ro_B D (tyL ci) (wTp ci a tl tb (tkq tb tl p)) (enS D (ci 0) G ka adK adV fx))) (ro_Q (some (.int (bI (isW tb tl p i))))) 0 0 (fun _ => False) := by
  refine ro_Met (cc := cX2_isWord) (maxL := 3) (ret := (some .boolean)) [(0, .ref (a 0)), (1, .ref (adK (i)))] (by decide) rfl (Nat.le_of_ble_eq_true rfl) rfl ?_
  intro pg e s m below meth c hx hb hml hr hlocks hts hown hP hK hs ls hl
  have hown : s.vm.findClass RX2 = some m.cls := hown
  have hinX2 : ∀ w ∈ wsX20, w ∈ wsX2_isWord := by decide +kernel
  have hE := hE_S D (ci 0) G ka adK adV fx
  have f_t := tokf (tb := tb) h_p
  refine lv_aload_n hx hb dX2_isWord_0 rfl (lv_at hl 0 rfl) ?_
  refine va_get (D := D) (ci := 2) (v := .int (nI (srt tb tl p))) (C := RX2) (T := TX2) (N := 6) hx hb hts hinX2 hown hK hP 0 rfl rfl 2 (by decide) (hts (.fieldLink RX2 19 "OneShort$Tape" "sort" "I") (List.mem_of_getElem? (i := 1) rfl)) (fun _ h9 => h9) rfl dX2_isWord_1 ?_
  refine lv_iconst (v := nI (1)) hx hb dX2_isWord_4 (by decide) ?_
  refine nv_icmp_ne (tgt := 24) hx hb (by omega) (by omega) dX2_isWord_5 (by decide) (fun c1 => ?_) (fun c1 => ?_)
  · refine lv_iconst (v := nI (0)) hx hb dX2_isWord_24 (by decide) ?_
    refine nv_cv (show nI (0) = bI (isW tb tl p i) from nv_f (isW_f (by first | exact Or.inl c1 | exact Or.inr (Or.inl c1)))) ?_
    exact ro_zret hx hb hr hlocks dX2_isWord_25
  · refine lv_aload_n hx hb dX2_isWord_8 rfl (lv_at hl 0 rfl) ?_
    refine va_get (D := D) (ci := 2) (v := .int (nI (nxt tb tl p))) (C := RX2) (T := TX2) (N := 6) hx hb hts hinX2 hown hK hP 0 rfl rfl 4 (by decide) (hts (.fieldLink RX2 25 "OneShort$Tape" "next" "I") (List.mem_of_getElem? (i := 2) rfl)) (fun _ h9 => h9) rfl dX2_isWord_9 ?_
    refine lv_aload_n hx hb dX2_isWord_12 rfl (lv_at hl 0 rfl) ?_
    refine va_get (D := D) (ci := 2) (v := .int (nI (stt tb tl p))) (C := RX2) (T := TX2) (N := 6) hx hb hts hinX2 hown hK hP 0 rfl rfl 3 (by decide) (hts (.fieldLink RX2 22 "OneShort$Tape" "start" "I") (List.mem_of_getElem? (i := 3) rfl)) (fun _ h9 => h9) rfl dX2_isWord_13 ?_
    refine nv_isub hx hb (by omega) dX2_isWord_16 ?_
    refine lv_aload_n hx hb dX2_isWord_17 rfl (lv_at hl 1 rfl) ?_
    refine ro_VO (n := 0) (As := []) (rest := [.int (nI ((nxt tb tl p - stt tb tl p)))]) ⟨hx, hb, hml, hown, hts⟩ (c_J0_length l D ci (wTp ci a tl tb (tkq tb tl p)) G adK adV fx rfW (i := (i)) (by omega)) gX2_isWord_J0_length_8abf5 rfl ⟨rfl, rfl⟩ (by decide +kernel) rfl ⟨Nat.le_of_ble_eq_true rfl, Nat.le_of_ble_eq_true rfl⟩ (hE_W G adK adV fx rfW) hs.2 hK hP (vk_recv hs.2.1 (by omega) va_S.rf) hl.1 rfl (Nat.le_of_ble_eq_true rfl) dX2_isWord_18 ⟨Nat.zero_le _, Nat.zero_le _⟩ ?_
    have f2 := (wd_len (i) (by omega)).2
    refine nv_icmp_eq (tgt := 26) hx hb (by omega) (by omega) dX2_isWord_21 (by decide) (fun c3 => ?_) (fun c3 => ?_)
    · refine lv_iconst (v := nI (0)) hx hb dX2_isWord_26 (by decide) ?_
      refine lv_istore_n (lv' := [(2, .int (nI 0)), (0, .ref (a 0)), (1, .ref (adK (i)))]) hx hb dX2_isWord_27 rfl hl (by decide) rfl (fun ls hl => ?_)
      have L28 : ∀ (k28 : Nat) (k : Nat), (wd i).length - k < k28 → (k ≤ (wd i).length) → (∀ j, j < k → (fun k => bE tb tl (stt tb tl p + k) != (wd i).getD k 0 + 1) j = false) → ∀ (x2 : Int32), x2 = nI (k) → ∀ ls : Array Slot, lv_has ls 3 [(2, .int (x2)), (0, .ref (a 0)), (1, .ref (adK (i)))] → W pg l e (headSpec wsX2_isWord ({ frames := 4, cells := 0, slots := 0, locals := 85 } : Room)).room s m ([.ref (a 0), .ref (adK (i))] : List Value).toArray below meth c s.heap [] 0 0 (MQ below (ro_Q (some (.int (bI (isW tb tl p i))))) ([.ref (a 0), .ref (adK (i))] : List Value).toArray s 0 0 (fun _ => False)) (F0 m 28 ls []) := by
        intro k28
        induction k28 with
        | zero => intro k h0; exact absurd h0 (Nat.not_lt_zero _)
        | succ k28 ih28 =>
          intro k hk28 h_k h_u x2 e2 ls hl
          subst e2
          refine lv_iload_n hx hb dX2_isWord_28 rfl (lv_at hl 0 rfl) ?_
          refine lv_aload_n hx hb dX2_isWord_29 rfl (lv_at hl 2 rfl) ?_
          refine ro_VO (n := 0) (As := []) (rest := [.int (nI k)]) ⟨hx, hb, hml, hown, hts⟩ (c_J0_length l D ci (wTp ci a tl tb (tkq tb tl p)) G adK adV fx rfW (i := (i)) (by omega)) gX2_isWord_J0_length_8abf5 rfl ⟨rfl, rfl⟩ (by decide +kernel) rfl ⟨Nat.le_of_ble_eq_true rfl, Nat.le_of_ble_eq_true rfl⟩ (hE_W G adK adV fx rfW) hs.2 hK hP (vk_recv hs.2.1 (by omega) va_S.rf) hl.1 rfl (Nat.le_of_ble_eq_true rfl) dX2_isWord_30 ⟨Nat.zero_le _, Nat.zero_le _⟩ ?_
          have f4 := (wd_len (i) (by omega)).2
          refine nv_icmp_ge (tgt := 62) hx hb (by omega) (by omega) dX2_isWord_33 (by decide) (fun c5 => ?_) (fun c5 => ?_)
          · refine lv_iconst (v := nI (1)) hx hb dX2_isWord_62 (by decide) ?_
            refine nv_cv (show nI (1) = bI (isW tb tl p i) from nv_t (isW_t c1 c3 (fun j hj => h_u j (by omega)))) ?_
            exact ro_zret hx hb hr hlocks dX2_isWord_63
          · refine lv_aload_n hx hb dX2_isWord_36 rfl (lv_at hl 1 rfl) ?_
            refine lv_aload_n hx hb dX2_isWord_37 rfl (lv_at hl 1 rfl) ?_
            refine va_get (D := D) (ci := 2) (v := .int (nI (stt tb tl p))) (C := RX2) (T := TX2) (N := 6) hx hb hts hinX2 hown hK hP 0 rfl rfl 3 (by decide) (hts (.fieldLink RX2 22 "OneShort$Tape" "start" "I") (List.mem_of_getElem? (i := 3) rfl)) (fun _ h9 => h9) rfl dX2_isWord_38 ?_
            refine lv_iload_n hx hb dX2_isWord_41 rfl (lv_at hl 0 rfl) ?_
            refine nv_iadd hx hb dX2_isWord_42 ?_
            refine ro_V (n := 1) (As := [.int (nI ((stt tb tl p + k)))]) (rest := []) ⟨hx, hb, hml, hown, hts⟩ (c_X2_byteAt l D ci G ka adK adV fx a tl tb (nI (srt tb tl p)) (nI (stt tb tl p)) (nI (nxt tb tl p)) (nI (vlu tb tl p)) ((stt tb tl p + k)) h_tl h_tb (by omega)) gX2_isWord_X2_byteAt rfl ⟨rfl, rfl⟩ (by decide +kernel) rfl ⟨Nat.le_of_ble_eq_true rfl, Nat.le_of_ble_eq_true rfl⟩ hE hs hK hP (ci := 2) (q0 := 0) rfl rfl hl.1 rfl (Nat.le_of_ble_eq_true rfl) dX2_isWord_43 ⟨Nat.zero_le _, Nat.zero_le _⟩ ?_
            have f6 := bE_le (tl := tl) h_tb ((stt tb tl p + k))
            refine lv_aload_n hx hb dX2_isWord_46 rfl (lv_at hl 2 rfl) ?_
            refine lv_iload_n hx hb dX2_isWord_47 rfl (lv_at hl 0 rfl) ?_
            refine ro_VO (n := 1) (As := [.int (nI k)]) (rest := [.int (nI (bE tb tl (stt tb tl p + k)) - nI (1))]) ⟨hx, hb, hml, hown, hts⟩ (c_J0_charAt l D ci (wTp ci a tl tb (tkq tb tl p)) G adK adV fx rfW (i := (i)) (by omega) (by omega)) gX2_isWord_J0_charAt_5068e rfl ⟨rfl, rfl⟩ (by decide +kernel) rfl ⟨Nat.le_of_ble_eq_true rfl, Nat.le_of_ble_eq_true rfl⟩ (hE_W G adK adV fx rfW) hs.2 hK hP (vk_recv hs.2.1 (by omega) va_S.rf) hl.1 rfl (Nat.le_of_ble_eq_true rfl) dX2_isWord_48 ⟨Nat.zero_le _, Nat.zero_le _⟩ ?_
            have f7 := (wd_byt (i) (by omega) (k) (by omega) (by omega)).2
            refine nv_icmp_eq_DN (tgt := 56) hx hb (by omega) (by omega) dX2_isWord_51 (by decide) (fun c8 => ?_) (fun c8 => ?_)
            · refine nv_iinc1 (lv' := [(2, .int (nI (k + 1))), (0, .ref (a 0)), (1, .ref (adK (i)))]) hx hb dX2_isWord_56 hl (k := 0) rfl (by decide) rfl (fun ls hl => ?_)
              refine lv_goto (tgt := 28) hx hb dX2_isWord_59 (by decide) ?_
              exact ih28 (k + 1) (by omega) (by omega) (all_f h_u (by simpa using c8)) (nI (k + 1)) rfl ls (lv_sub hl [0, 1, 2] rfl)
            · refine lv_iconst (v := nI (0)) hx hb dX2_isWord_54 (by decide) ?_
              refine nv_cv (show nI (0) = bI (isW tb tl p i) from nv_f (isW_f (Or.inr (Or.inr ⟨k, by omega, c8⟩)))) ?_
              exact ro_zret hx hb hr hlocks dX2_isWord_55
      exact L28 _ (0) (Nat.lt_succ_self _) (by omega) (fun _ h => absurd h (Nat.not_lt_zero _)) (nI (0)) rfl ls (lv_sub hl [0, 1, 2] rfl)
    · refine lv_iconst (v := nI (0)) hx hb dX2_isWord_24 (by decide) ?_
      refine nv_cv (show nI (0) = bI (isW tb tl p i) from nv_f (isW_f (by first | exact Or.inl c3 | exact Or.inr (Or.inl c3)))) ?_
      exact ro_zret hx hb hr hlocks dX2_isWord_25

set_option maxHeartbeats 4000000 in
set_option maxRecDepth 100000 in
/-- X2_wordOf -/
theorem c_X2_wordOf (l : Launch) (D : va_G) (ci : Nat → ClassId) (G : Nat → Prop) (ka : Nat) (adK adV : Nat → Nat) (fx : Nat) (a : Nat → Nat) (tl : Nat) (tb : Nat → Nat) (x0 x1 x2 x3 : Int32) (k : Nat) (h_tl : tl ≤ 120) (h_tb : ∀ k, tb k < 256) (h_k : k < 7) : Met l yX2_wordOf wsX2_wordOf ({ frames := 0, cells := 0, slots := 0, locals := 0 } : Room) (va_Pc [.int (nI k)] (ro_B D (tyL ci) (wTp ci a tl tb (q4 (x0) (x1) (x2) (x3))) (enS D (ci 0) G ka adK adV fx))) (ro_Q (some (.ref (adK (k))))) 0 0 (fun _ => False) := by
  refine ro_Met (cc := cX2_wordOf) (maxL := 1) (ret := (some (.object "java/lang/String"))) [(0, .int (nI k))] (by decide) rfl (Nat.le_of_ble_eq_true rfl) rfl ?_
  intro p e s m below meth c hx hb hml hr hlocks hts hown hP hK hs ls hl
  have hown : s.vm.findClass RX2 = some m.cls := hown
  have hE := hE_S D (ci 0) G ka adK adV fx
  refine lv_iload_n hx hb dX2_wordOf_0 rfl (lv_at hl 0 rfl) ?_
  rcases (show k = 1 ∨ k = 2 ∨ k = 3 ∨ k = 4 ∨ k = 5 ∨ k = 6 ∨ (k < 1 ∨ 6 < k) by omega) with t1 | t1 | t1 | t1 | t1 | t1 | t1
  · refine nv_cv (show nI (k) = nI 1 from congrArg nI t1) ?_
    refine lv_tableIn (x := nI 1) (off := 39) (tgt := 40) hx hb dX2_wordOf_1 (by decide) (by decide) (by decide) (by decide) ?_
    refine va_ldcS (tx := "late") (q := adK 1) hx hb hown (hs.2.2.2.2 ("OneShort$Tape", 92, "late", 1) (by decide)) dX2_wordOf_40 ?_
    refine nv_cvv (show Value.ref (adK 1) = Value.ref (adK (k)) from by first | (rw [t1]; done) | (rw [show k = 0 by omega]; done)) ?_
    exact ro_aret hx hb hr (Or.inl ⟨_, rfl⟩) hlocks dX2_wordOf_42
  · refine nv_cv (show nI (k) = nI 2 from congrArg nI t1) ?_
    refine lv_tableIn (x := nI 2) (off := 42) (tgt := 43) hx hb dX2_wordOf_1 (by decide) (by decide) (by decide) (by decide) ?_
    refine va_ldcS (tx := "doubling") (q := adK 2) hx hb hown (hs.2.2.2.2 ("OneShort$Tape", 94, "doubling", 2) (by decide)) dX2_wordOf_43 ?_
    refine nv_cvv (show Value.ref (adK 2) = Value.ref (adK (k)) from by first | (rw [t1]; done) | (rw [show k = 0 by omega]; done)) ?_
    exact ro_aret hx hb hr (Or.inl ⟨_, rfl⟩) hlocks dX2_wordOf_45
  · refine nv_cv (show nI (k) = nI 3 from congrArg nI t1) ?_
    refine lv_tableIn (x := nI 3) (off := 45) (tgt := 46) hx hb dX2_wordOf_1 (by decide) (by decide) (by decide) (by decide) ?_
    refine va_ldcS (tx := "married") (q := adK 3) hx hb hown (hs.2.2.2.2 ("OneShort$Tape", 96, "married", 3) (by decide)) dX2_wordOf_46 ?_
    refine nv_cvv (show Value.ref (adK 3) = Value.ref (adK (k)) from by first | (rw [t1]; done) | (rw [show k = 0 by omega]; done)) ?_
    exact ro_aret hx hb hr (Or.inl ⟨_, rfl⟩) hlocks dX2_wordOf_48
  · refine nv_cv (show nI (k) = nI 4 from congrArg nI t1) ?_
    refine lv_tableIn (x := nI 4) (off := 48) (tgt := 49) hx hb dX2_wordOf_1 (by decide) (by decide) (by decide) (by decide) ?_
    refine va_ldcS (tx := "extra") (q := adK 4) hx hb hown (hs.2.2.2.2 ("OneShort$Tape", 98, "extra", 4) (by decide)) dX2_wordOf_49 ?_
    refine nv_cvv (show Value.ref (adK 4) = Value.ref (adK (k)) from by first | (rw [t1]; done) | (rw [show k = 0 by omega]; done)) ?_
    exact ro_aret hx hb hr (Or.inl ⟨_, rfl⟩) hlocks dX2_wordOf_51
  · refine nv_cv (show nI (k) = nI 5 from congrArg nI t1) ?_
    refine lv_tableIn (x := nI 5) (off := 51) (tgt := 52) hx hb dX2_wordOf_1 (by decide) (by decide) (by decide) (by decide) ?_
    refine va_ldcS (tx := "deaf") (q := adK 5) hx hb hown (hs.2.2.2.2 ("OneShort$Tape", 100, "deaf", 5) (by decide)) dX2_wordOf_52 ?_
    refine nv_cvv (show Value.ref (adK 5) = Value.ref (adK (k)) from by first | (rw [t1]; done) | (rw [show k = 0 by omega]; done)) ?_
    exact ro_aret hx hb hr (Or.inl ⟨_, rfl⟩) hlocks dX2_wordOf_54
  · refine nv_cv (show nI (k) = nI 6 from congrArg nI t1) ?_
    refine lv_tableIn (x := nI 6) (off := 54) (tgt := 55) hx hb dX2_wordOf_1 (by decide) (by decide) (by decide) (by decide) ?_
    refine va_ldcS (tx := "sleeper") (q := adK 6) hx hb hown (hs.2.2.2.2 ("OneShort$Tape", 102, "sleeper", 6) (by decide)) dX2_wordOf_55 ?_
    refine nv_cvv (show Value.ref (adK 6) = Value.ref (adK (k)) from by first | (rw [t1]; done) | (rw [show k = 0 by omega]; done)) ?_
    exact ro_aret hx hb hr (Or.inl ⟨_, rfl⟩) hlocks dX2_wordOf_57
  · refine lv_tableOut (tgt := 58) hx hb dX2_wordOf_1 (by rw [nI_toInt (by omega)]; omega) (by decide) ?_
    refine va_ldcS (tx := "player") (q := adK 0) hx hb hown (hs.2.2.2.2 ("OneShort$Tape", 104, "player", 0) (by decide)) dX2_wordOf_58 ?_
    refine nv_cvv (show Value.ref (adK 0) = Value.ref (adK (k)) from by first | (rw [t1]; done) | (rw [show k = 0 by omega]; done)) ?_
    exact ro_aret hx hb hr (Or.inl ⟨_, rfl⟩) hlocks dX2_wordOf_60

set_option maxHeartbeats 4000000 in
set_option maxRecDepth 100000 in
/-- X2_kindTold -/
theorem c_X2_kindTold (l : Launch) (D : va_G) (ci : Nat → ClassId) (G : Nat → Prop) (ka : Nat) (adK adV : Nat → Nat) (fx : Nat) (a : Nat → Nat) (tl : Nat) (tb : Nat → Nat) (p : Nat) (h_tl : tl ≤ 120) (h_tb : ∀ k, tb k < 256) (h_p : p ≤ tl) : Met l yX2_kindTold wsX2_kindTold ({ frames := 5, cells := 0, slots := 0, locals := 107 } : Room) (va_Pc [.ref (a 0)] (ro_B D (tyL ci) (wTp ci a tl tb (tkq tb tl p)) (enS D (ci 0) G ka adK adV fx))) (ro_Q (some (.int (nI (kT tb tl p) - nI (1))))) 0 0 (fun _ => False) := by
  refine ro_Met (cc := cX2_kindTold) (maxL := 2) (ret := (some .int)) [(0, .ref (a 0))] (by decide) rfl (Nat.le_of_ble_eq_true rfl) rfl ?_
  intro pg e s m below meth c hx hb hml hr hlocks hts hown hP hK hs ls hl
  have hown : s.vm.findClass RX2 = some m.cls := hown
  have hE := hE_S D (ci 0) G ka adK adV fx
  have f_t := tokf (tb := tb) h_p
  refine lv_iconst (v := nI (0)) hx hb dX2_kindTold_0 (by decide) ?_
  refine lv_istore_n (lv' := [(1, .int (nI 0)), (0, .ref (a 0))]) hx hb dX2_kindTold_1 rfl hl (by decide) rfl (fun ls hl => ?_)
  have L2 : ∀ (k2 : Nat) (i : Nat), 7 - i < k2 → (i ≤ 7) → (∀ j, j < i → (fun k => isW tb tl p k) j = false) → ∀ (x1 : Int32), x1 = nI (i) → ∀ ls : Array Slot, lv_has ls 2 [(1, .int (x1)), (0, .ref (a 0))] → W pg l e (headSpec wsX2_kindTold ({ frames := 5, cells := 0, slots := 0, locals := 107 } : Room)).room s m ([.ref (a 0)] : List Value).toArray below meth c s.heap [] 0 0 (MQ below (ro_Q (some (.int (nI (kT tb tl p) - nI (1))))) ([.ref (a 0)] : List Value).toArray s 0 0 (fun _ => False)) (F0 m 2 ls []) := by
    intro k2
    induction k2 with
    | zero => intro i h0; exact absurd h0 (Nat.not_lt_zero _)
    | succ k2 ih2 =>
      intro i hk2 h_i h_u x1 e1 ls hl
      subst e1
      refine lv_iload_n hx hb dX2_kindTold_2 rfl (lv_at hl 0 rfl) ?_
      refine lv_bipush (v := nI (7)) hx hb dX2_kindTold_3 (by decide) ?_
      refine nv_icmp_ge (tgt := 27) hx hb (by omega) (by omega) dX2_kindTold_5 (by decide) (fun c1 => ?_) (fun c1 => ?_)
      · refine lv_iconst (v := -1) hx hb dX2_kindTold_27 (by decide) ?_
        refine nv_cv (show -1 = nI (kT tb tl p) - nI (1) from by rw [kT_no (fun j hj => h_u j (by omega))]; decide) ?_
        exact ro_iret hx hb hr hlocks dX2_kindTold_28
      · refine lv_aload_n hx hb dX2_kindTold_8 rfl (lv_at hl 1 rfl) ?_
        refine lv_iload_n hx hb dX2_kindTold_9 rfl (lv_at hl 0 rfl) ?_
        refine ro_S (n := 1) (As := [.int (nI i)]) (rest := [.ref (a 0)]) ⟨hx, hb, hml, hown, hts⟩ (c_X2_wordOf l D ci G ka adK adV fx a tl tb (nI (srt tb tl p)) (nI (stt tb tl p)) (nI (nxt tb tl p)) (nI (vlu tb tl p)) (i) h_tl h_tb (by omega)) gX2_kindTold_X2_wordOf rfl ⟨rfl, rfl⟩ (by decide +kernel) rfl ⟨Nat.le_of_ble_eq_true rfl, Nat.le_of_ble_eq_true rfl⟩ hE hs hK hP hl.1 rfl (Nat.le_of_ble_eq_true rfl) dX2_kindTold_10 ⟨Nat.zero_le _, Nat.zero_le _⟩ ?_
        refine ro_V (n := 1) (As := [.ref (adK (i))]) (rest := []) ⟨hx, hb, hml, hown, hts⟩ (c_X2_isWord l D ci G ka adK adV fx a tl tb (p) ((i)) h_tl h_tb (by omega) (by omega)) gX2_kindTold_X2_isWord rfl ⟨rfl, rfl⟩ (by decide +kernel) rfl ⟨Nat.le_of_ble_eq_true rfl, Nat.le_of_ble_eq_true rfl⟩ hE hs hK hP (ci := 2) (q0 := 0) rfl rfl hl.1 rfl (Nat.le_of_ble_eq_true rfl) dX2_kindTold_13 ⟨Nat.zero_le _, Nat.zero_le _⟩ ?_
        refine nv_ifeq_b (tgt := 21) hx hb dX2_kindTold_16 (by decide) (fun c2 => ?_) (fun c2 => ?_)
        · refine nv_iinc1 (lv' := [(1, .int (nI (i + 1))), (0, .ref (a 0))]) hx hb dX2_kindTold_21 hl (k := 0) rfl (by decide) rfl (fun ls hl => ?_)
          refine lv_goto (tgt := 2) hx hb dX2_kindTold_24 (by decide) ?_
          exact ih2 (i + 1) (by omega) (by omega) (all_f h_u c2) (nI (i + 1)) rfl ls (lv_sub hl [0, 1] rfl)
        · refine lv_iload_n hx hb dX2_kindTold_19 rfl (lv_at hl 0 rfl) ?_
          refine nv_cv (show nI (i) = nI (kT tb tl p) - nI (1) from by rw [kT_at (by omega) c2 h_u]; exact (nI_pred _).symm) ?_
          exact ro_iret hx hb hr hlocks dX2_kindTold_20
  exact L2 _ (0) (Nat.lt_succ_self _) (by omega) (fun _ h => absurd h (Nat.not_lt_zero _)) (nI (0)) rfl ls (lv_sub hl [0, 1] rfl)

set_option maxHeartbeats 4000000 in
set_option maxRecDepth 100000 in
/-- X2_takeNumber -/
theorem c_X2_takeNumber (l : Launch) (D : va_G) (ci : Nat → ClassId) (G : Nat → Prop) (ka : Nat) (adK adV : Nat → Nat) (fx : Nat) (a : Nat → Nat) (tl : Nat) (tb : Nat → Nat) (hI : injA a 2) (hG : ∀ k, k < 2 → G (a k)) (p mx : Nat) (h_tl : tl ≤ 120) (h_tb : ∀ k, tb k < 256) (h_p : p ≤ tl) (h_m : mx < 1000) : Met l yX2_takeNumber wsX2_takeNumber ({ frames := 3, cells := 0, slots := 0, locals := 60 } : Room) (va_Pc [.ref (a 0), .int (nI mx)] (ro_B D (tyL ci) (wTp ci a tl tb (tkq tb tl p)) (enS D (ci 0) G ka adK adV fx))) (mu_Q (aT a) (some (.int (bI (rNum tb tl p mx)))) (fun H => va_P D vwCl ((wTp ci a tl tb (tkq tb tl (nP tb tl p mx)))) H)) 0 0 (aT a) := by
  refine mu_Met (cc := cX2_takeNumber) (maxL := 2) (ret := (some .boolean)) [(0, .ref (a 0)), (1, .int (nI mx))] (wTp_D hI) (by decide) rfl (Nat.le_of_ble_eq_true rfl) rfl ?_
  intro pg e s m below meth c H locs hx hb hml hr hlocks hts hown hP hK hs0 hD hS ls hl
  have hown : s.vm.findClass RX2 = some m.cls := hown
  have hinX2 : ∀ w ∈ wsX20, w ∈ wsX2_takeNumber := by decide +kernel
  have hE := hE_S D (ci 0) G ka adK adV fx
  have hGA := aT_G hG
  have f_t := tokf (tb := tb) h_p
  refine lv_aload_n hx hb dX2_takeNumber_0 rfl (lv_at hl 0 rfl) ?_
  refine va_get (D := D) (ci := 2) (v := .int (nI (srt tb tl p))) (C := RX2) (T := TX2) (N := 6) hx hb hts hinX2 hown hK hP 0 rfl rfl 2 (by decide) (hts (.fieldLink RX2 19 "OneShort$Tape" "sort" "I") (List.mem_of_getElem? (i := 1) rfl)) (fun _ h9 => h9) rfl dX2_takeNumber_1 ?_
  refine lv_iconst (v := nI (2)) hx hb dX2_takeNumber_4 (by decide) ?_
  refine nv_icmp_ne (tgt := 16) hx hb (by omega) (by omega) dX2_takeNumber_5 (by decide) (fun c1 => ?_) (fun c1 => ?_)
  · refine lv_iconst (v := nI (0)) hx hb dX2_takeNumber_16 (by decide) ?_
    refine nv_cv (show nI (0) = bI (rNum tb tl p mx) from nv_f (by simp [rNum, c1])) ?_
    exact mu_zret hx hb hr hlocks hS ((by first | (rw [nP, if_neg (by simp [rNum, c1])]; exact hP) | (rw [nP, if_pos (by simp [rNum, c1])]; exact hP))) dX2_takeNumber_17
  · refine lv_aload_n hx hb dX2_takeNumber_8 rfl (lv_at hl 0 rfl) ?_
    refine va_get (D := D) (ci := 2) (v := .int (nI (vlu tb tl p))) (C := RX2) (T := TX2) (N := 6) hx hb hts hinX2 hown hK hP 0 rfl rfl 5 (by decide) (hts (.fieldLink RX2 28 "OneShort$Tape" "value" "I") (List.mem_of_getElem? (i := 2) rfl)) (fun _ h9 => h9) rfl dX2_takeNumber_9 ?_
    refine lv_iload_n hx hb dX2_takeNumber_12 rfl (lv_at hl 1 rfl) ?_
    refine nv_icmp_le (tgt := 18) hx hb (by omega) (by omega) dX2_takeNumber_13 (by decide) (fun c2 => ?_) (fun c2 => ?_)
    · refine lv_aload_n hx hb dX2_takeNumber_18 rfl (lv_at hl 0 rfl) ?_
      refine mu_V (n := 0) (As := []) (rest := []) ⟨hx, hb, hml, hown, hts⟩ (c_X2_advance l D ci G ka adK adV fx a tl tb hI hG (nI (srt tb tl p)) (nI (stt tb tl p)) (nI (vlu tb tl p)) (nxt tb tl p) h_tl h_tb (by omega)) gX2_takeNumber_X2_advance rfl ⟨rfl, rfl⟩ (by decide +kernel) rfl ⟨Nat.le_of_ble_eq_true rfl, Nat.le_of_ble_eq_true rfl⟩ hE (enS_S hGA hs0 hS) hK hP (ci := 2) (q0 := 0) rfl rfl hl.1 rfl (Nat.le_of_ble_eq_true rfl) dX2_takeNumber_19 ⟨Nat.zero_le _, Nat.zero_le _⟩ hS (fun _ h => h) (fun H1 locs hz hfr hB hS => ?_)
      have hP : va_P D vwCl (wTp ci a tl tb (tkq tb tl (nxt tb tl p))) H1 := hB
      generalize H1 = H at hP hS ⊢
      have hD : va_D (aT a) (wTp ci a tl tb (tkq tb tl (nxt tb tl p))) := wTp_D hI
      refine lv_iconst (v := nI (1)) hx hb dX2_takeNumber_22 (by decide) ?_
      refine nv_cv (show nI (1) = bI (rNum tb tl p mx) from nv_t (by simp [rNum, c1, c2])) ?_
      exact mu_zret hx hb hr hlocks hS ((by first | (rw [nP, if_neg (by simp [rNum, c1, c2])]; exact hP) | (rw [nP, if_pos (by simp [rNum, c1, c2])]; exact hP))) dX2_takeNumber_23
    · refine lv_iconst (v := nI (0)) hx hb dX2_takeNumber_16 (by decide) ?_
      refine nv_cv (show nI (0) = bI (rNum tb tl p mx) from nv_f (by simp [rNum, c1, c2])) ?_
      exact mu_zret hx hb hr hlocks hS ((by first | (rw [nP, if_neg (by simp [rNum, c1, c2])]; exact hP) | (rw [nP, if_pos (by simp [rNum, c1, c2])]; exact hP))) dX2_takeNumber_17
