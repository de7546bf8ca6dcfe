/-! walks laid by program -/
set_option maxHeartbeats 4000000 in
set_option maxRecDepth 100000 in
/-- X4_byteAt -/
theorem c_X4_byteAt (l : Launch) (D : va_G) (ci : Nat → ClassId) (am : Nat → Nat) (X : AS) (kr : Nat → Int32) (q0 q1 q2 q3 q4 q5 : Int32) (iw : Bool) (kn : Nat → Option Nat) (y0 y1 y2 y3 y4 y5 y6 : Nat → Int32) (hI : injA am 16) (G : Nat → Prop) (adK adV : Nat → Nat) (fx : Nat) (k : Nat) (hGA : ∀ q, aM am q → G q) (h_kn : ∀ j, j < 7 → kn j = some (adK j)) (h_tl : X.2.2.2.2.1 ≤ 120) (h_tb : ∀ k, X.2.2.2.2.2.1 k < 256) (h_k : k < 1000) : Met l yX4_byteAt wsX4_byteAt ({ frames := 0, cells := 0, slots := 0, locals := 0 } : Room) (va_Pc [.ref (am 0), .int (nI k)] (ro_B D (tyL ci) (wN ci am X kr q0 q1 q2 q3 q4 q5 iw kn y0 y1 y2 y3 y4 y5 y6) (enW G adK adV fx rfX))) (ro_Q (some (.int (nI (bE X.2.2.2.2.2.1 X.2.2.2.2.1 k) - nI (1))))) 0 0 (fun _ => False) := by
  refine ro_Met (cc := cX4_byteAt) (maxL := 2) (ret := (some .int)) [(0, .ref (am 0)), (1, .int (nI k))] (by decide) rfl (Nat.le_of_ble_eq_true rfl) rfl ?_
  intro p e s m below meth c hx hb hml hr hlocks hts hown hP hK hs ls hl
  have hown : s.vm.findClass RX4 = some m.cls := hown
  have hinX4 : ∀ w ∈ wsX40, w ∈ wsX4_byteAt := by decide +kernel
  have hE := hE_W G adK adV fx rfX
  refine lv_iload_n hx hb dX4_byteAt_0 rfl (lv_at hl 1 rfl) ?_
  refine lv_aload_n hx hb dX4_byteAt_1 rfl (lv_at hl 0 rfl) ?_
  refine va_get (D := D) (ci := 4) (v := .int (nI (X.2.2.2.2.1))) (C := RX4) (T := TX4) (N := 24) hx hb hts hinX4 hown hK hP 0 rfl rfl 10 (by decide) (hts (.fieldLink RX4 246 "OneShortModel" "taped" "I") (List.mem_of_getElem? (i := 1) rfl)) (fun _ h9 => h9) rfl dX4_byteAt_2 ?_
  refine nv_icmp_ge (tgt := 17) hx hb (by omega) (by omega) dX4_byteAt_5 (by decide) (fun c1 => ?_) (fun c1 => ?_)
  · refine lv_iconst (v := -1) hx hb dX4_byteAt_17 (by decide) ?_
    refine nv_cv (show -1 = nI (bE X.2.2.2.2.2.1 X.2.2.2.2.1 k) - nI (1) from by first | (rw [bE_in (by omega)]; exact (nI_pred _).symm) | (rw [bE_out (by omega)]; decide)) ?_
    exact ro_iret hx hb hr hlocks dX4_byteAt_18
  · refine lv_aload_n hx hb dX4_byteAt_8 rfl (lv_at hl 0 rfl) ?_
    refine va_get (D := D) (ci := 4) (v := .ref (am 9)) (C := RX4) (T := TX4) (N := 24) hx hb hts hinX4 hown hK hP 0 rfl rfl 9 (by decide) (hts (.fieldLink RX4 34 "OneShortModel" "tape" "[I") (List.mem_of_getElem? (i := 2) rfl)) (fun _ h9 => h9) rfl dX4_byteAt_9 ?_
    refine lv_iload_n hx hb dX4_byteAt_12 rfl (lv_at hl 1 rfl) ?_
    refine nv_iald (v := nI (X.2.2.2.2.2.1 (k))) hx hb hK hP 9 0 rfl rfl (by omega) (by decide) rfl dX4_byteAt_13 ?_
    refine lv_goto (tgt := 18) hx hb dX4_byteAt_14 (by decide) ?_
    refine nv_cv (show nI (X.2.2.2.2.2.1 (k)) = nI (bE X.2.2.2.2.2.1 X.2.2.2.2.1 k) - nI (1) from by first | (rw [bE_in (by omega)]; exact (nI_pred _).symm) | (rw [bE_out (by omega)]; decide)) ?_
    exact ro_iret hx hb hr hlocks dX4_byteAt_18

set_option maxHeartbeats 4000000 in
set_option maxRecDepth 100000 in
/-- X4_next -/
theorem c_X4_next (l : Launch) (D : va_G) (ci : Nat → ClassId) (am : Nat → Nat) (X : AS) (kr : Nat → Int32) (q0 q1 q2 q3 q4 q5 : Int32) (iw : Bool) (kn : Nat → Option Nat) (y0 y1 y2 y3 y4 y5 y6 : Nat → Int32) (hI : injA am 16) (G : Nat → Prop) (adK adV : Nat → Nat) (fx : Nat) (p : Nat) (hGA : ∀ q, aM am q → G q) (h_kn : ∀ j, j < 7 → kn j = some (adK j)) (h_tl : X.2.2.2.2.1 ≤ 120) (h_tb : ∀ k, X.2.2.2.2.2.1 k < 256) (h_p : p ≤ X.2.2.2.2.1) : Met l yX4_next wsX4_next ({ frames := 1, cells := 0, slots := 0, locals := 40 } : Room) (va_Pc [.ref (am 0)] (ro_B D (tyL ci) (wN ci am X kr q0 (nI (p)) q2 q3 q4 q5 iw kn y0 y1 y2 y3 y4 y5 y6) (enW G adK adV fx rfX))) (mu_Q (aM am) (none) (fun H => va_P D vwCl (wN ci am X kr (nI (stt X.2.2.2.2.2.1 X.2.2.2.2.1 p)) (nI (nxt X.2.2.2.2.2.1 X.2.2.2.2.1 p)) (nI (min (srt X.2.2.2.2.2.1 X.2.2.2.2.1 p) 3)) (nI (vlu X.2.2.2.2.2.1 X.2.2.2.2.1 p)) q4 q5 iw kn y0 y1 y2 y3 y4 y5 y6) H)) 0 0 (aM am) := by
  refine mu_Met (cc := cX4_next) (maxL := 2) (ret := none) [(0, .ref (am 0))] (wN_D hI) (by decide) rfl (Nat.le_of_ble_eq_true rfl) rfl ?_
  intro pg e s m below meth c H locs hx hb hml hr hlocks hts hown hP hK hs0 hD hS ls hl
  have hown : s.vm.findClass RX4 = some m.cls := hown
  have hinX4 : ∀ w ∈ wsX40, w ∈ wsX4_next := by decide +kernel
  have hE := hE_W G adK adV fx rfX
  have f_t := tokf (tb := X.2.2.2.2.2.1) (tl := X.2.2.2.2.1) h_p
  refine lv_aload_n hx hb dX4_next_0 rfl (lv_at hl 0 rfl) ?_
  refine lv_aload_n hx hb dX4_next_1 rfl (lv_at hl 0 rfl) ?_
  refine va_get (D := D) (ci := 4) (v := .int (nI p)) (C := RX4) (T := TX4) (N := 24) hx hb hts hinX4 hown hK hP 0 rfl rfl 12 (by decide) (hts (.fieldLink RX4 250 "OneShortModel" "ends" "I") (List.mem_of_getElem? (i := 1) rfl)) (fun _ h9 => h9) rfl dX4_next_2 ?_
  refine va_put (D := D) (ci := 4) (v := .int (nI p)) (ty := .int) (C := RX4) (T := TX4) (N := 24) hx hb hts hinX4 tyX4 tyX4_ok nmX4 hown hK hP hD hS 0 rfl rfl 11 (by decide) (hts (.fieldLink RX4 253 "OneShortModel" "begins" "I") (List.mem_of_getElem? (i := 2) rfl)) (fun _ h9 => h9) rfl (by decide +kernel) rfl rfl (Nat.le_of_ble_eq_true rfl) dX4_next_5 (fun H locs hP hD hS => ?_)
  have hP : va_P D vwCl (wN ci am X kr (nI (p)) (nI (p)) q2 q3 q4 q5 iw kn y0 y1 y2 y3 y4 y5 y6) H := va_P.re (wN_q0 ci am X kr q0 (nI (p)) q2 q3 q4 q5 iw kn y0 y1 y2 y3 y4 y5 y6 (nI (p))) hP
  have hD : va_D (aM am) (wN ci am X kr (nI (p)) (nI (p)) q2 q3 q4 q5 iw kn y0 y1 y2 y3 y4 y5 y6) := wN_D hI
  have L8 : ∀ (k8 : Nat) (cur : Nat), X.2.2.2.2.1 - cur < k8 → (cur ≤ X.2.2.2.2.1) → (ext (blk X.2.2.2.2.2.1 X.2.2.2.2.1) (121 - cur) cur = stt X.2.2.2.2.2.1 X.2.2.2.2.1 p) → ∀ (H : Heap) (locs : List Loc), va_P D vwCl (wN ci am X kr (nI (cur)) (nI (p)) q2 q3 q4 q5 iw kn y0 y1 y2 y3 y4 y5 y6) H → va_S (aM am) s.heap H locs → ∀ ls : Array Slot, lv_has ls 2 [(0, .ref (am 0))] → W pg l e (headSpec wsX4_next ({ frames := 1, cells := 0, slots := 0, locals := 40 } : Room)).room s m ([.ref (am 0)] : List Value).toArray below meth c H locs 0 0 (MQ below (mu_Q (aM am) (none) (fun H => va_P D vwCl (wN ci am X kr (nI (stt X.2.2.2.2.2.1 X.2.2.2.2.1 p)) (nI (nxt X.2.2.2.2.2.1 X.2.2.2.2.1 p)) (nI (min (srt X.2.2.2.2.2.1 X.2.2.2.2.1 p) 3)) (nI (vlu X.2.2.2.2.2.1 X.2.2.2.2.1 p)) q4 q5 iw kn y0 y1 y2 y3 y4 y5 y6) H)) ([.ref (am 0)] : List Value).toArray s 0 0 (aM am)) (F0 m 8 ls []) := by
    intro k8
    induction k8 with
    | zero => intro cur h0; exact absurd h0 (Nat.not_lt_zero _)
    | succ k8 ih8 =>
      intro cur hk8 h_c h_e    H locs hP hS ls hl
      have hD : va_D (aM am) (wN ci am X kr (nI (cur)) (nI (p)) q2 q3 q4 q5 iw kn y0 y1 y2 y3 y4 y5 y6) := wN_D hI
      refine lv_aload_n hx hb dX4_next_8 rfl (lv_at hl 0 rfl) ?_
      refine lv_aload_n hx hb dX4_next_9 rfl (lv_at hl 0 rfl) ?_
      refine va_get (D := D) (ci := 4) (v := .int (nI cur)) (C := RX4) (T := TX4) (N := 24) hx hb hts hinX4 hown hK hP 0 rfl rfl 11 (by decide) (hts (.fieldLink RX4 253 "OneShortModel" "begins" "I") (List.mem_of_getElem? (i := 2) rfl)) (fun _ h9 => h9) rfl dX4_next_10 ?_
      refine ro_V (n := 1) (As := [.int (nI cur)]) (rest := []) ⟨hx, hb, hml, hown, hts⟩ (c_X4_byteAt l D ci am X kr (nI (cur)) (nI (p)) q2 q3 q4 q5 iw kn y0 y1 y2 y3 y4 y5 y6 hI G adK adV fx (cur) hGA h_kn h_tl h_tb (by omega)) gX4_next_X4_byteAt rfl ⟨rfl, rfl⟩ (by decide +kernel) rfl ⟨Nat.le_of_ble_eq_true rfl, Nat.le_of_ble_eq_true rfl⟩ hE (enW_S hGA hs0 hS) hK hP (ci := 4) (q0 := 0) rfl rfl hl.1 rfl (Nat.le_of_ble_eq_true rfl) dX4_next_13 ⟨Nat.zero_le _, Nat.zero_le _⟩ ?_
      have f1 := bE_le (tl := X.2.2.2.2.1) h_tb (cur)
      have f2 := (fun h => bE_lt h : bE X.2.2.2.2.2.1 X.2.2.2.2.1 cur ≠ 0 → cur < X.2.2.2.2.1)
      refine lv_bipush (v := nI (32)) hx hb dX4_next_16 (by decide) ?_
      refine nv_icmp_ne_DN (tgt := 34) hx hb (by omega) (by omega) dX4_next_18 (by decide) (fun c3 => ?_) (fun c3 => ?_)
      · obtain rfl : cur = stt X.2.2.2.2.2.1 X.2.2.2.2.1 p := ext_e (blk_n (tb := X.2.2.2.2.2.1) (tl := X.2.2.2.2.1) (Or.inr c3)) h_e
        refine lv_aload_n hx hb dX4_next_34 rfl (lv_at hl 0 rfl) ?_
        refine lv_aload_n hx hb dX4_next_35 rfl (lv_at hl 0 rfl) ?_
        refine va_get (D := D) (ci := 4) (v := .int (nI ((stt X.2.2.2.2.2.1 X.2.2.2.2.1 p)))) (C := RX4) (T := TX4) (N := 24) hx hb hts hinX4 hown hK hP 0 rfl rfl 11 (by decide) (hts (.fieldLink RX4 253 "OneShortModel" "begins" "I") (List.mem_of_getElem? (i := 2) rfl)) (fun _ h9 => h9) rfl dX4_next_36 ?_
        refine ro_V (n := 1) (As := [.int (nI ((stt X.2.2.2.2.2.1 X.2.2.2.2.1 p)))]) (rest := []) ⟨hx, hb, hml, hown, hts⟩ (c_X4_byteAt l D ci am X kr (nI ((stt X.2.2.2.2.2.1 X.2.2.2.2.1 p))) (nI (p)) q2 q3 q4 q5 iw kn y0 y1 y2 y3 y4 y5 y6 hI G adK adV fx ((stt X.2.2.2.2.2.1 X.2.2.2.2.1 p)) hGA h_kn h_tl h_tb (by omega)) gX4_next_X4_byteAt rfl ⟨rfl, rfl⟩ (by decide +kernel) rfl ⟨Nat.le_of_ble_eq_true rfl, Nat.le_of_ble_eq_true rfl⟩ hE (enW_S hGA hs0 hS) hK hP (ci := 4) (q0 := 0) rfl rfl hl.1 rfl (Nat.le_of_ble_eq_true rfl) dX4_next_39 ⟨Nat.zero_le _, Nat.zero_le _⟩ ?_
        have f4 := bE_le (tl := X.2.2.2.2.1) h_tb ((stt X.2.2.2.2.2.1 X.2.2.2.2.1 p))
        have f5 := (fun h => bE_lt h : bE X.2.2.2.2.2.1 X.2.2.2.2.1 (stt X.2.2.2.2.2.1 X.2.2.2.2.1 p) ≠ 0 → (stt X.2.2.2.2.2.1 X.2.2.2.2.1 p) < X.2.2.2.2.1)
        refine lv_istore_n (lv' := [(1, .int (nI (bE X.2.2.2.2.2.1 X.2.2.2.2.1 (stt X.2.2.2.2.2.1 X.2.2.2.2.1 p)) - nI (1))), (0, .ref (am 0))]) hx hb dX4_next_42 rfl hl (by decide) rfl (fun ls hl => ?_)
        refine lv_aload_n hx hb dX4_next_43 rfl (lv_at hl 1 rfl) ?_
        refine lv_aload_n hx hb dX4_next_44 rfl (lv_at hl 1 rfl) ?_
        refine va_get (D := D) (ci := 4) (v := .int (nI ((stt X.2.2.2.2.2.1 X.2.2.2.2.1 p)))) (C := RX4) (T := TX4) (N := 24) hx hb hts hinX4 hown hK hP 0 rfl rfl 11 (by decide) (hts (.fieldLink RX4 253 "OneShortModel" "begins" "I") (List.mem_of_getElem? (i := 2) rfl)) (fun _ h9 => h9) rfl dX4_next_45 ?_
        refine va_put (D := D) (ci := 4) (v := .int (nI ((stt X.2.2.2.2.2.1 X.2.2.2.2.1 p)))) (ty := .int) (C := RX4) (T := TX4) (N := 24) hx hb hts hinX4 tyX4 tyX4_ok nmX4 hown hK hP hD hS 0 rfl rfl 12 (by decide) (hts (.fieldLink RX4 250 "OneShortModel" "ends" "I") (List.mem_of_getElem? (i := 1) rfl)) (fun _ h9 => h9) rfl (by decide +kernel) rfl rfl (Nat.le_of_ble_eq_true rfl) dX4_next_48 (fun H locs hP hD hS => ?_)
        have hP : va_P D vwCl (wN ci am X kr (nI ((stt X.2.2.2.2.2.1 X.2.2.2.2.1 p))) (nI ((stt X.2.2.2.2.2.1 X.2.2.2.2.1 p))) q2 q3 q4 q5 iw kn y0 y1 y2 y3 y4 y5 y6) H := va_P.re (wN_q1 ci am X kr (nI ((stt X.2.2.2.2.2.1 X.2.2.2.2.1 p))) (nI (p)) q2 q3 q4 q5 iw kn y0 y1 y2 y3 y4 y5 y6 (nI ((stt X.2.2.2.2.2.1 X.2.2.2.2.1 p)))) hP
        have hD : va_D (aM am) (wN ci am X kr (nI ((stt X.2.2.2.2.2.1 X.2.2.2.2.1 p))) (nI ((stt X.2.2.2.2.2.1 X.2.2.2.2.1 p))) q2 q3 q4 q5 iw kn y0 y1 y2 y3 y4 y5 y6) := wN_D hI
        refine lv_aload_n hx hb dX4_next_51 rfl (lv_at hl 1 rfl) ?_
        refine lv_iconst (v := nI (0)) hx hb dX4_next_52 (by decide) ?_
        refine va_put (D := D) (ci := 4) (v := .int (nI 0)) (ty := .int) (C := RX4) (T := TX4) (N := 24) hx hb hts hinX4 tyX4 tyX4_ok nmX4 hown hK hP hD hS 0 rfl rfl 14 (by decide) (hts (.fieldLink RX4 259 "OneShortModel" "value" "I") (List.mem_of_getElem? (i := 3) rfl)) (fun _ h9 => h9) rfl (by decide +kernel) rfl rfl (Nat.le_of_ble_eq_true rfl) dX4_next_53 (fun H locs hP hD hS => ?_)
        have hP : va_P D vwCl (wN ci am X kr (nI ((stt X.2.2.2.2.2.1 X.2.2.2.2.1 p))) (nI ((stt X.2.2.2.2.2.1 X.2.2.2.2.1 p))) q2 (nI (0)) q4 q5 iw kn y0 y1 y2 y3 y4 y5 y6) H := va_P.re (wN_q3 ci am X kr (nI ((stt X.2.2.2.2.2.1 X.2.2.2.2.1 p))) (nI ((stt X.2.2.2.2.2.1 X.2.2.2.2.1 p))) q2 q3 q4 q5 iw kn y0 y1 y2 y3 y4 y5 y6 (nI (0))) hP
        have hD : va_D (aM am) (wN ci am X kr (nI ((stt X.2.2.2.2.2.1 X.2.2.2.2.1 p))) (nI ((stt X.2.2.2.2.2.1 X.2.2.2.2.1 p))) q2 (nI (0)) q4 q5 iw kn y0 y1 y2 y3 y4 y5 y6) := wN_D hI
        refine lv_iload_n hx hb dX4_next_56 rfl (lv_at hl 0 rfl) ?_
        refine nv_ifge_D (tgt := 68) hx hb (by omega) dX4_next_57 (by decide) (fun c6 => ?_) (fun c6 => ?_)
        · have e_0 : bE X.2.2.2.2.2.1 X.2.2.2.2.1 (stt X.2.2.2.2.2.1 X.2.2.2.2.1 p) ≠ 0 := by omega
          refine lv_iload_n hx hb dX4_next_68 rfl (lv_at hl 0 rfl) ?_
          refine lv_bipush (v := nI (97)) hx hb dX4_next_69 (by decide) ?_
          refine lv_bipush (v := nI (122)) hx hb dX4_next_71 (by decide) ?_
          refine ro_S (n := 3) (As := [.int (nI (bE X.2.2.2.2.2.1 X.2.2.2.2.1 (stt X.2.2.2.2.2.1 X.2.2.2.2.1 p)) - nI (1)), .int (nI 97), .int (nI 122)]) (rest := []) ⟨hx, hb, hml, hown, hts⟩ (c_X4_within l D ci (wN ci am X kr (nI ((stt X.2.2.2.2.2.1 X.2.2.2.2.1 p))) (nI ((stt X.2.2.2.2.2.1 X.2.2.2.2.1 p))) q2 (nI (0)) q4 q5 iw kn y0 y1 y2 y3 y4 y5 y6) (nI (bE X.2.2.2.2.2.1 X.2.2.2.2.1 (stt X.2.2.2.2.2.1 X.2.2.2.2.1 p)) - nI (1)) (nI (97)) (nI (122)) ) gX4_next_X4_within rfl ⟨rfl, rfl⟩ (by decide +kernel) rfl ⟨Nat.le_of_ble_eq_true rfl, Nat.le_of_ble_eq_true rfl⟩ hE_T trivial hK hP hl.1 rfl (Nat.le_of_ble_eq_true rfl) dX4_next_73 ⟨Nat.zero_le _, Nat.zero_le _⟩ ?_
          refine nv_cv (congrArg bI (wth_inR (nI (bE X.2.2.2.2.2.1 X.2.2.2.2.1 (stt X.2.2.2.2.2.1 X.2.2.2.2.1 p)) - nI (1)) 97 122 (by decide) (by decide))) ?_
          refine nv_cv (show bI (inR (nI (bE X.2.2.2.2.2.1 X.2.2.2.2.1 (stt X.2.2.2.2.2.1 X.2.2.2.2.1 p)) - nI (1)) 97 122) = bI (bLt (bE X.2.2.2.2.2.1 X.2.2.2.2.1 (stt X.2.2.2.2.2.1 X.2.2.2.2.1 p))) from congrArg bI (inR_lt (by omega))) ?_
          refine nv_ifeq_b (tgt := 115) hx hb dX4_next_76 (by decide) (fun c7 => ?_) (fun c7 => ?_)
          · refine lv_iload_n hx hb dX4_next_115 rfl (lv_at hl 0 rfl) ?_
            refine lv_bipush (v := nI (48)) hx hb dX4_next_116 (by decide) ?_
            refine lv_bipush (v := nI (57)) hx hb dX4_next_118 (by decide) ?_
            refine ro_S (n := 3) (As := [.int (nI (bE X.2.2.2.2.2.1 X.2.2.2.2.1 (stt X.2.2.2.2.2.1 X.2.2.2.2.1 p)) - nI (1)), .int (nI 48), .int (nI 57)]) (rest := []) ⟨hx, hb, hml, hown, hts⟩ (c_X4_within l D ci (wN ci am X kr (nI ((stt X.2.2.2.2.2.1 X.2.2.2.2.1 p))) (nI ((stt X.2.2.2.2.2.1 X.2.2.2.2.1 p))) q2 (nI (0)) q4 q5 iw kn y0 y1 y2 y3 y4 y5 y6) (nI (bE X.2.2.2.2.2.1 X.2.2.2.2.1 (stt X.2.2.2.2.2.1 X.2.2.2.2.1 p)) - nI (1)) (nI (48)) (nI (57)) ) gX4_next_X4_within rfl ⟨rfl, rfl⟩ (by decide +kernel) rfl ⟨Nat.le_of_ble_eq_true rfl, Nat.le_of_ble_eq_true rfl⟩ hE_T trivial hK hP hl.1 rfl (Nat.le_of_ble_eq_true rfl) dX4_next_120 ⟨Nat.zero_le _, Nat.zero_le _⟩ ?_
            refine nv_cv (congrArg bI (wth_inR (nI (bE X.2.2.2.2.2.1 X.2.2.2.2.1 (stt X.2.2.2.2.2.1 X.2.2.2.2.1 p)) - nI (1)) 48 57 (by decide) (by decide))) ?_
            refine nv_cv (show bI (inR (nI (bE X.2.2.2.2.2.1 X.2.2.2.2.1 (stt X.2.2.2.2.2.1 X.2.2.2.2.1 p)) - nI (1)) 48 57) = bI (bDg (bE X.2.2.2.2.2.1 X.2.2.2.2.1 (stt X.2.2.2.2.2.1 X.2.2.2.2.1 p))) from congrArg bI (inR_dg (by omega))) ?_
            refine nv_ifeq_b (tgt := 191) hx hb dX4_next_123 (by decide) (fun c8 => ?_) (fun c8 => ?_)
            · have e_s : 3 ≤ srt X.2.2.2.2.2.1 X.2.2.2.2.1 p := sr_3 e_0 c7 c8
              refine lv_aload_n hx hb dX4_next_191 rfl (lv_at hl 1 rfl) ?_
              refine lv_iconst (v := nI (3)) hx hb dX4_next_192 (by decide) ?_
              refine va_put (D := D) (ci := 4) (v := .int (nI 3)) (ty := .int) (C := RX4) (T := TX4) (N := 24) hx hb hts hinX4 tyX4 tyX4_ok nmX4 hown hK hP hD hS 0 rfl rfl 13 (by decide) (hts (.fieldLink RX4 262 "OneShortModel" "sort" "I") (List.mem_of_getElem? (i := 4) rfl)) (fun _ h9 => h9) rfl (by decide +kernel) rfl rfl (Nat.le_of_ble_eq_true rfl) dX4_next_193 (fun H locs hP hD hS => ?_)
              have hP : va_P D vwCl (wN ci am X kr (nI ((stt X.2.2.2.2.2.1 X.2.2.2.2.1 p))) (nI ((stt X.2.2.2.2.2.1 X.2.2.2.2.1 p))) (nI (3)) (nI (0)) q4 q5 iw kn y0 y1 y2 y3 y4 y5 y6) H := va_P.re (wN_q2 ci am X kr (nI ((stt X.2.2.2.2.2.1 X.2.2.2.2.1 p))) (nI ((stt X.2.2.2.2.2.1 X.2.2.2.2.1 p))) q2 (nI (0)) q4 q5 iw kn y0 y1 y2 y3 y4 y5 y6 (nI (3))) hP
              have hD : va_D (aM am) (wN ci am X kr (nI ((stt X.2.2.2.2.2.1 X.2.2.2.2.1 p))) (nI ((stt X.2.2.2.2.2.1 X.2.2.2.2.1 p))) (nI (3)) (nI (0)) q4 q5 iw kn y0 y1 y2 y3 y4 y5 y6) := wN_D hI
              refine lv_aload_n hx hb dX4_next_196 rfl (lv_at hl 1 rfl) ?_
              refine lv_dup hx hb dX4_next_197 rfl ?_
              refine va_get (D := D) (ci := 4) (v := .int (nI ((stt X.2.2.2.2.2.1 X.2.2.2.2.1 p)))) (C := RX4) (T := TX4) (N := 24) hx hb hts hinX4 hown hK hP 0 rfl rfl 12 (by decide) (hts (.fieldLink RX4 250 "OneShortModel" "ends" "I") (List.mem_of_getElem? (i := 1) rfl)) (fun _ h9 => h9) rfl dX4_next_198 ?_
              refine lv_iconst (v := nI (1)) hx hb dX4_next_201 (by decide) ?_
              refine nv_iadd hx hb dX4_next_202 ?_
              refine va_put (D := D) (ci := 4) (v := .int (nI (((stt X.2.2.2.2.2.1 X.2.2.2.2.1 p) + 1)))) (ty := .int) (C := RX4) (T := TX4) (N := 24) hx hb hts hinX4 tyX4 tyX4_ok nmX4 hown hK hP hD hS 0 rfl rfl 12 (by decide) (hts (.fieldLink RX4 250 "OneShortModel" "ends" "I") (List.mem_of_getElem? (i := 1) rfl)) (fun _ h9 => h9) rfl (by decide +kernel) rfl rfl (Nat.le_of_ble_eq_true rfl) dX4_next_203 (fun H locs hP hD hS => ?_)
              have hP : va_P D vwCl (wN ci am X kr (nI ((stt X.2.2.2.2.2.1 X.2.2.2.2.1 p))) (nI (((stt X.2.2.2.2.2.1 X.2.2.2.2.1 p) + 1))) (nI (3)) (nI (0)) q4 q5 iw kn y0 y1 y2 y3 y4 y5 y6) H := va_P.re (wN_q1 ci am X kr (nI ((stt X.2.2.2.2.2.1 X.2.2.2.2.1 p))) (nI ((stt X.2.2.2.2.2.1 X.2.2.2.2.1 p))) (nI (3)) (nI (0)) q4 q5 iw kn y0 y1 y2 y3 y4 y5 y6 (nI (((stt X.2.2.2.2.2.1 X.2.2.2.2.1 p) + 1)))) hP
              have hD : va_D (aM am) (wN ci am X kr (nI ((stt X.2.2.2.2.2.1 X.2.2.2.2.1 p))) (nI (((stt X.2.2.2.2.2.1 X.2.2.2.2.1 p) + 1))) (nI (3)) (nI (0)) q4 q5 iw kn y0 y1 y2 y3 y4 y5 y6) := wN_D hI
              exact mu_vret hx hb hr hlocks hS ((by first | ((obtain ⟨e_1, e_2, e_3⟩ := nx_0 e_s); rw [e_1, e_2, e_3]; exact hP) | ((obtain ⟨e_2, e_3⟩ := nx_1 e_s); rw [e_2, e_3]; exact hP) | (rw [e_s]; exact hP) | ((obtain ⟨e_1, e_2, e_3⟩ := nx_3 e_s); rw [e_1, e_2, e_3]; exact hP))) dX4_next_206
            · have e_s : srt X.2.2.2.2.2.1 X.2.2.2.2.1 p = 2 := sr_2 e_0 c7 c8
              refine lv_aload_n hx hb dX4_next_126 rfl (lv_at hl 1 rfl) ?_
              refine lv_iconst (v := nI (2)) hx hb dX4_next_127 (by decide) ?_
              refine va_put (D := D) (ci := 4) (v := .int (nI 2)) (ty := .int) (C := RX4) (T := TX4) (N := 24) hx hb hts hinX4 tyX4 tyX4_ok nmX4 hown hK hP hD hS 0 rfl rfl 13 (by decide) (hts (.fieldLink RX4 262 "OneShortModel" "sort" "I") (List.mem_of_getElem? (i := 4) rfl)) (fun _ h9 => h9) rfl (by decide +kernel) rfl rfl (Nat.le_of_ble_eq_true rfl) dX4_next_128 (fun H locs hP hD hS => ?_)
              have hP : va_P D vwCl (wN ci am X kr (nI ((stt X.2.2.2.2.2.1 X.2.2.2.2.1 p))) (nI ((stt X.2.2.2.2.2.1 X.2.2.2.2.1 p))) (nI (2)) (nI (0)) q4 q5 iw kn y0 y1 y2 y3 y4 y5 y6) H := va_P.re (wN_q2 ci am X kr (nI ((stt X.2.2.2.2.2.1 X.2.2.2.2.1 p))) (nI ((stt X.2.2.2.2.2.1 X.2.2.2.2.1 p))) q2 (nI (0)) q4 q5 iw kn y0 y1 y2 y3 y4 y5 y6 (nI (2))) hP
              have hD : va_D (aM am) (wN ci am X kr (nI ((stt X.2.2.2.2.2.1 X.2.2.2.2.1 p))) (nI ((stt X.2.2.2.2.2.1 X.2.2.2.2.1 p))) (nI (2)) (nI (0)) q4 q5 iw kn y0 y1 y2 y3 y4 y5 y6) := wN_D hI
              have L131 : ∀ (k131 : Nat) (cur : Nat) (v : Nat), X.2.2.2.2.1 - cur < k131 → (cur ≤ X.2.2.2.2.1) → (v ≤ 1000) → (ext (dgt X.2.2.2.2.2.1 X.2.2.2.2.1) (121 - cur) cur = nxt X.2.2.2.2.2.1 X.2.2.2.2.1 p ∧ vl X.2.2.2.2.2.1 X.2.2.2.2.1 (121 - cur) cur v = vlu X.2.2.2.2.2.1 X.2.2.2.2.1 p) → ∀ (H : Heap) (locs : List Loc), va_P D vwCl (wN ci am X kr (nI ((stt X.2.2.2.2.2.1 X.2.2.2.2.1 p))) (nI (cur)) (nI (2)) (nI (v)) q4 q5 iw kn y0 y1 y2 y3 y4 y5 y6) H → va_S (aM am) s.heap H locs → ∀ ls : Array Slot, lv_has ls 2 [(1, .int (nI (bE X.2.2.2.2.2.1 X.2.2.2.2.1 (stt X.2.2.2.2.2.1 X.2.2.2.2.1 p)) - nI (1))), (0, .ref (am 0))] → W pg l e (headSpec wsX4_next ({ frames := 1, cells := 0, slots := 0, locals := 40 } : Room)).room s m ([.ref (am 0)] : List Value).toArray below meth c H locs 0 0 (MQ below (mu_Q (aM am) (none) (fun H => va_P D vwCl (wN ci am X kr (nI (stt X.2.2.2.2.2.1 X.2.2.2.2.1 p)) (nI (nxt X.2.2.2.2.2.1 X.2.2.2.2.1 p)) (nI (min (srt X.2.2.2.2.2.1 X.2.2.2.2.1 p) 3)) (nI (vlu X.2.2.2.2.2.1 X.2.2.2.2.1 p)) q4 q5 iw kn y0 y1 y2 y3 y4 y5 y6) H)) ([.ref (am 0)] : List Value).toArray s 0 0 (aM am)) (F0 m 131 ls []) := by
                intro k131
                induction k131 with
                | zero => intro cur v h0; exact absurd h0 (Nat.not_lt_zero _)
                | succ k131 ih131 =>
                  intro cur v hk131 h_c3 h_v h_x2    H locs hP hS ls hl
                  have hD : va_D (aM am) (wN ci am X kr (nI ((stt X.2.2.2.2.2.1 X.2.2.2.2.1 p))) (nI (cur)) (nI (2)) (nI (v)) q4 q5 iw kn y0 y1 y2 y3 y4 y5 y6) := wN_D hI
                  refine lv_aload_n hx hb dX4_next_131 rfl (lv_at hl 1 rfl) ?_
                  refine lv_aload_n hx hb dX4_next_132 rfl (lv_at hl 1 rfl) ?_
                  refine va_get (D := D) (ci := 4) (v := .int (nI cur)) (C := RX4) (T := TX4) (N := 24) hx hb hts hinX4 hown hK hP 0 rfl rfl 12 (by decide) (hts (.fieldLink RX4 250 "OneShortModel" "ends" "I") (List.mem_of_getElem? (i := 1) rfl)) (fun _ h9 => h9) rfl dX4_next_133 ?_
                  refine ro_V (n := 1) (As := [.int (nI cur)]) (rest := []) ⟨hx, hb, hml, hown, hts⟩ (c_X4_byteAt l D ci am X kr (nI ((stt X.2.2.2.2.2.1 X.2.2.2.2.1 p))) (nI (cur)) (nI (2)) (nI (v)) q4 q5 iw kn y0 y1 y2 y3 y4 y5 y6 hI G adK adV fx (cur) hGA h_kn h_tl h_tb (by omega)) gX4_next_X4_byteAt rfl ⟨rfl, rfl⟩ (by decide +kernel) rfl ⟨Nat.le_of_ble_eq_true rfl, Nat.le_of_ble_eq_true rfl⟩ hE (enW_S hGA hs0 hS) hK hP (ci := 4) (q0 := 0) rfl rfl hl.1 rfl (Nat.le_of_ble_eq_true rfl) dX4_next_136 ⟨Nat.zero_le _, Nat.zero_le _⟩ ?_
                  have f9 := bE_le (tl := X.2.2.2.2.1) h_tb (cur)
                  have f10 := (fun h => bE_lt h : bE X.2.2.2.2.2.1 X.2.2.2.2.1 cur ≠ 0 → cur < X.2.2.2.2.1)
                  refine lv_bipush (v := nI (48)) hx hb dX4_next_139 (by decide) ?_
                  refine lv_bipush (v := nI (57)) hx hb dX4_next_141 (by decide) ?_
                  refine ro_S (n := 3) (As := [.int (nI (bE X.2.2.2.2.2.1 X.2.2.2.2.1 cur) - nI (1)), .int (nI 48), .int (nI 57)]) (rest := []) ⟨hx, hb, hml, hown, hts⟩ (c_X4_within l D ci (wN ci am X kr (nI ((stt X.2.2.2.2.2.1 X.2.2.2.2.1 p))) (nI (cur)) (nI (2)) (nI (v)) q4 q5 iw kn y0 y1 y2 y3 y4 y5 y6) (nI (bE X.2.2.2.2.2.1 X.2.2.2.2.1 cur) - nI (1)) (nI (48)) (nI (57)) ) gX4_next_X4_within rfl ⟨rfl, rfl⟩ (by decide +kernel) rfl ⟨Nat.le_of_ble_eq_true rfl, Nat.le_of_ble_eq_true rfl⟩ hE_T trivial hK hP hl.1 rfl (Nat.le_of_ble_eq_true rfl) dX4_next_143 ⟨Nat.zero_le _, Nat.zero_le _⟩ ?_
                  refine nv_cv (congrArg bI (wth_inR (nI (bE X.2.2.2.2.2.1 X.2.2.2.2.1 cur) - nI (1)) 48 57 (by decide) (by decide))) ?_
                  refine nv_cv (show bI (inR (nI (bE X.2.2.2.2.2.1 X.2.2.2.2.1 cur) - nI (1)) 48 57) = bI (bDg (bE X.2.2.2.2.2.1 X.2.2.2.2.1 cur)) from congrArg bI (inR_dg (by omega))) ?_
                  refine nv_ifeq_b (tgt := 206) hx hb dX4_next_146 (by decide) (fun c11 => ?_) (fun c11 => ?_)
                  · obtain ⟨e_1, e_2⟩ := x2_e h_x2 c11
                    subst e_1 e_2
                    exact mu_vret hx hb hr hlocks hS ((by first | ((obtain ⟨e_1, e_2, e_3⟩ := nx_0 e_s); rw [e_1, e_2, e_3]; exact hP) | ((obtain ⟨e_2, e_3⟩ := nx_1 e_s); rw [e_2, e_3]; exact hP) | (rw [e_s]; exact hP) | ((obtain ⟨e_1, e_2, e_3⟩ := nx_3 e_s); rw [e_1, e_2, e_3]; exact hP))) dX4_next_206
                  · have f12 := bDg_ge c11
                    refine lv_aload_n hx hb dX4_next_149 rfl (lv_at hl 1 rfl) ?_
                    refine lv_sipush (v := nI (1000)) hx hb dX4_next_150 (by decide) ?_
                    refine lv_bipush (v := nI (10)) hx hb dX4_next_153 (by decide) ?_
                    refine lv_aload_n hx hb dX4_next_155 rfl (lv_at hl 1 rfl) ?_
                    refine va_get (D := D) (ci := 4) (v := .int (nI v)) (C := RX4) (T := TX4) (N := 24) hx hb hts hinX4 hown hK hP 0 rfl rfl 14 (by decide) (hts (.fieldLink RX4 259 "OneShortModel" "value" "I") (List.mem_of_getElem? (i := 3) rfl)) (fun _ h9 => h9) rfl dX4_next_156 ?_
                    refine nv_imul hx hb dX4_next_159 ?_
                    refine lv_aload_n hx hb dX4_next_160 rfl (lv_at hl 1 rfl) ?_
                    refine lv_aload_n hx hb dX4_next_161 rfl (lv_at hl 1 rfl) ?_
                    refine va_get (D := D) (ci := 4) (v := .int (nI cur)) (C := RX4) (T := TX4) (N := 24) hx hb hts hinX4 hown hK hP 0 rfl rfl 12 (by decide) (hts (.fieldLink RX4 250 "OneShortModel" "ends" "I") (List.mem_of_getElem? (i := 1) rfl)) (fun _ h9 => h9) rfl dX4_next_162 ?_
                    refine ro_V (n := 1) (As := [.int (nI cur)]) (rest := [.int (nI ((10 * v))), .int (nI 1000), .ref (am 0)]) ⟨hx, hb, hml, hown, hts⟩ (c_X4_byteAt l D ci am X kr (nI ((stt X.2.2.2.2.2.1 X.2.2.2.2.1 p))) (nI (cur)) (nI (2)) (nI (v)) q4 q5 iw kn y0 y1 y2 y3 y4 y5 y6 hI G adK adV fx (cur) hGA h_kn h_tl h_tb (by omega)) gX4_next_X4_byteAt rfl ⟨rfl, rfl⟩ (by decide +kernel) rfl ⟨Nat.le_of_ble_eq_true rfl, Nat.le_of_ble_eq_true rfl⟩ hE (enW_S hGA hs0 hS) hK hP (ci := 4) (q0 := 0) rfl rfl hl.1 rfl (Nat.le_of_ble_eq_true rfl) dX4_next_165 ⟨Nat.zero_le _, Nat.zero_le _⟩ ?_
                    have f13 := bE_le (tl := X.2.2.2.2.1) h_tb (cur)
                    have f14 := (fun h => bE_lt h : bE X.2.2.2.2.2.1 X.2.2.2.2.1 cur ≠ 0 → cur < X.2.2.2.2.1)
                    refine lv_iadd hx hb dX4_next_168 ?_
                    refine lv_bipush (v := nI (48)) hx hb dX4_next_169 (by decide) ?_
                    refine lv_isub hx hb dX4_next_171 ?_
                    refine nv_cv (show ((nI ((10 * v)) + (nI (bE X.2.2.2.2.2.1 X.2.2.2.2.1 cur) - nI (1))) - nI (48)) = nI ((10 * v + (bE X.2.2.2.2.2.1 X.2.2.2.2.1 cur - 49))) from dig_w (by omega)) ?_
                    refine va_mmin hx hb (hml.trans hl.1.symm) hown (hts (.methodLink RX4 173 Lib.Math.min.name) (List.mem_of_getElem? (i := 5) rfl)) (hts (.static Lib.Math.min.name) (List.mem_of_getElem? (i := 6) rfl)) (hts (.initialized "java/lang/Math") (List.mem_of_getElem? (i := 7) rfl)) (hts (.code Lib.Math.min.name Lib.Math.min.code 2 (some .int)) (List.mem_of_getElem? (i := 8) rfl)) (Nat.le_of_ble_eq_true rfl) (Nat.le_of_ble_eq_true rfl) (Nat.zero_le _) (Nat.zero_le _) dX4_next_172 (nv_cv (nv_min (x := 1000) (y := (10 * v + (bE X.2.2.2.2.2.1 X.2.2.2.2.1 cur - 49))) (by omega) (by omega)) ?_)
                    refine va_put (D := D) (ci := 4) (v := .int (nI (min (1000) ((10 * v + (bE X.2.2.2.2.2.1 X.2.2.2.2.1 cur - 49)))))) (ty := .int) (C := RX4) (T := TX4) (N := 24) hx hb hts hinX4 tyX4 tyX4_ok nmX4 hown hK hP hD hS 0 rfl rfl 14 (by decide) (hts (.fieldLink RX4 259 "OneShortModel" "value" "I") (List.mem_of_getElem? (i := 3) rfl)) (fun _ h9 => h9) rfl (by decide +kernel) rfl rfl (Nat.le_of_ble_eq_true rfl) dX4_next_175 (fun H locs hP hD hS => ?_)
                    have hP : va_P D vwCl (wN ci am X kr (nI ((stt X.2.2.2.2.2.1 X.2.2.2.2.1 p))) (nI (cur)) (nI (2)) (nI (min (1000) ((10 * v + (bE X.2.2.2.2.2.1 X.2.2.2.2.1 cur - 49))))) q4 q5 iw kn y0 y1 y2 y3 y4 y5 y6) H := va_P.re (wN_q3 ci am X kr (nI ((stt X.2.2.2.2.2.1 X.2.2.2.2.1 p))) (nI (cur)) (nI (2)) (nI (v)) q4 q5 iw kn y0 y1 y2 y3 y4 y5 y6 (nI (min (1000) ((10 * v + (bE X.2.2.2.2.2.1 X.2.2.2.2.1 cur - 49)))))) hP
                    have hD : va_D (aM am) (wN ci am X kr (nI ((stt X.2.2.2.2.2.1 X.2.2.2.2.1 p))) (nI (cur)) (nI (2)) (nI (min (1000) ((10 * v + (bE X.2.2.2.2.2.1 X.2.2.2.2.1 cur - 49))))) q4 q5 iw kn y0 y1 y2 y3 y4 y5 y6) := wN_D hI
                    refine lv_aload_n hx hb dX4_next_178 rfl (lv_at hl 1 rfl) ?_
                    refine lv_dup hx hb dX4_next_179 rfl ?_
                    refine va_get (D := D) (ci := 4) (v := .int (nI cur)) (C := RX4) (T := TX4) (N := 24) hx hb hts hinX4 hown hK hP 0 rfl rfl 12 (by decide) (hts (.fieldLink RX4 250 "OneShortModel" "ends" "I") (List.mem_of_getElem? (i := 1) rfl)) (fun _ h9 => h9) rfl dX4_next_180 ?_
                    refine lv_iconst (v := nI (1)) hx hb dX4_next_183 (by decide) ?_
                    refine nv_iadd hx hb dX4_next_184 ?_
                    refine va_put (D := D) (ci := 4) (v := .int (nI ((cur + 1)))) (ty := .int) (C := RX4) (T := TX4) (N := 24) hx hb hts hinX4 tyX4 tyX4_ok nmX4 hown hK hP hD hS 0 rfl rfl 12 (by decide) (hts (.fieldLink RX4 250 "OneShortModel" "ends" "I") (List.mem_of_getElem? (i := 1) rfl)) (fun _ h9 => h9) rfl (by decide +kernel) rfl rfl (Nat.le_of_ble_eq_true rfl) dX4_next_185 (fun H locs hP hD hS => ?_)
                    have hP : va_P D vwCl (wN ci am X kr (nI ((stt X.2.2.2.2.2.1 X.2.2.2.2.1 p))) (nI ((cur + 1))) (nI (2)) (nI (min (1000) ((10 * v + (bE X.2.2.2.2.2.1 X.2.2.2.2.1 cur - 49))))) q4 q5 iw kn y0 y1 y2 y3 y4 y5 y6) H := va_P.re (wN_q1 ci am X kr (nI ((stt X.2.2.2.2.2.1 X.2.2.2.2.1 p))) (nI (cur)) (nI (2)) (nI (min (1000) ((10 * v + (bE X.2.2.2.2.2.1 X.2.2.2.2.1 cur - 49))))) q4 q5 iw kn y0 y1 y2 y3 y4 y5 y6 (nI ((cur + 1)))) hP
                    have hD : va_D (aM am) (wN ci am X kr (nI ((stt X.2.2.2.2.2.1 X.2.2.2.2.1 p))) (nI ((cur + 1))) (nI (2)) (nI (min (1000) ((10 * v + (bE X.2.2.2.2.2.1 X.2.2.2.2.1 cur - 49))))) q4 q5 iw kn y0 y1 y2 y3 y4 y5 y6) := wN_D hI
                    refine lv_goto (tgt := 131) hx hb dX4_next_188 (by decide) ?_
                    exact ih131 (cur + 1) (min (1000) ((10 * v + (bE X.2.2.2.2.2.1 X.2.2.2.2.1 cur - 49)))) (by omega) (by omega) (Nat.min_le_left _ _) (x2_s h_x2 (by omega) c11)  _ _ hP hS ls (lv_sub hl [0, 1] rfl)
              exact L131 _ (stt X.2.2.2.2.2.1 X.2.2.2.2.1 p) (0) (Nat.lt_succ_self _) (by omega) (by omega) (x2_i e_s)  _ _ hP hS ls (lv_sub hl [0, 1] rfl)
          · have e_s : srt X.2.2.2.2.2.1 X.2.2.2.2.1 p = 1 := sr_1 e_0 c7
            refine lv_aload_n hx hb dX4_next_79 rfl (lv_at hl 1 rfl) ?_
            refine lv_iconst (v := nI (1)) hx hb dX4_next_80 (by decide) ?_
            refine va_put (D := D) (ci := 4) (v := .int (nI 1)) (ty := .int) (C := RX4) (T := TX4) (N := 24) hx hb hts hinX4 tyX4 tyX4_ok nmX4 hown hK hP hD hS 0 rfl rfl 13 (by decide) (hts (.fieldLink RX4 262 "OneShortModel" "sort" "I") (List.mem_of_getElem? (i := 4) rfl)) (fun _ h9 => h9) rfl (by decide +kernel) rfl rfl (Nat.le_of_ble_eq_true rfl) dX4_next_81 (fun H locs hP hD hS => ?_)
            have hP : va_P D vwCl (wN ci am X kr (nI ((stt X.2.2.2.2.2.1 X.2.2.2.2.1 p))) (nI ((stt X.2.2.2.2.2.1 X.2.2.2.2.1 p))) (nI (1)) (nI (0)) q4 q5 iw kn y0 y1 y2 y3 y4 y5 y6) H := va_P.re (wN_q2 ci am X kr (nI ((stt X.2.2.2.2.2.1 X.2.2.2.2.1 p))) (nI ((stt X.2.2.2.2.2.1 X.2.2.2.2.1 p))) q2 (nI (0)) q4 q5 iw kn y0 y1 y2 y3 y4 y5 y6 (nI (1))) hP
            have hD : va_D (aM am) (wN ci am X kr (nI ((stt X.2.2.2.2.2.1 X.2.2.2.2.1 p))) (nI ((stt X.2.2.2.2.2.1 X.2.2.2.2.1 p))) (nI (1)) (nI (0)) q4 q5 iw kn y0 y1 y2 y3 y4 y5 y6) := wN_D hI
            have L84 : ∀ (k84 : Nat) (cur : Nat), X.2.2.2.2.1 - cur < k84 → (cur ≤ X.2.2.2.2.1) → (ext (ltr X.2.2.2.2.2.1 X.2.2.2.2.1) (121 - cur) cur = nxt X.2.2.2.2.2.1 X.2.2.2.2.1 p) → ∀ (H : Heap) (locs : List Loc), va_P D vwCl (wN ci am X kr (nI ((stt X.2.2.2.2.2.1 X.2.2.2.2.1 p))) (nI (cur)) (nI (1)) (nI (0)) q4 q5 iw kn y0 y1 y2 y3 y4 y5 y6) H → va_S (aM am) s.heap H locs → ∀ ls : Array Slot, lv_has ls 2 [(1, .int (nI (bE X.2.2.2.2.2.1 X.2.2.2.2.1 (stt X.2.2.2.2.2.1 X.2.2.2.2.1 p)) - nI (1))), (0, .ref (am 0))] → W pg l e (headSpec wsX4_next ({ frames := 1, cells := 0, slots := 0, locals := 40 } : Room)).room s m ([.ref (am 0)] : List Value).toArray below meth c H locs 0 0 (MQ below (mu_Q (aM am) (none) (fun H => va_P D vwCl (wN ci am X kr (nI (stt X.2.2.2.2.2.1 X.2.2.2.2.1 p)) (nI (nxt X.2.2.2.2.2.1 X.2.2.2.2.1 p)) (nI (min (srt X.2.2.2.2.2.1 X.2.2.2.2.1 p) 3)) (nI (vlu X.2.2.2.2.2.1 X.2.2.2.2.1 p)) q4 q5 iw kn y0 y1 y2 y3 y4 y5 y6) H)) ([.ref (am 0)] : List Value).toArray s 0 0 (aM am)) (F0 m 84 ls []) := by
              intro k84
              induction k84 with
              | zero => intro cur h0; exact absurd h0 (Nat.not_lt_zero _)
              | succ k84 ih84 =>
                intro cur hk84 h_c2 h_x1    H locs hP hS ls hl
                have hD : va_D (aM am) (wN ci am X kr (nI ((stt X.2.2.2.2.2.1 X.2.2.2.2.1 p))) (nI (cur)) (nI (1)) (nI (0)) q4 q5 iw kn y0 y1 y2 y3 y4 y5 y6) := wN_D hI
                refine lv_aload_n hx hb dX4_next_84 rfl (lv_at hl 1 rfl) ?_
                refine lv_aload_n hx hb dX4_next_85 rfl (lv_at hl 1 rfl) ?_
                refine va_get (D := D) (ci := 4) (v := .int (nI cur)) (C := RX4) (T := TX4) (N := 24) hx hb hts hinX4 hown hK hP 0 rfl rfl 12 (by decide) (hts (.fieldLink RX4 250 "OneShortModel" "ends" "I") (List.mem_of_getElem? (i := 1) rfl)) (fun _ h9 => h9) rfl dX4_next_86 ?_
                refine ro_V (n := 1) (As := [.int (nI cur)]) (rest := []) ⟨hx, hb, hml, hown, hts⟩ (c_X4_byteAt l D ci am X kr (nI ((stt X.2.2.2.2.2.1 X.2.2.2.2.1 p))) (nI (cur)) (nI (1)) (nI (0)) q4 q5 iw kn y0 y1 y2 y3 y4 y5 y6 hI G adK adV fx (cur) hGA h_kn h_tl h_tb (by omega)) gX4_next_X4_byteAt rfl ⟨rfl, rfl⟩ (by decide +kernel) rfl ⟨Nat.le_of_ble_eq_true rfl, Nat.le_of_ble_eq_true rfl⟩ hE (enW_S hGA hs0 hS) hK hP (ci := 4) (q0 := 0) rfl rfl hl.1 rfl (Nat.le_of_ble_eq_true rfl) dX4_next_89 ⟨Nat.zero_le _, Nat.zero_le _⟩ ?_
                have f15 := bE_le (tl := X.2.2.2.2.1) h_tb (cur)
                have f16 := (fun h => bE_lt h : bE X.2.2.2.2.2.1 X.2.2.2.2.1 cur ≠ 0 → cur < X.2.2.2.2.1)
                refine lv_bipush (v := nI (97)) hx hb dX4_next_92 (by decide) ?_
                refine lv_bipush (v := nI (122)) hx hb dX4_next_94 (by decide) ?_
                refine ro_S (n := 3) (As := [.int (nI (bE X.2.2.2.2.2.1 X.2.2.2.2.1 cur) - nI (1)), .int (nI 97), .int (nI 122)]) (rest := []) ⟨hx, hb, hml, hown, hts⟩ (c_X4_within l D ci (wN ci am X kr (nI ((stt X.2.2.2.2.2.1 X.2.2.2.2.1 p))) (nI (cur)) (nI (1)) (nI (0)) q4 q5 iw kn y0 y1 y2 y3 y4 y5 y6) (nI (bE X.2.2.2.2.2.1 X.2.2.2.2.1 cur) - nI (1)) (nI (97)) (nI (122)) ) gX4_next_X4_within rfl ⟨rfl, rfl⟩ (by decide +kernel) rfl ⟨Nat.le_of_ble_eq_true rfl, Nat.le_of_ble_eq_true rfl⟩ hE_T trivial hK hP hl.1 rfl (Nat.le_of_ble_eq_true rfl) dX4_next_96 ⟨Nat.zero_le _, Nat.zero_le _⟩ ?_
                refine nv_cv (congrArg bI (wth_inR (nI (bE X.2.2.2.2.2.1 X.2.2.2.2.1 cur) - nI (1)) 97 122 (by decide) (by decide))) ?_
                refine nv_cv (show bI (inR (nI (bE X.2.2.2.2.2.1 X.2.2.2.2.1 cur) - nI (1)) 97 122) = bI (bLt (bE X.2.2.2.2.2.1 X.2.2.2.2.1 cur)) from congrArg bI (inR_lt (by omega))) ?_
                refine nv_ifeq_b (tgt := 206) hx hb dX4_next_99 (by decide) (fun c17 => ?_) (fun c17 => ?_)
                · obtain rfl : cur = nxt X.2.2.2.2.2.1 X.2.2.2.2.1 p := ext_e (P := ltr X.2.2.2.2.2.1 X.2.2.2.2.1) c17 h_x1
                  exact mu_vret hx hb hr hlocks hS ((by first | ((obtain ⟨e_1, e_2, e_3⟩ := nx_0 e_s); rw [e_1, e_2, e_3]; exact hP) | ((obtain ⟨e_2, e_3⟩ := nx_1 e_s); rw [e_2, e_3]; exact hP) | (rw [e_s]; exact hP) | ((obtain ⟨e_1, e_2, e_3⟩ := nx_3 e_s); rw [e_1, e_2, e_3]; exact hP))) dX4_next_206
                · have f18 : cur < X.2.2.2.2.1 := ltr_lt (tb := X.2.2.2.2.2.1) (tl := X.2.2.2.2.1) c17
                  refine lv_aload_n hx hb dX4_next_102 rfl (lv_at hl 1 rfl) ?_
                  refine lv_dup hx hb dX4_next_103 rfl ?_
                  refine va_get (D := D) (ci := 4) (v := .int (nI cur)) (C := RX4) (T := TX4) (N := 24) hx hb hts hinX4 hown hK hP 0 rfl rfl 12 (by decide) (hts (.fieldLink RX4 250 "OneShortModel" "ends" "I") (List.mem_of_getElem? (i := 1) rfl)) (fun _ h9 => h9) rfl dX4_next_104 ?_
                  refine lv_iconst (v := nI (1)) hx hb dX4_next_107 (by decide) ?_
                  refine nv_iadd hx hb dX4_next_108 ?_
                  refine va_put (D := D) (ci := 4) (v := .int (nI ((cur + 1)))) (ty := .int) (C := RX4) (T := TX4) (N := 24) hx hb hts hinX4 tyX4 tyX4_ok nmX4 hown hK hP hD hS 0 rfl rfl 12 (by decide) (hts (.fieldLink RX4 250 "OneShortModel" "ends" "I") (List.mem_of_getElem? (i := 1) rfl)) (fun _ h9 => h9) rfl (by decide +kernel) rfl rfl (Nat.le_of_ble_eq_true rfl) dX4_next_109 (fun H locs hP hD hS => ?_)
                  have hP : va_P D vwCl (wN ci am X kr (nI ((stt X.2.2.2.2.2.1 X.2.2.2.2.1 p))) (nI ((cur + 1))) (nI (1)) (nI (0)) q4 q5 iw kn y0 y1 y2 y3 y4 y5 y6) H := va_P.re (wN_q1 ci am X kr (nI ((stt X.2.2.2.2.2.1 X.2.2.2.2.1 p))) (nI (cur)) (nI (1)) (nI (0)) q4 q5 iw kn y0 y1 y2 y3 y4 y5 y6 (nI ((cur + 1)))) hP
                  have hD : va_D (aM am) (wN ci am X kr (nI ((stt X.2.2.2.2.2.1 X.2.2.2.2.1 p))) (nI ((cur + 1))) (nI (1)) (nI (0)) q4 q5 iw kn y0 y1 y2 y3 y4 y5 y6) := wN_D hI
                  refine lv_goto (tgt := 84) hx hb dX4_next_112 (by decide) ?_
                  exact ih84 (cur + 1) (by omega) (by omega) (ext_s (P := ltr X.2.2.2.2.2.1 X.2.2.2.2.1) c17 (by omega) h_x1)  _ _ hP hS ls (lv_sub hl [0, 1] rfl)
            exact L84 _ (stt X.2.2.2.2.2.1 X.2.2.2.2.1 p) (Nat.lt_succ_self _) (by omega) (x1_i e_s)  _ _ hP hS ls (lv_sub hl [0, 1] rfl)
        · have e_s : srt X.2.2.2.2.2.1 X.2.2.2.2.1 p = 0 := sr_0 c6
          refine lv_aload_n hx hb dX4_next_60 rfl (lv_at hl 1 rfl) ?_
          refine lv_iconst (v := nI (0)) hx hb dX4_next_61 (by decide) ?_
          refine va_put (D := D) (ci := 4) (v := .int (nI 0)) (ty := .int) (C := RX4) (T := TX4) (N := 24) hx hb hts hinX4 tyX4 tyX4_ok nmX4 hown hK hP hD hS 0 rfl rfl 13 (by decide) (hts (.fieldLink RX4 262 "OneShortModel" "sort" "I") (List.mem_of_getElem? (i := 4) rfl)) (fun _ h9 => h9) rfl (by decide +kernel) rfl rfl (Nat.le_of_ble_eq_true rfl) dX4_next_62 (fun H locs hP hD hS => ?_)
          have hP : va_P D vwCl (wN ci am X kr (nI ((stt X.2.2.2.2.2.1 X.2.2.2.2.1 p))) (nI ((stt X.2.2.2.2.2.1 X.2.2.2.2.1 p))) (nI (0)) (nI (0)) q4 q5 iw kn y0 y1 y2 y3 y4 y5 y6) H := va_P.re (wN_q2 ci am X kr (nI ((stt X.2.2.2.2.2.1 X.2.2.2.2.1 p))) (nI ((stt X.2.2.2.2.2.1 X.2.2.2.2.1 p))) q2 (nI (0)) q4 q5 iw kn y0 y1 y2 y3 y4 y5 y6 (nI (0))) hP
          have hD : va_D (aM am) (wN ci am X kr (nI ((stt X.2.2.2.2.2.1 X.2.2.2.2.1 p))) (nI ((stt X.2.2.2.2.2.1 X.2.2.2.2.1 p))) (nI (0)) (nI (0)) q4 q5 iw kn y0 y1 y2 y3 y4 y5 y6) := wN_D hI
          refine lv_goto (tgt := 206) hx hb dX4_next_65 (by decide) ?_
          exact mu_vret hx hb hr hlocks hS ((by first | ((obtain ⟨e_1, e_2, e_3⟩ := nx_0 e_s); rw [e_1, e_2, e_3]; exact hP) | ((obtain ⟨e_2, e_3⟩ := nx_1 e_s); rw [e_2, e_3]; exact hP) | (rw [e_s]; exact hP) | ((obtain ⟨e_1, e_2, e_3⟩ := nx_3 e_s); rw [e_1, e_2, e_3]; exact hP))) dX4_next_206
      · refine lv_aload_n hx hb dX4_next_21 rfl (lv_at hl 0 rfl) ?_
        refine lv_dup hx hb dX4_next_22 rfl ?_
        refine va_get (D := D) (ci := 4) (v := .int (nI cur)) (C := RX4) (T := TX4) (N := 24) hx hb hts hinX4 hown hK hP 0 rfl rfl 11 (by decide) (hts (.fieldLink RX4 253 "OneShortModel" "begins" "I") (List.mem_of_getElem? (i := 2) rfl)) (fun _ h9 => h9) rfl dX4_next_23 ?_
        refine lv_iconst (v := nI (1)) hx hb dX4_next_26 (by decide) ?_
        refine nv_iadd hx hb dX4_next_27 ?_
        refine va_put (D := D) (ci := 4) (v := .int (nI ((cur + 1)))) (ty := .int) (C := RX4) (T := TX4) (N := 24) hx hb hts hinX4 tyX4 tyX4_ok nmX4 hown hK hP hD hS 0 rfl rfl 11 (by decide) (hts (.fieldLink RX4 253 "OneShortModel" "begins" "I") (List.mem_of_getElem? (i := 2) rfl)) (fun _ h9 => h9) rfl (by decide +kernel) rfl rfl (Nat.le_of_ble_eq_true rfl) dX4_next_28 (fun H locs hP hD hS => ?_)
        have hP : va_P D vwCl (wN ci am X kr (nI ((cur + 1))) (nI (p)) q2 q3 q4 q5 iw kn y0 y1 y2 y3 y4 y5 y6) H := va_P.re (wN_q0 ci am X kr (nI (cur)) (nI (p)) q2 q3 q4 q5 iw kn y0 y1 y2 y3 y4 y5 y6 (nI ((cur + 1)))) hP
        have hD : va_D (aM am) (wN ci am X kr (nI ((cur + 1))) (nI (p)) q2 q3 q4 q5 iw kn y0 y1 y2 y3 y4 y5 y6) := wN_D hI
        refine lv_goto (tgt := 8) hx hb dX4_next_31 (by decide) ?_
        exact ih8 (cur + 1) (by omega) (by omega) (ext_s (blk_y c3) (by omega) h_e)  _ _ hP hS ls (lv_sub hl [0] rfl)
  exact L8 _ (p) (Nat.lt_succ_self _) h_p rfl  _ _ hP hS ls (lv_sub hl [0] rfl)

set_option maxHeartbeats 4000000 in
set_option maxRecDepth 100000 in
/-- X4_isWord -/
theorem c_X4_isWord (l : Launch) (D : va_G) (ci : Nat → ClassId) (am : Nat → Nat) (X : AS) (kr : Nat → Int32) (q0 q1 q2 q3 q4 q5 : Int32) (iw : Bool) (kn : Nat → Option Nat) (y0 y1 y2 y3 y4 y5 y6 : Nat → Int32) (hI : injA am 16) (G : Nat → Prop) (adK adV : Nat → Nat) (fx : Nat) (p i : Nat) (hGA : ∀ q, aM am q → G q) (h_kn : ∀ j, j < 7 → kn j = some (adK j)) (h_tl : X.2.2.2.2.1 ≤ 120) (h_tb : ∀ k, X.2.2.2.2.2.1 k < 256) (h_p : p ≤ X.2.2.2.2.1) (h_i : i < 12) : Met l yX4_isWord wsX4_isWord ({ frames := 4, cells := 0, slots := 0, locals := 85 } : Room) (va_Pc [.ref (am 0), .ref (adK (i))] (ro_B D (tyL ci) (wN ci am X kr (nI (stt X.2.2.2.2.2.1 X.2.2.2.2.1 p)) (nI (nxt X.2.2.2.2.2.1 X.2.2.2.2.1 p)) (nI (min (srt X.2.2.2.2.2.1 X.2.2.2.2.1 p) 3)) (nI (vlu X.2.2.2.2.2.1 X.2.2.2.2.1 p)) q4 q5 iw kn y0 y1 y2 y3 y4 y5 y6) (enW G adK adV fx rfX))) (ro_Q (some (.int (bI (isW X.2.2.2.2.2.1 X.2.2.2.2.1 p i))))) 0 0 (fun _ => False) := by
  refine ro_Met (cc := cX4_isWord) (maxL := 4) (ret := (some .boolean)) [(0, .ref (am 0)), (1, .ref (adK (i)))] (by decide) rfl (Nat.le_of_ble_eq_true rfl) rfl ?_
  intro pg e s m below meth c hx hb hml hr hlocks hts hown hP hK hs ls hl
  have hown : s.vm.findClass RX4 = some m.cls := hown
  have hinX4 : ∀ w ∈ wsX40, w ∈ wsX4_isWord := by decide +kernel
  have hE := hE_W G adK adV fx rfX
  have f_t := tokf (tb := X.2.2.2.2.2.1) (tl := X.2.2.2.2.1) h_p
  refine lv_aload_n hx hb dX4_isWord_0 rfl (lv_at hl 0 rfl) ?_
  refine va_get (D := D) (ci := 4) (v := .int (nI (min (srt X.2.2.2.2.2.1 X.2.2.2.2.1 p) 3))) (C := RX4) (T := TX4) (N := 24) hx hb hts hinX4 hown hK hP 0 rfl rfl 13 (by decide) (hts (.fieldLink RX4 262 "OneShortModel" "sort" "I") (List.mem_of_getElem? (i := 1) rfl)) (fun _ h9 => h9) rfl dX4_isWord_1 ?_
  refine lv_iconst (v := nI (1)) hx hb dX4_isWord_4 (by decide) ?_
  refine nv_icmp_ne (tgt := 28) hx hb (by omega) (by omega) dX4_isWord_5 (by decide) (fun c1 => ?_) (fun c1 => ?_)
  · refine lv_iconst (v := nI (0)) hx hb dX4_isWord_28 (by decide) ?_
    refine lv_istore_n (lv' := [(2, .int (nI 0)), (0, .ref (am 0)), (1, .ref (adK (i)))]) hx hb dX4_isWord_29 rfl hl (by decide) rfl (fun ls hl => ?_)
    refine lv_iconst (v := nI (0)) hx hb dX4_isWord_30 (by decide) ?_
    refine lv_istore_n (lv' := [(3, .int (nI 0)), (2, .int (nI 0)), (0, .ref (am 0)), (1, .ref (adK (i)))]) hx hb dX4_isWord_31 rfl hl (by decide) rfl (fun ls hl => ?_)
    have L32 : ∀ (k32 : Nat) (k : Nat), (wd i).length - k < k32 → (k ≤ (wd i).length) → ∀ (x2 : Int32), ∀ (x3 : Int32), x2 = bI (((srt X.2.2.2.2.2.1 X.2.2.2.2.1 p == 1 && (nxt X.2.2.2.2.2.1 X.2.2.2.2.1 p - stt X.2.2.2.2.2.1 X.2.2.2.2.1 p == (wd i).length)) && !anyTo (fun k => bE X.2.2.2.2.2.1 X.2.2.2.2.1 (stt X.2.2.2.2.2.1 X.2.2.2.2.1 p + k) != (wd i).getD k 0 + 1) (k))) → x3 = nI (k) → ∀ ls : Array Slot, lv_has ls 4 [(2, .int (x2)), (3, .int (x3)), (0, .ref (am 0)), (1, .ref (adK (i)))] → W pg l e (headSpec wsX4_isWord ({ frames := 4, cells := 0, slots := 0, locals := 85 } : Room)).room s m ([.ref (am 0), .ref (adK (i))] : List Value).toArray below meth c s.heap [] 0 0 (MQ below (ro_Q (some (.int (bI (isW X.2.2.2.2.2.1 X.2.2.2.2.1 p i))))) ([.ref (am 0), .ref (adK (i))] : List Value).toArray s 0 0 (fun _ => False)) (F0 m 32 ls []) := by
      intro k32
      induction k32 with
      | zero => intro k h0; exact absurd h0 (Nat.not_lt_zero _)
      | succ k32 ih32 =>
        intro k hk32 h_k x2 x3 e2 e3 ls hl
        subst e2
        subst e3
        refine lv_iload_n hx hb dX4_isWord_32 rfl (lv_at hl 1 rfl) ?_
        refine lv_aload_n hx hb dX4_isWord_33 rfl (lv_at hl 3 rfl) ?_
        refine ro_VO (n := 0) (As := []) (rest := [.int (nI k)]) ⟨hx, hb, hml, hown, hts⟩ (c_J0_length l D ci (wN ci am X kr (nI (stt X.2.2.2.2.2.1 X.2.2.2.2.1 p)) (nI (nxt X.2.2.2.2.2.1 X.2.2.2.2.1 p)) (nI (min (srt X.2.2.2.2.2.1 X.2.2.2.2.1 p) 3)) (nI (vlu X.2.2.2.2.2.1 X.2.2.2.2.1 p)) q4 q5 iw kn y0 y1 y2 y3 y4 y5 y6) G adK adV fx rfX (i := (i)) (by omega)) gX4_isWord_J0_length_8abf5 rfl ⟨rfl, rfl⟩ (by decide +kernel) rfl ⟨Nat.le_of_ble_eq_true rfl, Nat.le_of_ble_eq_true rfl⟩ (hE_W G adK adV fx rfX) hs hK hP (vk_recv hs.1 (by omega) va_S.rf) hl.1 rfl (Nat.le_of_ble_eq_true rfl) dX4_isWord_34 ⟨Nat.zero_le _, Nat.zero_le _⟩ ?_
        have f2 := (wd_len (i) (by omega)).2
        refine nv_icmp_ge (tgt := 75) hx hb (by omega) (by omega) dX4_isWord_37 (by decide) (fun c3 => ?_) (fun c3 => ?_)
        · refine lv_iload_n hx hb dX4_isWord_75 rfl (lv_at hl 0 rfl) ?_
          refine nv_cv (show bI (((srt X.2.2.2.2.2.1 X.2.2.2.2.1 p == 1 && (nxt X.2.2.2.2.2.1 X.2.2.2.2.1 p - stt X.2.2.2.2.2.1 X.2.2.2.2.1 p == (wd i).length)) && !anyTo (fun k => bE X.2.2.2.2.2.1 X.2.2.2.2.1 (stt X.2.2.2.2.2.1 X.2.2.2.2.1 p + k) != (wd i).getD k 0 + 1) (k))) = bI (isW X.2.2.2.2.2.1 X.2.2.2.2.1 p i) from congrArg bI (by first | (rw [show k = (wd i).length by omega]; rfl) | (rw [c3]; exact (ap_end h_k c3).symm))) ?_
          exact ro_zret hx hb hr hlocks dX4_isWord_76
        · refine lv_iload_n hx hb dX4_isWord_40 rfl (lv_at hl 0 rfl) ?_
          refine nv_ifeq_b (tgt := 75) hx hb dX4_isWord_41 (by decide) (fun c4 => ?_) (fun c4 => ?_)
          · refine lv_iload_n hx hb dX4_isWord_75 rfl (lv_at hl 0 rfl) ?_
            refine nv_cv (show bI (((srt X.2.2.2.2.2.1 X.2.2.2.2.1 p == 1 && (nxt X.2.2.2.2.2.1 X.2.2.2.2.1 p - stt X.2.2.2.2.2.1 X.2.2.2.2.1 p == (wd i).length)) && !anyTo (fun k => bE X.2.2.2.2.2.1 X.2.2.2.2.1 (stt X.2.2.2.2.2.1 X.2.2.2.2.1 p + k) != (wd i).getD k 0 + 1) (k))) = bI (isW X.2.2.2.2.2.1 X.2.2.2.2.1 p i) from congrArg bI (by first | (rw [show k = (wd i).length by omega]; rfl) | (rw [c4]; exact (ap_end h_k c4).symm))) ?_
            exact ro_zret hx hb hr hlocks dX4_isWord_76
          · have h_w := c4
            simp only [Bool.and_eq_true, beq_iff_eq, Bool.not_eq_true'] at h_w
            obtain ⟨⟨h_w1, h_w2⟩, h_w3⟩ := h_w
            have e_b := bE_in (tb := X.2.2.2.2.2.1) (tl := X.2.2.2.2.1) (k := stt X.2.2.2.2.2.1 X.2.2.2.2.1 p + k) (by omega)
            have f_b := h_tb (stt X.2.2.2.2.2.1 X.2.2.2.2.1 p + k)
            refine lv_aload_n hx hb dX4_isWord_44 rfl (lv_at hl 2 rfl) ?_
            refine va_get (D := D) (ci := 4) (v := .ref (am 9)) (C := RX4) (T := TX4) (N := 24) hx hb hts hinX4 hown hK hP 0 rfl rfl 9 (by decide) (hts (.fieldLink RX4 34 "OneShortModel" "tape" "[I") (List.mem_of_getElem? (i := 4) rfl)) (fun _ h9 => h9) rfl dX4_isWord_45 ?_
            refine lv_aload_n hx hb dX4_isWord_48 rfl (lv_at hl 2 rfl) ?_
            refine va_get (D := D) (ci := 4) (v := .int (nI (stt X.2.2.2.2.2.1 X.2.2.2.2.1 p))) (C := RX4) (T := TX4) (N := 24) hx hb hts hinX4 hown hK hP 0 rfl rfl 11 (by decide) (hts (.fieldLink RX4 253 "OneShortModel" "begins" "I") (List.mem_of_getElem? (i := 3) rfl)) (fun _ h9 => h9) rfl dX4_isWord_49 ?_
            refine lv_iload_n hx hb dX4_isWord_52 rfl (lv_at hl 1 rfl) ?_
            refine nv_iadd hx hb dX4_isWord_53 ?_
            refine nv_iald (v := nI (X.2.2.2.2.2.1 ((stt X.2.2.2.2.2.1 X.2.2.2.2.1 p + k)))) hx hb hK hP 9 0 rfl rfl (by omega) (by decide) rfl dX4_isWord_54 ?_
            refine lv_aload_n hx hb dX4_isWord_55 rfl (lv_at hl 3 rfl) ?_
            refine lv_iload_n hx hb dX4_isWord_56 rfl (lv_at hl 1 rfl) ?_
            refine ro_VO (n := 1) (As := [.int (nI k)]) (rest := [.int (nI (X.2.2.2.2.2.1 ((stt X.2.2.2.2.2.1 X.2.2.2.2.1 p + k))))]) ⟨hx, hb, hml, hown, hts⟩ (c_J0_charAt l D ci (wN ci am X kr (nI (stt X.2.2.2.2.2.1 X.2.2.2.2.1 p)) (nI (nxt X.2.2.2.2.2.1 X.2.2.2.2.1 p)) (nI (min (srt X.2.2.2.2.2.1 X.2.2.2.2.1 p) 3)) (nI (vlu X.2.2.2.2.2.1 X.2.2.2.2.1 p)) q4 q5 iw kn y0 y1 y2 y3 y4 y5 y6) G adK adV fx rfX (i := (i)) (by omega) (by omega)) gX4_isWord_J0_charAt_5068e rfl ⟨rfl, rfl⟩ (by decide +kernel) rfl ⟨Nat.le_of_ble_eq_true rfl, Nat.le_of_ble_eq_true rfl⟩ (hE_W G adK adV fx rfX) hs hK hP (vk_recv hs.1 (by omega) va_S.rf) hl.1 rfl (Nat.le_of_ble_eq_true rfl) dX4_isWord_57 ⟨Nat.zero_le _, Nat.zero_le _⟩ ?_
            have f5 := (wd_byt (i) (by omega) (k) (by omega) (by omega)).2
            refine nv_icmp_ne (tgt := 67) hx hb (by omega) (by omega) dX4_isWord_60 (by decide) (fun c6 => ?_) (fun c6 => ?_)
            · refine lv_iconst (v := nI (0)) hx hb dX4_isWord_67 (by decide) ?_
              refine lv_istore_n (lv' := [(2, .int (nI 0)), (3, .int (nI k)), (0, .ref (am 0)), (1, .ref (adK (i)))]) hx hb dX4_isWord_68 rfl hl (by decide) rfl (fun ls hl => ?_)
              refine nv_iinc1 (lv' := [(3, .int (nI (k + 1))), (2, .int (nI 0)), (0, .ref (am 0)), (1, .ref (adK (i)))]) hx hb dX4_isWord_69 hl (k := 1) rfl (by decide) rfl (fun ls hl => ?_)
              refine lv_goto (tgt := 32) hx hb dX4_isWord_72 (by decide) ?_
              exact ih32 (k + 1) (by omega) (by omega) (nI (0)) (nI (k + 1)) (by first | exact nv_t (ap_t c4 (bne_f e_b c6)) | exact nv_f (ap_f1 (bne_t e_b c6))) rfl ls (lv_sub hl [1, 0, 2, 3] rfl)
            · refine lv_iconst (v := nI (1)) hx hb dX4_isWord_63 (by decide) ?_
              refine lv_goto (tgt := 68) hx hb dX4_isWord_64 (by decide) ?_
              refine lv_istore_n (lv' := [(2, .int (nI 1)), (3, .int (nI k)), (0, .ref (am 0)), (1, .ref (adK (i)))]) hx hb dX4_isWord_68 rfl hl (by decide) rfl (fun ls hl => ?_)
              refine nv_iinc1 (lv' := [(3, .int (nI (k + 1))), (2, .int (nI 1)), (0, .ref (am 0)), (1, .ref (adK (i)))]) hx hb dX4_isWord_69 hl (k := 1) rfl (by decide) rfl (fun ls hl => ?_)
              refine lv_goto (tgt := 32) hx hb dX4_isWord_72 (by decide) ?_
              exact ih32 (k + 1) (by omega) (by omega) (nI (1)) (nI (k + 1)) (by first | exact nv_t (ap_t c4 (bne_f e_b c6)) | exact nv_f (ap_f1 (bne_t e_b c6))) rfl ls (lv_sub hl [1, 0, 2, 3] rfl)
    exact L32 _ (0) (Nat.lt_succ_self _) (by omega) (nI (0)) (nI (0)) (by first | exact nv_t (by simp [anyTo]; omega) | exact nv_f (by simp [anyTo]; omega)) rfl ls (lv_sub hl [1, 0, 2, 3] rfl)
  · refine lv_aload_n hx hb dX4_isWord_8 rfl (lv_at hl 0 rfl) ?_
    refine va_get (D := D) (ci := 4) (v := .int (nI (nxt X.2.2.2.2.2.1 X.2.2.2.2.1 p))) (C := RX4) (T := TX4) (N := 24) hx hb hts hinX4 hown hK hP 0 rfl rfl 12 (by decide) (hts (.fieldLink RX4 250 "OneShortModel" "ends" "I") (List.mem_of_getElem? (i := 2) rfl)) (fun _ h9 => h9) rfl dX4_isWord_9 ?_
    refine lv_aload_n hx hb dX4_isWord_12 rfl (lv_at hl 0 rfl) ?_
    refine va_get (D := D) (ci := 4) (v := .int (nI (stt X.2.2.2.2.2.1 X.2.2.2.2.1 p))) (C := RX4) (T := TX4) (N := 24) hx hb hts hinX4 hown hK hP 0 rfl rfl 11 (by decide) (hts (.fieldLink RX4 253 "OneShortModel" "begins" "I") (List.mem_of_getElem? (i := 3) rfl)) (fun _ h9 => h9) rfl dX4_isWord_13 ?_
    refine nv_isub hx hb (by omega) dX4_isWord_16 ?_
    refine lv_aload_n hx hb dX4_isWord_17 rfl (lv_at hl 1 rfl) ?_
    refine ro_VO (n := 0) (As := []) (rest := [.int (nI ((nxt X.2.2.2.2.2.1 X.2.2.2.2.1 p - stt X.2.2.2.2.2.1 X.2.2.2.2.1 p)))]) ⟨hx, hb, hml, hown, hts⟩ (c_J0_length l D ci (wN ci am X kr (nI (stt X.2.2.2.2.2.1 X.2.2.2.2.1 p)) (nI (nxt X.2.2.2.2.2.1 X.2.2.2.2.1 p)) (nI (min (srt X.2.2.2.2.2.1 X.2.2.2.2.1 p) 3)) (nI (vlu X.2.2.2.2.2.1 X.2.2.2.2.1 p)) q4 q5 iw kn y0 y1 y2 y3 y4 y5 y6) G adK adV fx rfX (i := (i)) (by omega)) gX4_isWord_J0_length_8abf5 rfl ⟨rfl, rfl⟩ (by decide +kernel) rfl ⟨Nat.le_of_ble_eq_true rfl, Nat.le_of_ble_eq_true rfl⟩ (hE_W G adK adV fx rfX) hs hK hP (vk_recv hs.1 (by omega) va_S.rf) hl.1 rfl (Nat.le_of_ble_eq_true rfl) dX4_isWord_18 ⟨Nat.zero_le _, Nat.zero_le _⟩ ?_
    have f7 := (wd_len (i) (by omega)).2
    refine nv_icmp_ne (tgt := 28) hx hb (by omega) (by omega) dX4_isWord_21 (by decide) (fun c8 => ?_) (fun c8 => ?_)
    · refine lv_iconst (v := nI (0)) hx hb dX4_isWord_28 (by decide) ?_
      refine lv_istore_n (lv' := [(2, .int (nI 0)), (0, .ref (am 0)), (1, .ref (adK (i)))]) hx hb dX4_isWord_29 rfl hl (by decide) rfl (fun ls hl => ?_)
      refine lv_iconst (v := nI (0)) hx hb dX4_isWord_30 (by decide) ?_
      refine lv_istore_n (lv' := [(3, .int (nI 0)), (2, .int (nI 0)), (0, .ref (am 0)), (1, .ref (adK (i)))]) hx hb dX4_isWord_31 rfl hl (by decide) rfl (fun ls hl => ?_)
      have L32 : ∀ (k32 : Nat) (k : Nat), (wd i).length - k < k32 → (k ≤ (wd i).length) → ∀ (x2 : Int32), ∀ (x3 : Int32), x2 = bI (((srt X.2.2.2.2.2.1 X.2.2.2.2.1 p == 1 && (nxt X.2.2.2.2.2.1 X.2.2.2.2.1 p - stt X.2.2.2.2.2.1 X.2.2.2.2.1 p == (wd i).length)) && !anyTo (fun k => bE X.2.2.2.2.2.1 X.2.2.2.2.1 (stt X.2.2.2.2.2.1 X.2.2.2.2.1 p + k) != (wd i).getD k 0 + 1) (k))) → x3 = nI (k) → ∀ ls : Array Slot, lv_has ls 4 [(2, .int (x2)), (3, .int (x3)), (0, .ref (am 0)), (1, .ref (adK (i)))] → W pg l e (headSpec wsX4_isWord ({ frames := 4, cells := 0, slots := 0, locals := 85 } : Room)).room s m ([.ref (am 0), .ref (adK (i))] : List Value).toArray below meth c s.heap [] 0 0 (MQ below (ro_Q (some (.int (bI (isW X.2.2.2.2.2.1 X.2.2.2.2.1 p i))))) ([.ref (am 0), .ref (adK (i))] : List Value).toArray s 0 0 (fun _ => False)) (F0 m 32 ls []) := by
        intro k32
        induction k32 with
        | zero => intro k h0; exact absurd h0 (Nat.not_lt_zero _)
        | succ k32 ih32 =>
          intro k hk32 h_k x2 x3 e2 e3 ls hl
          subst e2
          subst e3
          refine lv_iload_n hx hb dX4_isWord_32 rfl (lv_at hl 1 rfl) ?_
          refine lv_aload_n hx hb dX4_isWord_33 rfl (lv_at hl 3 rfl) ?_
          refine ro_VO (n := 0) (As := []) (rest := [.int (nI k)]) ⟨hx, hb, hml, hown, hts⟩ (c_J0_length l D ci (wN ci am X kr (nI (stt X.2.2.2.2.2.1 X.2.2.2.2.1 p)) (nI (nxt X.2.2.2.2.2.1 X.2.2.2.2.1 p)) (nI (min (srt X.2.2.2.2.2.1 X.2.2.2.2.1 p) 3)) (nI (vlu X.2.2.2.2.2.1 X.2.2.2.2.1 p)) q4 q5 iw kn y0 y1 y2 y3 y4 y5 y6) G adK adV fx rfX (i := (i)) (by omega)) gX4_isWord_J0_length_8abf5 rfl ⟨rfl, rfl⟩ (by decide +kernel) rfl ⟨Nat.le_of_ble_eq_true rfl, Nat.le_of_ble_eq_true rfl⟩ (hE_W G adK adV fx rfX) hs hK hP (vk_recv hs.1 (by omega) va_S.rf) hl.1 rfl (Nat.le_of_ble_eq_true rfl) dX4_isWord_34 ⟨Nat.zero_le _, Nat.zero_le _⟩ ?_
          have f9 := (wd_len (i) (by omega)).2
          refine nv_icmp_ge (tgt := 75) hx hb (by omega) (by omega) dX4_isWord_37 (by decide) (fun c10 => ?_) (fun c10 => ?_)
          · refine lv_iload_n hx hb dX4_isWord_75 rfl (lv_at hl 0 rfl) ?_
            refine nv_cv (show bI (((srt X.2.2.2.2.2.1 X.2.2.2.2.1 p == 1 && (nxt X.2.2.2.2.2.1 X.2.2.2.2.1 p - stt X.2.2.2.2.2.1 X.2.2.2.2.1 p == (wd i).length)) && !anyTo (fun k => bE X.2.2.2.2.2.1 X.2.2.2.2.1 (stt X.2.2.2.2.2.1 X.2.2.2.2.1 p + k) != (wd i).getD k 0 + 1) (k))) = bI (isW X.2.2.2.2.2.1 X.2.2.2.2.1 p i) from congrArg bI (by first | (rw [show k = (wd i).length by omega]; rfl) | (rw [c10]; exact (ap_end h_k c10).symm))) ?_
            exact ro_zret hx hb hr hlocks dX4_isWord_76
          · refine lv_iload_n hx hb dX4_isWord_40 rfl (lv_at hl 0 rfl) ?_
            refine nv_ifeq_b (tgt := 75) hx hb dX4_isWord_41 (by decide) (fun c11 => ?_) (fun c11 => ?_)
            · refine lv_iload_n hx hb dX4_isWord_75 rfl (lv_at hl 0 rfl) ?_
              refine nv_cv (show bI (((srt X.2.2.2.2.2.1 X.2.2.2.2.1 p == 1 && (nxt X.2.2.2.2.2.1 X.2.2.2.2.1 p - stt X.2.2.2.2.2.1 X.2.2.2.2.1 p == (wd i).length)) && !anyTo (fun k => bE X.2.2.2.2.2.1 X.2.2.2.2.1 (stt X.2.2.2.2.2.1 X.2.2.2.2.1 p + k) != (wd i).getD k 0 + 1) (k))) = bI (isW X.2.2.2.2.2.1 X.2.2.2.2.1 p i) from congrArg bI (by first | (rw [show k = (wd i).length by omega]; rfl) | (rw [c11]; exact (ap_end h_k c11).symm))) ?_
              exact ro_zret hx hb hr hlocks dX4_isWord_76
            · have h_w := c11
              simp only [Bool.and_eq_true, beq_iff_eq, Bool.not_eq_true'] at h_w
              obtain ⟨⟨h_w1, h_w2⟩, h_w3⟩ := h_w
              have e_b := bE_in (tb := X.2.2.2.2.2.1) (tl := X.2.2.2.2.1) (k := stt X.2.2.2.2.2.1 X.2.2.2.2.1 p + k) (by omega)
              have f_b := h_tb (stt X.2.2.2.2.2.1 X.2.2.2.2.1 p + k)
              refine lv_aload_n hx hb dX4_isWord_44 rfl (lv_at hl 2 rfl) ?_
              refine va_get (D := D) (ci := 4) (v := .ref (am 9)) (C := RX4) (T := TX4) (N := 24) hx hb hts hinX4 hown hK hP 0 rfl rfl 9 (by decide) (hts (.fieldLink RX4 34 "OneShortModel" "tape" "[I") (List.mem_of_getElem? (i := 4) rfl)) (fun _ h9 => h9) rfl dX4_isWord_45 ?_
              refine lv_aload_n hx hb dX4_isWord_48 rfl (lv_at hl 2 rfl) ?_
              refine va_get (D := D) (ci := 4) (v := .int (nI (stt X.2.2.2.2.2.1 X.2.2.2.2.1 p))) (C := RX4) (T := TX4) (N := 24) hx hb hts hinX4 hown hK hP 0 rfl rfl 11 (by decide) (hts (.fieldLink RX4 253 "OneShortModel" "begins" "I") (List.mem_of_getElem? (i := 3) rfl)) (fun _ h9 => h9) rfl dX4_isWord_49 ?_
              refine lv_iload_n hx hb dX4_isWord_52 rfl (lv_at hl 1 rfl) ?_
              refine nv_iadd hx hb dX4_isWord_53 ?_
              refine nv_iald (v := nI (X.2.2.2.2.2.1 ((stt X.2.2.2.2.2.1 X.2.2.2.2.1 p + k)))) hx hb hK hP 9 0 rfl rfl (by omega) (by decide) rfl dX4_isWord_54 ?_
              refine lv_aload_n hx hb dX4_isWord_55 rfl (lv_at hl 3 rfl) ?_
              refine lv_iload_n hx hb dX4_isWord_56 rfl (lv_at hl 1 rfl) ?_
              refine ro_VO (n := 1) (As := [.int (nI k)]) (rest := [.int (nI (X.2.2.2.2.2.1 ((stt X.2.2.2.2.2.1 X.2.2.2.2.1 p + k))))]) ⟨hx, hb, hml, hown, hts⟩ (c_J0_charAt l D ci (wN ci am X kr (nI (stt X.2.2.2.2.2.1 X.2.2.2.2.1 p)) (nI (nxt X.2.2.2.2.2.1 X.2.2.2.2.1 p)) (nI (min (srt X.2.2.2.2.2.1 X.2.2.2.2.1 p) 3)) (nI (vlu X.2.2.2.2.2.1 X.2.2.2.2.1 p)) q4 q5 iw kn y0 y1 y2 y3 y4 y5 y6) G adK adV fx rfX (i := (i)) (by omega) (by omega)) gX4_isWord_J0_charAt_5068e rfl ⟨rfl, rfl⟩ (by decide +kernel) rfl ⟨Nat.le_of_ble_eq_true rfl, Nat.le_of_ble_eq_true rfl⟩ (hE_W G adK adV fx rfX) hs hK hP (vk_recv hs.1 (by omega) va_S.rf) hl.1 rfl (Nat.le_of_ble_eq_true rfl) dX4_isWord_57 ⟨Nat.zero_le _, Nat.zero_le _⟩ ?_
              have f12 := (wd_byt (i) (by omega) (k) (by omega) (by omega)).2
              refine nv_icmp_ne (tgt := 67) hx hb (by omega) (by omega) dX4_isWord_60 (by decide) (fun c13 => ?_) (fun c13 => ?_)
              · refine lv_iconst (v := nI (0)) hx hb dX4_isWord_67 (by decide) ?_
                refine lv_istore_n (lv' := [(2, .int (nI 0)), (3, .int (nI k)), (0, .ref (am 0)), (1, .ref (adK (i)))]) hx hb dX4_isWord_68 rfl hl (by decide) rfl (fun ls hl => ?_)
                refine nv_iinc1 (lv' := [(3, .int (nI (k + 1))), (2, .int (nI 0)), (0, .ref (am 0)), (1, .ref (adK (i)))]) hx hb dX4_isWord_69 hl (k := 1) rfl (by decide) rfl (fun ls hl => ?_)
                refine lv_goto (tgt := 32) hx hb dX4_isWord_72 (by decide) ?_
                exact ih32 (k + 1) (by omega) (by omega) (nI (0)) (nI (k + 1)) (by first | exact nv_t (ap_t c11 (bne_f e_b c13)) | exact nv_f (ap_f1 (bne_t e_b c13))) rfl ls (lv_sub hl [1, 0, 2, 3] rfl)
              · refine lv_iconst (v := nI (1)) hx hb dX4_isWord_63 (by decide) ?_
                refine lv_goto (tgt := 68) hx hb dX4_isWord_64 (by decide) ?_
                refine lv_istore_n (lv' := [(2, .int (nI 1)), (3, .int (nI k)), (0, .ref (am 0)), (1, .ref (adK (i)))]) hx hb dX4_isWord_68 rfl hl (by decide) rfl (fun ls hl => ?_)
                refine nv_iinc1 (lv' := [(3, .int (nI (k + 1))), (2, .int (nI 1)), (0, .ref (am 0)), (1, .ref (adK (i)))]) hx hb dX4_isWord_69 hl (k := 1) rfl (by decide) rfl (fun ls hl => ?_)
                refine lv_goto (tgt := 32) hx hb dX4_isWord_72 (by decide) ?_
                exact ih32 (k + 1) (by omega) (by omega) (nI (1)) (nI (k + 1)) (by first | exact nv_t (ap_t c11 (bne_f e_b c13)) | exact nv_f (ap_f1 (bne_t e_b c13))) rfl ls (lv_sub hl [1, 0, 2, 3] rfl)
      exact L32 _ (0) (Nat.lt_succ_self _) (by omega) (nI (0)) (nI (0)) (by first | exact nv_t (by simp [anyTo]; omega) | exact nv_f (by simp [anyTo]; omega)) rfl ls (lv_sub hl [1, 0, 2, 3] rfl)
    · refine lv_iconst (v := nI (1)) hx hb dX4_isWord_24 (by decide) ?_
      refine lv_goto (tgt := 29) hx hb dX4_isWord_25 (by decide) ?_
      refine lv_istore_n (lv' := [(2, .int (nI 1)), (0, .ref (am 0)), (1, .ref (adK (i)))]) hx hb dX4_isWord_29 rfl hl (by decide) rfl (fun ls hl => ?_)
      refine lv_iconst (v := nI (0)) hx hb dX4_isWord_30 (by decide) ?_
      refine lv_istore_n (lv' := [(3, .int (nI 0)), (2, .int (nI 1)), (0, .ref (am 0)), (1, .ref (adK (i)))]) hx hb dX4_isWord_31 rfl hl (by decide) rfl (fun ls hl => ?_)
      have L32 : ∀ (k32 : Nat) (k : Nat), (wd i).length - k < k32 → (k ≤ (wd i).length) → ∀ (x2 : Int32), ∀ (x3 : Int32), x2 = bI (((srt X.2.2.2.2.2.1 X.2.2.2.2.1 p == 1 && (nxt X.2.2.2.2.2.1 X.2.2.2.2.1 p - stt X.2.2.2.2.2.1 X.2.2.2.2.1 p == (wd i).length)) && !anyTo (fun k => bE X.2.2.2.2.2.1 X.2.2.2.2.1 (stt X.2.2.2.2.2.1 X.2.2.2.2.1 p + k) != (wd i).getD k 0 + 1) (k))) → x3 = nI (k) → ∀ ls : Array Slot, lv_has ls 4 [(2, .int (x2)), (3, .int (x3)), (0, .ref (am 0)), (1, .ref (adK (i)))] → W pg l e (headSpec wsX4_isWord ({ frames := 4, cells := 0, slots := 0, locals := 85 } : Room)).room s m ([.ref (am 0), .ref (adK (i))] : List Value).toArray below meth c s.heap [] 0 0 (MQ below (ro_Q (some (.int (bI (isW X.2.2.2.2.2.1 X.2.2.2.2.1 p i))))) ([.ref (am 0), .ref (adK (i))] : List Value).toArray s 0 0 (fun _ => False)) (F0 m 32 ls []) := by
        intro k32
        induction k32 with
        | zero => intro k h0; exact absurd h0 (Nat.not_lt_zero _)
        | succ k32 ih32 =>
          intro k hk32 h_k x2 x3 e2 e3 ls hl
          subst e2
          subst e3
          refine lv_iload_n hx hb dX4_isWord_32 rfl (lv_at hl 1 rfl) ?_
          refine lv_aload_n hx hb dX4_isWord_33 rfl (lv_at hl 3 rfl) ?_
          refine ro_VO (n := 0) (As := []) (rest := [.int (nI k)]) ⟨hx, hb, hml, hown, hts⟩ (c_J0_length l D ci (wN ci am X kr (nI (stt X.2.2.2.2.2.1 X.2.2.2.2.1 p)) (nI (nxt X.2.2.2.2.2.1 X.2.2.2.2.1 p)) (nI (min (srt X.2.2.2.2.2.1 X.2.2.2.2.1 p) 3)) (nI (vlu X.2.2.2.2.2.1 X.2.2.2.2.1 p)) q4 q5 iw kn y0 y1 y2 y3 y4 y5 y6) G adK adV fx rfX (i := (i)) (by omega)) gX4_isWord_J0_length_8abf5 rfl ⟨rfl, rfl⟩ (by decide +kernel) rfl ⟨Nat.le_of_ble_eq_true rfl, Nat.le_of_ble_eq_true rfl⟩ (hE_W G adK adV fx rfX) hs hK hP (vk_recv hs.1 (by omega) va_S.rf) hl.1 rfl (Nat.le_of_ble_eq_true rfl) dX4_isWord_34 ⟨Nat.zero_le _, Nat.zero_le _⟩ ?_
          have f14 := (wd_len (i) (by omega)).2
          refine nv_icmp_ge (tgt := 75) hx hb (by omega) (by omega) dX4_isWord_37 (by decide) (fun c15 => ?_) (fun c15 => ?_)
          · refine lv_iload_n hx hb dX4_isWord_75 rfl (lv_at hl 0 rfl) ?_
            refine nv_cv (show bI (((srt X.2.2.2.2.2.1 X.2.2.2.2.1 p == 1 && (nxt X.2.2.2.2.2.1 X.2.2.2.2.1 p - stt X.2.2.2.2.2.1 X.2.2.2.2.1 p == (wd i).length)) && !anyTo (fun k => bE X.2.2.2.2.2.1 X.2.2.2.2.1 (stt X.2.2.2.2.2.1 X.2.2.2.2.1 p + k) != (wd i).getD k 0 + 1) (k))) = bI (isW X.2.2.2.2.2.1 X.2.2.2.2.1 p i) from congrArg bI (by first | (rw [show k = (wd i).length by omega]; rfl) | (rw [c15]; exact (ap_end h_k c15).symm))) ?_
            exact ro_zret hx hb hr hlocks dX4_isWord_76
          · refine lv_iload_n hx hb dX4_isWord_40 rfl (lv_at hl 0 rfl) ?_
            refine nv_ifeq_b (tgt := 75) hx hb dX4_isWord_41 (by decide) (fun c16 => ?_) (fun c16 => ?_)
            · refine lv_iload_n hx hb dX4_isWord_75 rfl (lv_at hl 0 rfl) ?_
              refine nv_cv (show bI (((srt X.2.2.2.2.2.1 X.2.2.2.2.1 p == 1 && (nxt X.2.2.2.2.2.1 X.2.2.2.2.1 p - stt X.2.2.2.2.2.1 X.2.2.2.2.1 p == (wd i).length)) && !anyTo (fun k => bE X.2.2.2.2.2.1 X.2.2.2.2.1 (stt X.2.2.2.2.2.1 X.2.2.2.2.1 p + k) != (wd i).getD k 0 + 1) (k))) = bI (isW X.2.2.2.2.2.1 X.2.2.2.2.1 p i) from congrArg bI (by first | (rw [show k = (wd i).length by omega]; rfl) | (rw [c16]; exact (ap_end h_k c16).symm))) ?_
              exact ro_zret hx hb hr hlocks dX4_isWord_76
            · have h_w := c16
              simp only [Bool.and_eq_true, beq_iff_eq, Bool.not_eq_true'] at h_w
              obtain ⟨⟨h_w1, h_w2⟩, h_w3⟩ := h_w
              have e_b := bE_in (tb := X.2.2.2.2.2.1) (tl := X.2.2.2.2.1) (k := stt X.2.2.2.2.2.1 X.2.2.2.2.1 p + k) (by omega)
              have f_b := h_tb (stt X.2.2.2.2.2.1 X.2.2.2.2.1 p + k)
              refine lv_aload_n hx hb dX4_isWord_44 rfl (lv_at hl 2 rfl) ?_
              refine va_get (D := D) (ci := 4) (v := .ref (am 9)) (C := RX4) (T := TX4) (N := 24) hx hb hts hinX4 hown hK hP 0 rfl rfl 9 (by decide) (hts (.fieldLink RX4 34 "OneShortModel" "tape" "[I") (List.mem_of_getElem? (i := 4) rfl)) (fun _ h9 => h9) rfl dX4_isWord_45 ?_
              refine lv_aload_n hx hb dX4_isWord_48 rfl (lv_at hl 2 rfl) ?_
              refine va_get (D := D) (ci := 4) (v := .int (nI (stt X.2.2.2.2.2.1 X.2.2.2.2.1 p))) (C := RX4) (T := TX4) (N := 24) hx hb hts hinX4 hown hK hP 0 rfl rfl 11 (by decide) (hts (.fieldLink RX4 253 "OneShortModel" "begins" "I") (List.mem_of_getElem? (i := 3) rfl)) (fun _ h9 => h9) rfl dX4_isWord_49 ?_
              refine lv_iload_n hx hb dX4_isWord_52 rfl (lv_at hl 1 rfl) ?_
              refine nv_iadd hx hb dX4_isWord_53 ?_
              refine nv_iald (v := nI (X.2.2.2.2.2.1 ((stt X.2.2.2.2.2.1 X.2.2.2.2.1 p + k)))) hx hb hK hP 9 0 rfl rfl (by omega) (by decide) rfl dX4_isWord_54 ?_
              refine lv_aload_n hx hb dX4_isWord_55 rfl (lv_at hl 3 rfl) ?_
              refine lv_iload_n hx hb dX4_isWord_56 rfl (lv_at hl 1 rfl) ?_
              refine ro_VO (n := 1) (As := [.int (nI k)]) (rest := [.int (nI (X.2.2.2.2.2.1 ((stt X.2.2.2.2.2.1 X.2.2.2.2.1 p + k))))]) ⟨hx, hb, hml, hown, hts⟩ (c_J0_charAt l D ci (wN ci am X kr (nI (stt X.2.2.2.2.2.1 X.2.2.2.2.1 p)) (nI (nxt X.2.2.2.2.2.1 X.2.2.2.2.1 p)) (nI (min (srt X.2.2.2.2.2.1 X.2.2.2.2.1 p) 3)) (nI (vlu X.2.2.2.2.2.1 X.2.2.2.2.1 p)) q4 q5 iw kn y0 y1 y2 y3 y4 y5 y6) G adK adV fx rfX (i := (i)) (by omega) (by omega)) gX4_isWord_J0_charAt_5068e rfl ⟨rfl, rfl⟩ (by decide +kernel) rfl ⟨Nat.le_of_ble_eq_true rfl, Nat.le_of_ble_eq_true rfl⟩ (hE_W G adK adV fx rfX) hs hK hP (vk_recv hs.1 (by omega) va_S.rf) hl.1 rfl (Nat.le_of_ble_eq_true rfl) dX4_isWord_57 ⟨Nat.zero_le _, Nat.zero_le _⟩ ?_
              have f17 := (wd_byt (i) (by omega) (k) (by omega) (by omega)).2
              refine nv_icmp_ne (tgt := 67) hx hb (by omega) (by omega) dX4_isWord_60 (by decide) (fun c18 => ?_) (fun c18 => ?_)
              · refine lv_iconst (v := nI (0)) hx hb dX4_isWord_67 (by decide) ?_
                refine lv_istore_n (lv' := [(2, .int (nI 0)), (3, .int (nI k)), (0, .ref (am 0)), (1, .ref (adK (i)))]) hx hb dX4_isWord_68 rfl hl (by decide) rfl (fun ls hl => ?_)
                refine nv_iinc1 (lv' := [(3, .int (nI (k + 1))), (2, .int (nI 0)), (0, .ref (am 0)), (1, .ref (adK (i)))]) hx hb dX4_isWord_69 hl (k := 1) rfl (by decide) rfl (fun ls hl => ?_)
                refine lv_goto (tgt := 32) hx hb dX4_isWord_72 (by decide) ?_
                exact ih32 (k + 1) (by omega) (by omega) (nI (0)) (nI (k + 1)) (by first | exact nv_t (ap_t c16 (bne_f e_b c18)) | exact nv_f (ap_f1 (bne_t e_b c18))) rfl ls (lv_sub hl [1, 0, 2, 3] rfl)
              · refine lv_iconst (v := nI (1)) hx hb dX4_isWord_63 (by decide) ?_
                refine lv_goto (tgt := 68) hx hb dX4_isWord_64 (by decide) ?_
                refine lv_istore_n (lv' := [(2, .int (nI 1)), (3, .int (nI k)), (0, .ref (am 0)), (1, .ref (adK (i)))]) hx hb dX4_isWord_68 rfl hl (by decide) rfl (fun ls hl => ?_)
                refine nv_iinc1 (lv' := [(3, .int (nI (k + 1))), (2, .int (nI 1)), (0, .ref (am 0)), (1, .ref (adK (i)))]) hx hb dX4_isWord_69 hl (k := 1) rfl (by decide) rfl (fun ls hl => ?_)
                refine lv_goto (tgt := 32) hx hb dX4_isWord_72 (by decide) ?_
                exact ih32 (k + 1) (by omega) (by omega) (nI (1)) (nI (k + 1)) (by first | exact nv_t (ap_t c16 (bne_f e_b c18)) | exact nv_f (ap_f1 (bne_t e_b c18))) rfl ls (lv_sub hl [1, 0, 2, 3] rfl)
      exact L32 _ (0) (Nat.lt_succ_self _) (by omega) (nI (1)) (nI (0)) (by first | exact nv_t (by simp [anyTo]; omega) | exact nv_f (by simp [anyTo]; omega)) rfl ls (lv_sub hl [1, 0, 2, 3] rfl)

set_option maxHeartbeats 4000000 in
set_option maxRecDepth 100000 in
/-- X4_must -/
theorem c_X4_must (l : Launch) (D : va_G) (ci : Nat → ClassId) (am : Nat → Nat) (X : AS) (kr : Nat → Int32) (q0 q1 q2 q3 q4 q5 : Int32) (iw : Bool) (kn : Nat → Option Nat) (y0 y1 y2 y3 y4 y5 y6 : Nat → Int32) (hI : injA am 16) (G : Nat → Prop) (adK adV : Nat → Nat) (fx : Nat) (is wr : Bool) (p : Nat) (hGA : ∀ q, aM am q → G q) (h_kn : ∀ j, j < 7 → kn j = some (adK j)) (h_tl : X.2.2.2.2.1 ≤ 120) (h_tb : ∀ k, X.2.2.2.2.2.1 k < 256) (h_p : p ≤ X.2.2.2.2.1) : Met l yX4_must wsX4_must ({ frames := 2, cells := 0, slots := 0, locals := 61 } : Room) (va_Pc [.ref (am 0), .int (bI (is))] (ro_B D (tyL ci) (wN ci am X kr (nI (stt X.2.2.2.2.2.1 X.2.2.2.2.1 p)) (nI (nxt X.2.2.2.2.2.1 X.2.2.2.2.1 p)) (nI (min (srt X.2.2.2.2.2.1 X.2.2.2.2.1 p) 3)) (nI (vlu X.2.2.2.2.2.1 X.2.2.2.2.1 p)) q4 q5 wr kn y0 y1 y2 y3 y4 y5 y6) (enW G adK adV fx rfX))) (mu_Q (aM am) (none) (fun H => va_P D vwCl (wN ci am X kr (nI (stt X.2.2.2.2.2.1 X.2.2.2.2.1 (mP X.2.2.2.2.2.1 X.2.2.2.2.1 wr is p))) (nI (nxt X.2.2.2.2.2.1 X.2.2.2.2.1 (mP X.2.2.2.2.2.1 X.2.2.2.2.1 wr is p))) (nI (min (srt X.2.2.2.2.2.1 X.2.2.2.2.1 (mP X.2.2.2.2.2.1 X.2.2.2.2.1 wr is p)) 3)) (nI (vlu X.2.2.2.2.2.1 X.2.2.2.2.1 (mP X.2.2.2.2.2.1 X.2.2.2.2.1 wr is p))) q4 q5 (mW wr is) kn y0 y1 y2 y3 y4 y5 y6) H)) 0 0 (aM am) := by
  refine mu_Met (cc := cX4_must) (maxL := 2) (ret := none) [(0, .ref (am 0)), (1, .int (bI (is)))] (wN_D hI) (by decide) rfl (Nat.le_of_ble_eq_true rfl) rfl ?_
  intro pg e s m below meth c H locs hx hb hml hr hlocks hts hown hP hK hs0 hD hS ls hl
  have hown : s.vm.findClass RX4 = some m.cls := hown
  have hinX4 : ∀ w ∈ wsX40, w ∈ wsX4_must := by decide +kernel
  have hE := hE_W G adK adV fx rfX
  have f_t := tokf (tb := X.2.2.2.2.2.1) (tl := X.2.2.2.2.1) h_p
  refine lv_aload_n hx hb dX4_must_0 rfl (lv_at hl 0 rfl) ?_
  refine lv_aload_n hx hb dX4_must_1 rfl (lv_at hl 0 rfl) ?_
  refine va_get (D := D) (ci := 4) (v := .int (bI (wr))) (C := RX4) (T := TX4) (N := 24) hx hb hts hinX4 hown hK hP 0 rfl rfl 15 (by decide) (hts (.fieldLink RX4 272 "OneShortModel" "isWrong" "Z") (List.mem_of_getElem? (i := 1) rfl)) (fun _ h9 => h9) rfl dX4_must_2 ?_
  refine nv_ifne_b (tgt := 12) hx hb dX4_must_5 (by decide) (fun c1 => ?_) (fun c1 => ?_)
  · refine lv_iconst (v := nI (1)) hx hb dX4_must_12 (by decide) ?_
    refine lv_goto (tgt := 17) hx hb dX4_must_13 (by decide) ?_
    refine nv_cv (show nI (1) = bI (true) from by rfl) ?_
    refine va_put (D := D) (ci := 4) (v := .int (bI (true))) (ty := .boolean) (C := RX4) (T := TX4) (N := 24) hx hb hts hinX4 tyX4 tyX4_ok nmX4 hown hK hP hD hS 0 rfl rfl 15 (by decide) (hts (.fieldLink RX4 272 "OneShortModel" "isWrong" "Z") (List.mem_of_getElem? (i := 1) rfl)) (fun _ h9 => h9) rfl (by decide +kernel) (bI_nar _) (bI_fit _) (Nat.le_of_ble_eq_true rfl) dX4_must_17 (fun H locs hP hD hS => ?_)
    have hP : va_P D vwCl (wN ci am X kr (nI (stt X.2.2.2.2.2.1 X.2.2.2.2.1 p)) (nI (nxt X.2.2.2.2.2.1 X.2.2.2.2.1 p)) (nI (min (srt X.2.2.2.2.2.1 X.2.2.2.2.1 p) 3)) (nI (vlu X.2.2.2.2.2.1 X.2.2.2.2.1 p)) q4 q5 true kn y0 y1 y2 y3 y4 y5 y6) H := va_P.re (wN_iw ci am X kr (nI (stt X.2.2.2.2.2.1 X.2.2.2.2.1 p)) (nI (nxt X.2.2.2.2.2.1 X.2.2.2.2.1 p)) (nI (min (srt X.2.2.2.2.2.1 X.2.2.2.2.1 p) 3)) (nI (vlu X.2.2.2.2.2.1 X.2.2.2.2.1 p)) q4 q5 wr kn y0 y1 y2 y3 y4 y5 y6 true) hP
    have hD : va_D (aM am) (wN ci am X kr (nI (stt X.2.2.2.2.2.1 X.2.2.2.2.1 p)) (nI (nxt X.2.2.2.2.2.1 X.2.2.2.2.1 p)) (nI (min (srt X.2.2.2.2.2.1 X.2.2.2.2.1 p) 3)) (nI (vlu X.2.2.2.2.2.1 X.2.2.2.2.1 p)) q4 q5 true kn y0 y1 y2 y3 y4 y5 y6) := wN_D hI
    refine lv_aload_n hx hb dX4_must_20 rfl (lv_at hl 0 rfl) ?_
    refine va_get (D := D) (ci := 4) (v := .int (bI (true))) (C := RX4) (T := TX4) (N := 24) hx hb hts hinX4 hown hK hP 0 rfl rfl 15 (by decide) (hts (.fieldLink RX4 272 "OneShortModel" "isWrong" "Z") (List.mem_of_getElem? (i := 1) rfl)) (fun _ h9 => h9) rfl dX4_must_21 ?_
    refine nv_ifne_b (tgt := 31) hx hb dX4_must_24 (by decide) (fun _ => ?_) (fun h9 => absurd h9 (by decide))
    exact mu_vret hx hb hr hlocks hS ((by first | (rw [show mP X.2.2.2.2.2.1 X.2.2.2.2.1 wr is p = p from by simp [mP, c1], show mW wr is = true from by simp [mW, c1]]; exact hP) | (rw [show mP X.2.2.2.2.2.1 X.2.2.2.2.1 wr is p = nxt X.2.2.2.2.2.1 X.2.2.2.2.1 p from by simp [mP, c1], show mW wr is = false from by simp [mW, c1]]; exact hP))) dX4_must_31
  · refine lv_iload_n hx hb dX4_must_8 rfl (lv_at hl 1 rfl) ?_
    refine nv_ifne_b (tgt := 16) hx hb dX4_must_9 (by decide) (fun c3 => ?_) (fun c3 => ?_)
    · refine lv_iconst (v := nI (0)) hx hb dX4_must_16 (by decide) ?_
      refine nv_cv (show nI (0) = bI (false) from by rfl) ?_
      refine va_put (D := D) (ci := 4) (v := .int (bI (false))) (ty := .boolean) (C := RX4) (T := TX4) (N := 24) hx hb hts hinX4 tyX4 tyX4_ok nmX4 hown hK hP hD hS 0 rfl rfl 15 (by decide) (hts (.fieldLink RX4 272 "OneShortModel" "isWrong" "Z") (List.mem_of_getElem? (i := 1) rfl)) (fun _ h9 => h9) rfl (by decide +kernel) (bI_nar _) (bI_fit _) (Nat.le_of_ble_eq_true rfl) dX4_must_17 (fun H locs hP hD hS => ?_)
      have hP : va_P D vwCl (wN ci am X kr (nI (stt X.2.2.2.2.2.1 X.2.2.2.2.1 p)) (nI (nxt X.2.2.2.2.2.1 X.2.2.2.2.1 p)) (nI (min (srt X.2.2.2.2.2.1 X.2.2.2.2.1 p) 3)) (nI (vlu X.2.2.2.2.2.1 X.2.2.2.2.1 p)) q4 q5 false kn y0 y1 y2 y3 y4 y5 y6) H := va_P.re (wN_iw ci am X kr (nI (stt X.2.2.2.2.2.1 X.2.2.2.2.1 p)) (nI (nxt X.2.2.2.2.2.1 X.2.2.2.2.1 p)) (nI (min (srt X.2.2.2.2.2.1 X.2.2.2.2.1 p) 3)) (nI (vlu X.2.2.2.2.2.1 X.2.2.2.2.1 p)) q4 q5 wr kn y0 y1 y2 y3 y4 y5 y6 false) hP
      have hD : va_D (aM am) (wN ci am X kr (nI (stt X.2.2.2.2.2.1 X.2.2.2.2.1 p)) (nI (nxt X.2.2.2.2.2.1 X.2.2.2.2.1 p)) (nI (min (srt X.2.2.2.2.2.1 X.2.2.2.2.1 p) 3)) (nI (vlu X.2.2.2.2.2.1 X.2.2.2.2.1 p)) q4 q5 false kn y0 y1 y2 y3 y4 y5 y6) := wN_D hI
      refine lv_aload_n hx hb dX4_must_20 rfl (lv_at hl 0 rfl) ?_
      refine va_get (D := D) (ci := 4) (v := .int (bI (false))) (C := RX4) (T := TX4) (N := 24) hx hb hts hinX4 hown hK hP 0 rfl rfl 15 (by decide) (hts (.fieldLink RX4 272 "OneShortModel" "isWrong" "Z") (List.mem_of_getElem? (i := 1) rfl)) (fun _ h9 => h9) rfl dX4_must_21 ?_
      refine nv_ifne_b (tgt := 31) hx hb dX4_must_24 (by decide) (fun h9 => absurd h9 (by decide)) (fun _ => ?_)
      refine lv_aload_n hx hb dX4_must_27 rfl (lv_at hl 0 rfl) ?_
      refine mu_V (n := 0) (As := []) (rest := []) ⟨hx, hb, hml, hown, hts⟩ (c_X4_next l D ci am X kr (nI (stt X.2.2.2.2.2.1 X.2.2.2.2.1 p)) (nI (nxt X.2.2.2.2.2.1 X.2.2.2.2.1 p)) (nI (min (srt X.2.2.2.2.2.1 X.2.2.2.2.1 p) 3)) (nI (vlu X.2.2.2.2.2.1 X.2.2.2.2.1 p)) q4 q5 false kn y0 y1 y2 y3 y4 y5 y6 hI G adK adV fx (nxt X.2.2.2.2.2.1 X.2.2.2.2.1 p) hGA h_kn h_tl h_tb (by omega)) gX4_must_X4_next rfl ⟨rfl, rfl⟩ (by decide +kernel) rfl ⟨Nat.le_of_ble_eq_true rfl, Nat.le_of_ble_eq_true rfl⟩ hE (enW_S hGA hs0 hS) hK hP (ci := 4) (q0 := 0) rfl rfl hl.1 rfl (Nat.le_of_ble_eq_true rfl) dX4_must_28 ⟨Nat.zero_le _, Nat.zero_le _⟩ hS (fun _ h => h) (fun H1 locs hz hfr hB hS => ?_)
      have hP := hB
      have hP : va_P D vwCl (wN ci am X kr (nI (stt X.2.2.2.2.2.1 X.2.2.2.2.1 (nxt X.2.2.2.2.2.1 X.2.2.2.2.1 p))) (nI (nxt X.2.2.2.2.2.1 X.2.2.2.2.1 (nxt X.2.2.2.2.2.1 X.2.2.2.2.1 p))) (nI (min (srt X.2.2.2.2.2.1 X.2.2.2.2.1 (nxt X.2.2.2.2.2.1 X.2.2.2.2.1 p)) 3)) (nI (vlu X.2.2.2.2.2.1 X.2.2.2.2.1 (nxt X.2.2.2.2.2.1 X.2.2.2.2.1 p))) q4 q5 false kn y0 y1 y2 y3 y4 y5 y6) H1 := hP
      generalize H1 = H at hP hS ⊢
      have hD : va_D (aM am) (wN ci am X kr (nI (stt X.2.2.2.2.2.1 X.2.2.2.2.1 (nxt X.2.2.2.2.2.1 X.2.2.2.2.1 p))) (nI (nxt X.2.2.2.2.2.1 X.2.2.2.2.1 (nxt X.2.2.2.2.2.1 X.2.2.2.2.1 p))) (nI (min (srt X.2.2.2.2.2.1 X.2.2.2.2.1 (nxt X.2.2.2.2.2.1 X.2.2.2.2.1 p)) 3)) (nI (vlu X.2.2.2.2.2.1 X.2.2.2.2.1 (nxt X.2.2.2.2.2.1 X.2.2.2.2.1 p))) q4 q5 false kn y0 y1 y2 y3 y4 y5 y6) := wN_D hI
      have f5 := tokf (tb := X.2.2.2.2.2.1) (tl := X.2.2.2.2.1) (p := nxt X.2.2.2.2.2.1 X.2.2.2.2.1 p) (by omega)
      exact mu_vret hx hb hr hlocks hS ((by first | (rw [show mP X.2.2.2.2.2.1 X.2.2.2.2.1 wr is p = p from by simp [mP, c1, c3], show mW wr is = true from by simp [mW, c1, c3]]; exact hP) | (rw [show mP X.2.2.2.2.2.1 X.2.2.2.2.1 wr is p = nxt X.2.2.2.2.2.1 X.2.2.2.2.1 p from by simp [mP, c1, c3], show mW wr is = false from by simp [mW, c1, c3]]; exact hP))) dX4_must_31
    · refine lv_iconst (v := nI (1)) hx hb dX4_must_12 (by decide) ?_
      refine lv_goto (tgt := 17) hx hb dX4_must_13 (by decide) ?_
      refine nv_cv (show nI (1) = bI (true) from by rfl) ?_
      refine va_put (D := D) (ci := 4) (v := .int (bI (true))) (ty := .boolean) (C := RX4) (T := TX4) (N := 24) hx hb hts hinX4 tyX4 tyX4_ok nmX4 hown hK hP hD hS 0 rfl rfl 15 (by decide) (hts (.fieldLink RX4 272 "OneShortModel" "isWrong" "Z") (List.mem_of_getElem? (i := 1) rfl)) (fun _ h9 => h9) rfl (by decide +kernel) (bI_nar _) (bI_fit _) (Nat.le_of_ble_eq_true rfl) dX4_must_17 (fun H locs hP hD hS => ?_)
      have hP : va_P D vwCl (wN ci am X kr (nI (stt X.2.2.2.2.2.1 X.2.2.2.2.1 p)) (nI (nxt X.2.2.2.2.2.1 X.2.2.2.2.1 p)) (nI (min (srt X.2.2.2.2.2.1 X.2.2.2.2.1 p) 3)) (nI (vlu X.2.2.2.2.2.1 X.2.2.2.2.1 p)) q4 q5 true kn y0 y1 y2 y3 y4 y5 y6) H := va_P.re (wN_iw ci am X kr (nI (stt X.2.2.2.2.2.1 X.2.2.2.2.1 p)) (nI (nxt X.2.2.2.2.2.1 X.2.2.2.2.1 p)) (nI (min (srt X.2.2.2.2.2.1 X.2.2.2.2.1 p) 3)) (nI (vlu X.2.2.2.2.2.1 X.2.2.2.2.1 p)) q4 q5 wr kn y0 y1 y2 y3 y4 y5 y6 true) hP
      have hD : va_D (aM am) (wN ci am X kr (nI (stt X.2.2.2.2.2.1 X.2.2.2.2.1 p)) (nI (nxt X.2.2.2.2.2.1 X.2.2.2.2.1 p)) (nI (min (srt X.2.2.2.2.2.1 X.2.2.2.2.1 p) 3)) (nI (vlu X.2.2.2.2.2.1 X.2.2.2.2.1 p)) q4 q5 true kn y0 y1 y2 y3 y4 y5 y6) := wN_D hI
      refine lv_aload_n hx hb dX4_must_20 rfl (lv_at hl 0 rfl) ?_
      refine va_get (D := D) (ci := 4) (v := .int (bI (true))) (C := RX4) (T := TX4) (N := 24) hx hb hts hinX4 hown hK hP 0 rfl rfl 15 (by decide) (hts (.fieldLink RX4 272 "OneShortModel" "isWrong" "Z") (List.mem_of_getElem? (i := 1) rfl)) (fun _ h9 => h9) rfl dX4_must_21 ?_
      refine nv_ifne_b (tgt := 31) hx hb dX4_must_24 (by decide) (fun _ => ?_) (fun h9 => absurd h9 (by decide))
      exact mu_vret hx hb hr hlocks hS ((by first | (rw [show mP X.2.2.2.2.2.1 X.2.2.2.2.1 wr is p = p from by simp [mP, c1, c3], show mW wr is = true from by simp [mW, c1, c3]]; exact hP) | (rw [show mP X.2.2.2.2.2.1 X.2.2.2.2.1 wr is p = nxt X.2.2.2.2.2.1 X.2.2.2.2.1 p from by simp [mP, c1, c3], show mW wr is = false from by simp [mW, c1, c3]]; exact hP))) dX4_must_31

set_option maxHeartbeats 4000000 in
set_option maxRecDepth 100000 in
/-- X4_number -/
theorem c_X4_number (l : Launch) (D : va_G) (ci : Nat → ClassId) (am : Nat → Nat) (X : AS) (kr : Nat → Int32) (q0 q1 q2 q3 q4 q5 : Int32) (iw : Bool) (kn : Nat → Option Nat) (y0 y1 y2 y3 y4 y5 y6 : Nat → Int32) (hI : injA am 16) (G : Nat → Prop) (adK adV : Nat → Nat) (fx : Nat) (wr : Bool) (p hi : Nat) (hGA : ∀ q, aM am q → G q) (h_kn : ∀ j, j < 7 → kn j = some (adK j)) (h_tl : X.2.2.2.2.1 ≤ 120) (h_tb : ∀ k, X.2.2.2.2.2.1 k < 256) (h_p : p ≤ X.2.2.2.2.1) (h_h : hi < 1000) : Met l yX4_number wsX4_number ({ frames := 3, cells := 0, slots := 0, locals := 82 } : Room) (va_Pc [.ref (am 0), .int (nI 0), .int (nI hi)] (ro_B D (tyL ci) (wN ci am X kr (nI (stt X.2.2.2.2.2.1 X.2.2.2.2.1 p)) (nI (nxt X.2.2.2.2.2.1 X.2.2.2.2.1 p)) (nI (min (srt X.2.2.2.2.2.1 X.2.2.2.2.1 p) 3)) (nI (vlu X.2.2.2.2.2.1 X.2.2.2.2.1 p)) q4 q5 wr kn y0 y1 y2 y3 y4 y5 y6) (enW G adK adV fx rfX))) (mu_Q (aM am) (some (.int (nI (vlu X.2.2.2.2.2.1 X.2.2.2.2.1 p)))) (fun H => va_P D vwCl (wN ci am X kr (nI (stt X.2.2.2.2.2.1 X.2.2.2.2.1 (mP X.2.2.2.2.2.1 X.2.2.2.2.1 wr (rNum X.2.2.2.2.2.1 X.2.2.2.2.1 p hi) p))) (nI (nxt X.2.2.2.2.2.1 X.2.2.2.2.1 (mP X.2.2.2.2.2.1 X.2.2.2.2.1 wr (rNum X.2.2.2.2.2.1 X.2.2.2.2.1 p hi) p))) (nI (min (srt X.2.2.2.2.2.1 X.2.2.2.2.1 (mP X.2.2.2.2.2.1 X.2.2.2.2.1 wr (rNum X.2.2.2.2.2.1 X.2.2.2.2.1 p hi) p)) 3)) (nI (vlu X.2.2.2.2.2.1 X.2.2.2.2.1 (mP X.2.2.2.2.2.1 X.2.2.2.2.1 wr (rNum X.2.2.2.2.2.1 X.2.2.2.2.1 p hi) p))) q4 q5 (mW wr (rNum X.2.2.2.2.2.1 X.2.2.2.2.1 p hi)) kn y0 y1 y2 y3 y4 y5 y6) H)) 0 0 (aM am) := by
  refine mu_Met (cc := cX4_number) (maxL := 4) (ret := (some .int)) [(0, .ref (am 0)), (1, .int (nI 0)), (2, .int (nI hi))] (wN_D hI) (by decide) rfl (Nat.le_of_ble_eq_true rfl) rfl ?_
  intro pg e s m below meth c H locs hx hb hml hr hlocks hts hown hP hK hs0 hD hS ls hl
  have hown : s.vm.findClass RX4 = some m.cls := hown
  have hinX4 : ∀ w ∈ wsX40, w ∈ wsX4_number := by decide +kernel
  have hE := hE_W G adK adV fx rfX
  have f_t := tokf (tb := X.2.2.2.2.2.1) (tl := X.2.2.2.2.1) h_p
  refine lv_aload_n hx hb dX4_number_0 rfl (lv_at hl 0 rfl) ?_
  refine va_get (D := D) (ci := 4) (v := .int (nI (vlu X.2.2.2.2.2.1 X.2.2.2.2.1 p))) (C := RX4) (T := TX4) (N := 24) hx hb hts hinX4 hown hK hP 0 rfl rfl 14 (by decide) (hts (.fieldLink RX4 259 "OneShortModel" "value" "I") (List.mem_of_getElem? (i := 1) rfl)) (fun _ h9 => h9) rfl dX4_number_1 ?_
  refine lv_istore_n (lv' := [(3, .int (nI (vlu X.2.2.2.2.2.1 X.2.2.2.2.1 p))), (0, .ref (am 0)), (1, .int (nI 0)), (2, .int (nI hi))]) hx hb dX4_number_4 rfl hl (by decide) rfl (fun ls hl => ?_)
  refine lv_aload_n hx hb dX4_number_5 rfl (lv_at hl 1 rfl) ?_
  refine lv_aload_n hx hb dX4_number_6 rfl (lv_at hl 1 rfl) ?_
  refine va_get (D := D) (ci := 4) (v := .int (nI (min (srt X.2.2.2.2.2.1 X.2.2.2.2.1 p) 3))) (C := RX4) (T := TX4) (N := 24) hx hb hts hinX4 hown hK hP 0 rfl rfl 13 (by decide) (hts (.fieldLink RX4 262 "OneShortModel" "sort" "I") (List.mem_of_getElem? (i := 2) rfl)) (fun _ h9 => h9) rfl dX4_number_7 ?_
  refine lv_iconst (v := nI (2)) hx hb dX4_number_10 (by decide) ?_
  refine nv_icmp_ne (tgt := 27) hx hb (by omega) (by omega) dX4_number_11 (by decide) (fun c1 => ?_) (fun c1 => ?_)
  · refine lv_iconst (v := nI (0)) hx hb dX4_number_27 (by decide) ?_
    refine nv_cv (show nI (0) = bI (false) from rfl) ?_
    refine mu_V (n := 1) (As := [.int (bI (false))]) (rest := []) ⟨hx, hb, hml, hown, hts⟩ (c_X4_must l D ci am X kr (nI (stt X.2.2.2.2.2.1 X.2.2.2.2.1 p)) (nI (nxt X.2.2.2.2.2.1 X.2.2.2.2.1 p)) (nI (min (srt X.2.2.2.2.2.1 X.2.2.2.2.1 p) 3)) (nI (vlu X.2.2.2.2.2.1 X.2.2.2.2.1 p)) q4 q5 wr kn y0 y1 y2 y3 y4 y5 y6 hI G adK adV fx (false) (wr) (p) hGA h_kn h_tl h_tb (by omega)) gX4_number_X4_must rfl ⟨rfl, rfl⟩ (by decide +kernel) rfl ⟨Nat.le_of_ble_eq_true rfl, Nat.le_of_ble_eq_true rfl⟩ hE (enW_S hGA hs0 hS) hK hP (ci := 4) (q0 := 0) rfl rfl hl.1 rfl (Nat.le_of_ble_eq_true rfl) dX4_number_28 ⟨Nat.zero_le _, Nat.zero_le _⟩ hS (fun _ h => h) (fun H1 locs hz hfr hB hS => ?_)
    have hP := hB
    have hP : va_P D vwCl (wN ci am X kr (nI (stt X.2.2.2.2.2.1 X.2.2.2.2.1 (mP X.2.2.2.2.2.1 X.2.2.2.2.1 wr false p))) (nI (nxt X.2.2.2.2.2.1 X.2.2.2.2.1 (mP X.2.2.2.2.2.1 X.2.2.2.2.1 wr false p))) (nI (min (srt X.2.2.2.2.2.1 X.2.2.2.2.1 (mP X.2.2.2.2.2.1 X.2.2.2.2.1 wr false p)) 3)) (nI (vlu X.2.2.2.2.2.1 X.2.2.2.2.1 (mP X.2.2.2.2.2.1 X.2.2.2.2.1 wr false p))) q4 q5 (mW wr false) kn y0 y1 y2 y3 y4 y5 y6) H1 := hP
    generalize H1 = H at hP hS ⊢
    have hD : va_D (aM am) (wN ci am X kr (nI (stt X.2.2.2.2.2.1 X.2.2.2.2.1 (mP X.2.2.2.2.2.1 X.2.2.2.2.1 wr false p))) (nI (nxt X.2.2.2.2.2.1 X.2.2.2.2.1 (mP X.2.2.2.2.2.1 X.2.2.2.2.1 wr false p))) (nI (min (srt X.2.2.2.2.2.1 X.2.2.2.2.1 (mP X.2.2.2.2.2.1 X.2.2.2.2.1 wr false p)) 3)) (nI (vlu X.2.2.2.2.2.1 X.2.2.2.2.1 (mP X.2.2.2.2.2.1 X.2.2.2.2.1 wr false p))) q4 q5 (mW wr false) kn y0 y1 y2 y3 y4 y5 y6) := wN_D hI
    have f2 := mP_le (tb := X.2.2.2.2.2.1) (wr := wr) (is := false) (show p ≤ X.2.2.2.2.1 by omega)
    have f3 := tokf (tb := X.2.2.2.2.2.1) (mP_le (tb := X.2.2.2.2.2.1) (wr := wr) (is := false) (show p ≤ X.2.2.2.2.1 by omega))
    refine lv_iload_n hx hb dX4_number_31 rfl (lv_at hl 0 rfl) ?_
    exact mu_iret hx hb hr hlocks hS ((by rw [show rNum X.2.2.2.2.2.1 X.2.2.2.2.1 p hi = _ from by first | exact rN_t c1 c1 | exact rN_f1 c1 | exact rN_f2 c1]; exact hP)) dX4_number_32
  · refine lv_iload_n hx hb dX4_number_14 rfl (lv_at hl 0 rfl) ?_
    refine lv_iload_n hx hb dX4_number_15 rfl (lv_at hl 2 rfl) ?_
    refine lv_iload_n hx hb dX4_number_16 rfl (lv_at hl 3 rfl) ?_
    refine ro_S (n := 3) (As := [.int (nI (vlu X.2.2.2.2.2.1 X.2.2.2.2.1 p)), .int (nI 0), .int (nI hi)]) (rest := [.ref (am 0)]) ⟨hx, hb, hml, hown, hts⟩ (c_X4_within l D ci (wN ci am X kr (nI (stt X.2.2.2.2.2.1 X.2.2.2.2.1 p)) (nI (nxt X.2.2.2.2.2.1 X.2.2.2.2.1 p)) (nI (min (srt X.2.2.2.2.2.1 X.2.2.2.2.1 p) 3)) (nI (vlu X.2.2.2.2.2.1 X.2.2.2.2.1 p)) q4 q5 wr kn y0 y1 y2 y3 y4 y5 y6) (nI (vlu X.2.2.2.2.2.1 X.2.2.2.2.1 p)) (nI (0)) (nI (hi)) ) gX4_number_X4_within rfl ⟨rfl, rfl⟩ (by decide +kernel) rfl ⟨Nat.le_of_ble_eq_true rfl, Nat.le_of_ble_eq_true rfl⟩ hE_T trivial hK hP hl.1 rfl (Nat.le_of_ble_eq_true rfl) dX4_number_17 ⟨Nat.zero_le _, Nat.zero_le _⟩ ?_
    refine nv_cv (congrArg bI (wth_in (nI (vlu X.2.2.2.2.2.1 X.2.2.2.2.1 p)) (hi) (by omega))) ?_
    refine nv_ifeq_b (tgt := 27) hx hb dX4_number_20 (by decide) (fun c4 => ?_) (fun c4 => ?_)
    · refine lv_iconst (v := nI (0)) hx hb dX4_number_27 (by decide) ?_
      refine nv_cv (show nI (0) = bI (false) from rfl) ?_
      refine mu_V (n := 1) (As := [.int (bI (false))]) (rest := []) ⟨hx, hb, hml, hown, hts⟩ (c_X4_must l D ci am X kr (nI (stt X.2.2.2.2.2.1 X.2.2.2.2.1 p)) (nI (nxt X.2.2.2.2.2.1 X.2.2.2.2.1 p)) (nI (min (srt X.2.2.2.2.2.1 X.2.2.2.2.1 p) 3)) (nI (vlu X.2.2.2.2.2.1 X.2.2.2.2.1 p)) q4 q5 wr kn y0 y1 y2 y3 y4 y5 y6 hI G adK adV fx (false) (wr) (p) hGA h_kn h_tl h_tb (by omega)) gX4_number_X4_must rfl ⟨rfl, rfl⟩ (by decide +kernel) rfl ⟨Nat.le_of_ble_eq_true rfl, Nat.le_of_ble_eq_true rfl⟩ hE (enW_S hGA hs0 hS) hK hP (ci := 4) (q0 := 0) rfl rfl hl.1 rfl (Nat.le_of_ble_eq_true rfl) dX4_number_28 ⟨Nat.zero_le _, Nat.zero_le _⟩ hS (fun _ h => h) (fun H1 locs hz hfr hB hS => ?_)
      have hP := hB
      have hP : va_P D vwCl (wN ci am X kr (nI (stt X.2.2.2.2.2.1 X.2.2.2.2.1 (mP X.2.2.2.2.2.1 X.2.2.2.2.1 wr false p))) (nI (nxt X.2.2.2.2.2.1 X.2.2.2.2.1 (mP X.2.2.2.2.2.1 X.2.2.2.2.1 wr false p))) (nI (min (srt X.2.2.2.2.2.1 X.2.2.2.2.1 (mP X.2.2.2.2.2.1 X.2.2.2.2.1 wr false p)) 3)) (nI (vlu X.2.2.2.2.2.1 X.2.2.2.2.1 (mP X.2.2.2.2.2.1 X.2.2.2.2.1 wr false p))) q4 q5 (mW wr false) kn y0 y1 y2 y3 y4 y5 y6) H1 := hP
      generalize H1 = H at hP hS ⊢
      have hD : va_D (aM am) (wN ci am X kr (nI (stt X.2.2.2.2.2.1 X.2.2.2.2.1 (mP X.2.2.2.2.2.1 X.2.2.2.2.1 wr false p))) (nI (nxt X.2.2.2.2.2.1 X.2.2.2.2.1 (mP X.2.2.2.2.2.1 X.2.2.2.2.1 wr false p))) (nI (min (srt X.2.2.2.2.2.1 X.2.2.2.2.1 (mP X.2.2.2.2.2.1 X.2.2.2.2.1 wr false p)) 3)) (nI (vlu X.2.2.2.2.2.1 X.2.2.2.2.1 (mP X.2.2.2.2.2.1 X.2.2.2.2.1 wr false p))) q4 q5 (mW wr false) kn y0 y1 y2 y3 y4 y5 y6) := wN_D hI
      have f5 := mP_le (tb := X.2.2.2.2.2.1) (wr := wr) (is := false) (show p ≤ X.2.2.2.2.1 by omega)
      have f6 := tokf (tb := X.2.2.2.2.2.1) (mP_le (tb := X.2.2.2.2.2.1) (wr := wr) (is := false) (show p ≤ X.2.2.2.2.1 by omega))
      refine lv_iload_n hx hb dX4_number_31 rfl (lv_at hl 0 rfl) ?_
      exact mu_iret hx hb hr hlocks hS ((by rw [show rNum X.2.2.2.2.2.1 X.2.2.2.2.1 p hi = _ from by first | exact rN_t c1 c4 | exact rN_f1 c1 | exact rN_f2 c4]; exact hP)) dX4_number_32
    · refine lv_iconst (v := nI (1)) hx hb dX4_number_23 (by decide) ?_
      refine lv_goto (tgt := 28) hx hb dX4_number_24 (by decide) ?_
      refine nv_cv (show nI (1) = bI (true) from rfl) ?_
      refine mu_V (n := 1) (As := [.int (bI (true))]) (rest := []) ⟨hx, hb, hml, hown, hts⟩ (c_X4_must l D ci am X kr (nI (stt X.2.2.2.2.2.1 X.2.2.2.2.1 p)) (nI (nxt X.2.2.2.2.2.1 X.2.2.2.2.1 p)) (nI (min (srt X.2.2.2.2.2.1 X.2.2.2.2.1 p) 3)) (nI (vlu X.2.2.2.2.2.1 X.2.2.2.2.1 p)) q4 q5 wr kn y0 y1 y2 y3 y4 y5 y6 hI G adK adV fx (true) (wr) (p) hGA h_kn h_tl h_tb (by omega)) gX4_number_X4_must rfl ⟨rfl, rfl⟩ (by decide +kernel) rfl ⟨Nat.le_of_ble_eq_true rfl, Nat.le_of_ble_eq_true rfl⟩ hE (enW_S hGA hs0 hS) hK hP (ci := 4) (q0 := 0) rfl rfl hl.1 rfl (Nat.le_of_ble_eq_true rfl) dX4_number_28 ⟨Nat.zero_le _, Nat.zero_le _⟩ hS (fun _ h => h) (fun H1 locs hz hfr hB hS => ?_)
      have hP := hB
      have hP : va_P D vwCl (wN ci am X kr (nI (stt X.2.2.2.2.2.1 X.2.2.2.2.1 (mP X.2.2.2.2.2.1 X.2.2.2.2.1 wr true p))) (nI (nxt X.2.2.2.2.2.1 X.2.2.2.2.1 (mP X.2.2.2.2.2.1 X.2.2.2.2.1 wr true p))) (nI (min (srt X.2.2.2.2.2.1 X.2.2.2.2.1 (mP X.2.2.2.2.2.1 X.2.2.2.2.1 wr true p)) 3)) (nI (vlu X.2.2.2.2.2.1 X.2.2.2.2.1 (mP X.2.2.2.2.2.1 X.2.2.2.2.1 wr true p))) q4 q5 (mW wr true) kn y0 y1 y2 y3 y4 y5 y6) H1 := hP
      generalize H1 = H at hP hS ⊢
      have hD : va_D (aM am) (wN ci am X kr (nI (stt X.2.2.2.2.2.1 X.2.2.2.2.1 (mP X.2.2.2.2.2.1 X.2.2.2.2.1 wr true p))) (nI (nxt X.2.2.2.2.2.1 X.2.2.2.2.1 (mP X.2.2.2.2.2.1 X.2.2.2.2.1 wr true p))) (nI (min (srt X.2.2.2.2.2.1 X.2.2.2.2.1 (mP X.2.2.2.2.2.1 X.2.2.2.2.1 wr true p)) 3)) (nI (vlu X.2.2.2.2.2.1 X.2.2.2.2.1 (mP X.2.2.2.2.2.1 X.2.2.2.2.1 wr true p))) q4 q5 (mW wr true) kn y0 y1 y2 y3 y4 y5 y6) := wN_D hI
      have f7 := mP_le (tb := X.2.2.2.2.2.1) (wr := wr) (is := true) (show p ≤ X.2.2.2.2.1 by omega)
      have f8 := tokf (tb := X.2.2.2.2.2.1) (mP_le (tb := X.2.2.2.2.2.1) (wr := wr) (is := true) (show p ≤ X.2.2.2.2.1 by omega))
      refine lv_iload_n hx hb dX4_number_31 rfl (lv_at hl 0 rfl) ?_
      exact mu_iret hx hb hr hlocks hS ((by rw [show rNum X.2.2.2.2.2.1 X.2.2.2.2.1 p hi = _ from by first | exact rN_t c1 c4 | exact rN_f1 c1 | exact rN_f2 c4]; exact hP)) dX4_number_32
