/-! the law's loop -/
set_option maxHeartbeats 4000000 in
set_option maxRecDepth 100000 in
theorem law_loop {p : Program} {l : Launch} {e : Env} {s : State} {m : MethodId} {below : List Frame} {meth : Method} {c : Code} {cells slots : Nat} {Q : State → Prop} {b L : Nat} {xs : Nat → Int32} {D : va_G} {ci : Nat → ClassId} {ka : Nat} {adK adV : Nat → Nat} {fx : Nat} {ad am : Nat → Nat} (C : LC p s m c b L xs D ci ka adK adV fx) (hA : LA s ad am) (hL : L ≤ 3072) (hf : cells ≤ room_1.cells ∧ slots ≤ room_1.slots)
    (kend : ∀ (H : Heap) (locs : List Loc), va_S (lG s) s.heap H locs → ∀ ls, W p l e room_1 s m #[Value.ref b] below meth c H locs cells slots Q (F0 m 1578 ls [])) :
    ∀ (n i : Nat), i ≤ L → L + 1 ≤ i + n → ∀ (X : AS) (H : Heap) (locs : List Loc), WFX X → LX D ci ad X H → LN D ci am adK X H → va_S (lG s) s.heap H locs → ∀ (ls : Array Slot), lv_has ls 4 [(3, .int (nI i)), (2, .ref (am 0)), (1, .ref (ad 0)), (0, .ref b)] → W p l e room_1 s m #[Value.ref b] below meth c H locs cells slots Q (F0 m 18 ls []) := by
  obtain ⟨hx, hb, hml, hown, hts, hX, hbl, hK, hsS, hsW⟩ := id C
  intro n
  induction n with
  | zero =>
    intro i h1 h2
    exact absurd h2 (by omega)
  | succ n ih =>
    intro i hi hin X H locs hWX hP hN hS ls hl
    have nx : i + 6 ≤ L → ∀ (X : AS) (H : Heap) (locs : List Loc), WFX X → LX D ci ad X H → LN D ci am adK X H → va_S (lG s) s.heap H locs → W p l e room_1 s m #[Value.ref b] below meth c H locs cells slots Q (F0 m 1572 ls []) := by
      intro h6 X H locs hWX hP hN hS
      refine lv_iinc (v := nI (i + 6)) (lv' := [(3, .int (nI (i + 6))), (2, .ref (am 0)), (1, .ref (ad 0)), (0, .ref b)]) hx hb dL_law_1572 hl (k := 0) rfl (nI_add i 6) (by decide) rfl (fun ls hl => ?_)
      refine lv_goto (tgt := 18) hx hb dL_law_1575 (by decide) ?_
      exact ih (i + 6) h6 (by omega) X H locs hWX hP hN hS ls hl
    refine lv_iload_n hx hb dL_law_18 rfl (lv_at hl 0 rfl) ?_
    refine lv_aload_n hx hb dL_law_19 rfl (lv_at hl 3 rfl) ?_
    refine nv_slen C hS dL_law_20 ?_
    refine lv_bipush (v := nI 6) hx hb dL_law_21 (by decide) ?_
    refine lv_isub hx hb dL_law_23 ?_
    refine lv_icmp_gt (tgt := 1578) hx hb dL_law_24 (by decide) (fun _ => kend H locs hS ls) (fun h => ?_)
    have h6 := li_le (by omega) hL h
    replace nx := nx h6
    refine lv_aload_n hx hb dL_law_27 rfl (lv_at hl 3 rfl) ?_
    refine lv_iload_n hx hb dL_law_28 rfl (lv_at hl 0 rfl) ?_
    refine nv_sld C hL hS (j := i) (by omega) dL_law_29 ?_
    refine lv_bipush (v := nI 63) hx hb dL_law_30 (by decide) ?_
    refine lv_iand hx hb dL_law_32 ?_
    obtain ⟨k, hk, ek⟩ := and63 (xs i)
    refine nv_cv ek ?_
    clear ek
    rcases (show k = 0 ∨ k = 1 ∨ k = 2 ∨ k = 3 ∨ k = 4 ∨ k = 5 ∨ k = 6 ∨ k = 7 ∨ k = 8 ∨ k = 9 ∨ k = 10 ∨ k = 11 ∨ k = 12 ∨ k = 13 ∨ k = 14 ∨ k = 15 ∨ k = 16 ∨ k = 17 ∨ k = 18 ∨ k = 19 ∨ k = 20 ∨ k = 21 ∨ k = 22 ∨ k = 23 ∨ k = 24 ∨ k = 25 ∨ k = 26 ∨ k = 27 ∨ k = 28 ∨ k = 29 ∨ k = 30 ∨ k = 31 ∨ k = 32 ∨ k = 33 ∨ k = 34 ∨ k = 35 ∨ k = 36 ∨ k = 37 ∨ k = 38 ∨ k = 39 ∨ k = 40 ∨ k = 41 ∨ k = 42 ∨ k = 43 ∨ k = 44 ∨ k = 45 ∨ k = 46 ∨ k = 47 ∨ k = 48 ∨ 49 ≤ k by omega) with rfl | rfl | rfl | rfl | rfl | rfl | rfl | rfl | rfl | rfl | rfl | rfl | rfl | rfl | rfl | rfl | rfl | rfl | rfl | rfl | rfl | rfl | rfl | rfl | rfl | rfl | rfl | rfl | rfl | rfl | rfl | rfl | rfl | rfl | rfl | rfl | rfl | rfl | rfl | rfl | rfl | rfl | rfl | rfl | rfl | rfl | rfl | rfl | rfl | h49
    · exact lv_tableIn (x := nI 0) (off := 211) (tgt := 244) hx hb dL_law_33 (by decide) (by decide) (by decide) (by decide) (lc_0 C hA hL h6 hWX hP hN hS hl hf nx)
    · exact lv_tableIn (x := nI 1) (off := 244) (tgt := 277) hx hb dL_law_33 (by decide) (by decide) (by decide) (by decide) (lc_1 C hA hL h6 hWX hP hN hS hl hf nx)
    · exact lv_tableIn (x := nI 2) (off := 277) (tgt := 310) hx hb dL_law_33 (by decide) (by decide) (by decide) (by decide) (lc_2 C hA hL h6 hWX hP hN hS hl hf nx)
    · exact lv_tableIn (x := nI 3) (off := 310) (tgt := 343) hx hb dL_law_33 (by decide) (by decide) (by decide) (by decide) (lc_3 C hA hL h6 hWX hP hN hS hl hf nx)
    · exact lv_tableIn (x := nI 4) (off := 343) (tgt := 376) hx hb dL_law_33 (by decide) (by decide) (by decide) (by decide) (lc_4 C hA hL h6 hWX hP hN hS hl hf nx)
    · exact lv_tableIn (x := nI 5) (off := 386) (tgt := 419) hx hb dL_law_33 (by decide) (by decide) (by decide) (by decide) (lc_5 C hA hL h6 hWX hP hN hS hl hf nx)
    · exact lv_tableIn (x := nI 6) (off := 419) (tgt := 452) hx hb dL_law_33 (by decide) (by decide) (by decide) (by decide) (lc_6 C hA hL h6 hWX hP hN hS hl hf nx)
    · exact lv_tableIn (x := nI 7) (off := 462) (tgt := 495) hx hb dL_law_33 (by decide) (by decide) (by decide) (by decide) (lc_7 C hA hL h6 hWX hP hN hS hl hf nx)
    · exact lv_tableIn (x := nI 8) (off := 495) (tgt := 528) hx hb dL_law_33 (by decide) (by decide) (by decide) (by decide) (lc_8 C hA hL h6 hWX hP hN hS hl hf nx)
    · exact lv_tableIn (x := nI 9) (off := 528) (tgt := 561) hx hb dL_law_33 (by decide) (by decide) (by decide) (by decide) (lc_9 C hA hL h6 hWX hP hN hS hl hf nx)
    · exact lv_tableIn (x := nI 10) (off := 561) (tgt := 594) hx hb dL_law_33 (by decide) (by decide) (by decide) (by decide) (lc_10 C hA hL h6 hWX hP hN hS hl hf nx)
    · exact lv_tableIn (x := nI 11) (off := 584) (tgt := 617) hx hb dL_law_33 (by decide) (by decide) (by decide) (by decide) (lc_11 C hA hL h6 hWX hP hN hS hl hf nx)
    · exact lv_tableIn (x := nI 12) (off := 607) (tgt := 640) hx hb dL_law_33 (by decide) (by decide) (by decide) (by decide) (lc_12 C hA hL h6 hWX hP hN hS hl hf nx)
    · exact lv_tableIn (x := nI 13) (off := 640) (tgt := 673) hx hb dL_law_33 (by decide) (by decide) (by decide) (by decide) (lc_13 C hA hL h6 hWX hP hN hS hl hf nx)
    · exact lv_tableIn (x := nI 14) (off := 663) (tgt := 696) hx hb dL_law_33 (by decide) (by decide) (by decide) (by decide) (lc_14 C hA hL h6 hWX hP hN hS hl hf nx)
    · exact lv_tableIn (x := nI 15) (off := 676) (tgt := 709) hx hb dL_law_33 (by decide) (by decide) (by decide) (by decide) (lc_15 C hA hL h6 hWX hP hN hS hl hf nx)
    · exact lv_tableIn (x := nI 16) (off := 709) (tgt := 742) hx hb dL_law_33 (by decide) (by decide) (by decide) (by decide) (lc_16 C hA hL h6 hWX hP hN hS hl hf nx)
    · exact lv_tableIn (x := nI 17) (off := 742) (tgt := 775) hx hb dL_law_33 (by decide) (by decide) (by decide) (by decide) (lc_17 C hA hL h6 hWX hP hN hS hl hf nx)
    · exact lv_tableIn (x := nI 18) (off := 755) (tgt := 788) hx hb dL_law_33 (by decide) (by decide) (by decide) (by decide) (lc_18 C hA hL h6 hWX hP hN hS hl hf nx)
    · exact lv_tableIn (x := nI 19) (off := 768) (tgt := 801) hx hb dL_law_33 (by decide) (by decide) (by decide) (by decide) (lc_19 C hA hL h6 hWX hP hN hS hl hf nx)
    · exact lv_tableIn (x := nI 20) (off := 791) (tgt := 824) hx hb dL_law_33 (by decide) (by decide) (by decide) (by decide) (lc_20 C hA hL h6 hWX hP hN hS hl hf nx)
    · exact lv_tableIn (x := nI 21) (off := 804) (tgt := 837) hx hb dL_law_33 (by decide) (by decide) (by decide) (by decide) (lc_21 C hA hL h6 hWX hP hN hS hl hf nx)
    · exact lv_tableIn (x := nI 22) (off := 837) (tgt := 870) hx hb dL_law_33 (by decide) (by decide) (by decide) (by decide) (lc_22 C hA hL h6 hWX hP hN hS hl hf nx)
    · exact lv_tableIn (x := nI 23) (off := 850) (tgt := 883) hx hb dL_law_33 (by decide) (by decide) (by decide) (by decide) (lc_23 C hA hL h6 hWX hP hN hS hl hf nx)
    · exact lv_tableIn (x := nI 24) (off := 863) (tgt := 896) hx hb dL_law_33 (by decide) (by decide) (by decide) (by decide) (lc_24 C hA hL h6 hWX hP hN hS hl hf nx)
    · exact lv_tableIn (x := nI 25) (off := 886) (tgt := 919) hx hb dL_law_33 (by decide) (by decide) (by decide) (by decide) (lc_25 C hA hL h6 hWX hP hN hS hl hf nx)
    · exact lv_tableIn (x := nI 26) (off := 919) (tgt := 952) hx hb dL_law_33 (by decide) (by decide) (by decide) (by decide) (lc_26 C hA hL h6 hWX hP hN hS hl hf nx)
    · exact lv_tableIn (x := nI 27) (off := 932) (tgt := 965) hx hb dL_law_33 (by decide) (by decide) (by decide) (by decide) (lc_27 C hA hL h6 hWX hP hN hS hl hf nx)
    · exact lv_tableIn (x := nI 28) (off := 945) (tgt := 978) hx hb dL_law_33 (by decide) (by decide) (by decide) (by decide) (lc_28 C hA hL h6 hWX hP hN hS hl hf nx)
    · exact lv_tableIn (x := nI 29) (off := 988) (tgt := 1021) hx hb dL_law_33 (by decide) (by decide) (by decide) (by decide) (lc_29 C hA hL h6 hWX hP hN hS hl hf nx)
    · exact lv_tableIn (x := nI 30) (off := 1021) (tgt := 1054) hx hb dL_law_33 (by decide) (by decide) (by decide) (by decide) (lc_30 C hA hL h6 hWX hP hN hS hl hf nx)
    · exact lv_tableIn (x := nI 31) (off := 1054) (tgt := 1087) hx hb dL_law_33 (by decide) (by decide) (by decide) (by decide) (lc_31 C hA hL h6 hWX hP hN hS hl hf nx)
    · exact lv_tableIn (x := nI 32) (off := 1077) (tgt := 1110) hx hb dL_law_33 (by decide) (by decide) (by decide) (by decide) (lc_32 C hA hL h6 hWX hP hN hS hl hf nx)
    · exact lv_tableIn (x := nI 33) (off := 1111) (tgt := 1144) hx hb dL_law_33 (by decide) (by decide) (by decide) (by decide) (lc_33 C hA hL h6 hWX hP hN hS hl hf nx)
    · exact lv_tableIn (x := nI 34) (off := 1134) (tgt := 1167) hx hb dL_law_33 (by decide) (by decide) (by decide) (by decide) (lc_34 C hA hL h6 hWX hP hN hS hl hf nx)
    · exact lv_tableIn (x := nI 35) (off := 1167) (tgt := 1200) hx hb dL_law_33 (by decide) (by decide) (by decide) (by decide) (lc_35 C hA hL h6 hWX hP hN hS hl hf nx)
    · exact lv_tableIn (x := nI 36) (off := 1180) (tgt := 1213) hx hb dL_law_33 (by decide) (by decide) (by decide) (by decide) (lc_36 C hA hL h6 hWX hP hN hS hl hf nx)
    · exact lv_tableIn (x := nI 37) (off := 1193) (tgt := 1226) hx hb dL_law_33 (by decide) (by decide) (by decide) (by decide) (lc_37 C hA hL h6 hWX hP hN hS hl hf nx)
    · exact lv_tableIn (x := nI 38) (off := 1226) (tgt := 1259) hx hb dL_law_33 (by decide) (by decide) (by decide) (by decide) (lc_38 C hA hL h6 hWX hP hN hS hl hf nx)
    · exact lv_tableIn (x := nI 39) (off := 1259) (tgt := 1292) hx hb dL_law_33 (by decide) (by decide) (by decide) (by decide) (lc_39 C hA hL h6 hWX hP hN hS hl hf nx)
    · exact lv_tableIn (x := nI 40) (off := 1302) (tgt := 1335) hx hb dL_law_33 (by decide) (by decide) (by decide) (by decide) (lc_40 C hA hL h6 hWX hP hN hS hl hf nx)
    · exact lv_tableIn (x := nI 41) (off := 1345) (tgt := 1378) hx hb dL_law_33 (by decide) (by decide) (by decide) (by decide) (lc_41 C hA hL h6 hWX hP hN hS hl hf nx)
    · exact lv_tableIn (x := nI 42) (off := 1408) (tgt := 1441) hx hb dL_law_33 (by decide) (by decide) (by decide) (by decide) (lc_42 C hA hL h6 hWX hP hN hS hl hf nx)
    · exact lv_tableIn (x := nI 43) (off := 1431) (tgt := 1464) hx hb dL_law_33 (by decide) (by decide) (by decide) (by decide) (lc_43 C hA hL h6 hWX hP hN hS hl hf nx)
    · exact lv_tableIn (x := nI 44) (off := 1454) (tgt := 1487) hx hb dL_law_33 (by decide) (by decide) (by decide) (by decide) (lc_44 C hA hL h6 hWX hP hN hS hl hf nx)
    · exact lv_tableIn (x := nI 45) (off := 1467) (tgt := 1500) hx hb dL_law_33 (by decide) (by decide) (by decide) (by decide) (lc_45 C hA hL h6 hWX hP hN hS hl hf nx)
    · exact lv_tableIn (x := nI 46) (off := 1480) (tgt := 1513) hx hb dL_law_33 (by decide) (by decide) (by decide) (by decide) (lc_46 C hA hL h6 hWX hP hN hS hl hf nx)
    · exact lv_tableIn (x := nI 47) (off := 1493) (tgt := 1526) hx hb dL_law_33 (by decide) (by decide) (by decide) (by decide) (lc_47 C hA hL h6 hWX hP hN hS hl hf nx)
    · exact lv_tableIn (x := nI 48) (off := 1516) (tgt := 1549) hx hb dL_law_33 (by decide) (by decide) (by decide) (by decide) (lc_48 C hA hL h6 hWX hP hN hS hl hf nx)
    · exact lv_tableOut (tgt := 1572) hx hb dL_law_33 (by rw [nI_toInt (by omega)]; omega) (by decide) (nx X H locs hWX hP hN hS)
