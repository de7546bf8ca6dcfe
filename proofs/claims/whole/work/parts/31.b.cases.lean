/-! the law, case by case -/
set_option maxHeartbeats 4000000 in
set_option maxRecDepth 100000 in
/-- case 0: bar -/
theorem lc_0 {p : Program} {l : Launch} {e : Env} {s : State} {m : MethodId} {below : List Frame} {meth : Method} {c : Code} {H : Heap} {locs : List Loc} {cells slots : Nat} {Q : State → Prop} {b L : Nat} {xs : Nat → Int32} {D : va_G} {ci : Nat → ClassId} {ka : Nat} {adK adV : Nat → Nat} {fx : Nat} {ad am : Nat → Nat} {X : AS} {ls : Array Slot} (C : LC p s m c b L xs D ci ka adK adV fx) (hA : LA s ad am) (hL : L ≤ 3072) {i : Nat} (hi : i + 6 ≤ L) (hWX : WFX X) (hP : LX D ci ad X H) (hN : LN D ci am adK X H) (hS : va_S (lG s) s.heap H locs) (hl : lv_has ls 4 [(3, .int (nI i)), (2, .ref (am 0)), (1, .ref (ad 0)), (0, .ref b)]) (hf : cells ≤ room_1.cells ∧ slots ≤ room_1.slots)
    (kk : ∀ (X : AS) (H : Heap) (locs : List Loc), WFX X → LX D ci ad X H → LN D ci am adK X H → va_S (lG s) s.heap H locs → W p l e room_1 s m #[Value.ref b] below meth c H locs cells slots Q (F0 m 1572 ls [])) : W p l e room_1 s m #[Value.ref b] below meth c H locs cells slots Q (F0 m 244 ls []) := by
  obtain ⟨hx, hb, hml, hown, hts, hX, hbl, hK, hsS, hsW⟩ := id C
  refine lv_aload_n hx hb dL_law_244 rfl (lv_at hl 2 rfl) ?_
  refine lv_aload_n hx hb dL_law_245 rfl (lv_at hl 3 rfl) ?_
  refine lv_iload_n hx hb dL_law_246 rfl (lv_at hl 0 rfl) ?_
  refine lv_iconst (v := nI 1) hx hb dL_law_247 (by decide) ?_
  refine nv_iadd hx hb dL_law_248 ?_
  refine nv_sld C hL hS (j := i + 1) (by omega) dL_law_249 ?_
  refine lv_aload_n hx hb dL_law_250 rfl (lv_at hl 3 rfl) ?_
  refine lv_iload_n hx hb dL_law_251 rfl (lv_at hl 0 rfl) ?_
  refine lv_iconst (v := nI 2) hx hb dL_law_252 (by decide) ?_
  refine nv_iadd hx hb dL_law_253 ?_
  refine nv_sld C hL hS (j := i + 2) (by omega) dL_law_254 ?_
  refine lw_cX (X2 := (p_bar X (xs (i + 1)) (xs (i + 2))).2) (v := .int (p_bar X (xs (i + 1)) (xs (i + 2))).1) (n := 2) (As := [.int (xs (i + 1)), .int (xs (i + 2))]) (rest := []) C hA hP hN (fun T tq la tt z => c_X3_bar l D ci (lG s) ka ad X T tq la tt z hA.1 hA.2.2.1 (xs (i + 1)) (xs (i + 2)) hWX) gL_law_X3_bar rfl ⟨rfl, rfl⟩ (by decide +kernel) rfl ⟨(Nat.le_of_ble_eq_true rfl), (Nat.le_of_ble_eq_true rfl)⟩ (hE_en D (ci 0) (lG s) ka) (C.e3 hS) hl.1 rfl (Nat.le_of_ble_eq_true rfl) dL_law_255 hf hS (fun H locs hP hN hS => ?_)
  refine lv_aload_n hx hb dL_law_258 rfl (lv_at hl 1 rfl) ?_
  refine lv_aload_n hx hb dL_law_259 rfl (lv_at hl 3 rfl) ?_
  refine lv_iload_n hx hb dL_law_260 rfl (lv_at hl 0 rfl) ?_
  refine lv_iconst (v := nI 1) hx hb dL_law_261 (by decide) ?_
  refine nv_iadd hx hb dL_law_262 ?_
  refine nv_sld C hL hS (j := i + 1) (by omega) dL_law_263 ?_
  refine lv_aload_n hx hb dL_law_264 rfl (lv_at hl 3 rfl) ?_
  refine lv_iload_n hx hb dL_law_265 rfl (lv_at hl 0 rfl) ?_
  refine lv_iconst (v := nI 2) hx hb dL_law_266 (by decide) ?_
  refine nv_iadd hx hb dL_law_267 ?_
  refine nv_sld C hL hS (j := i + 2) (by omega) dL_law_268 ?_
  refine lw_cN (X2 := (p_bar X (xs (i + 1)) (xs (i + 2))).2) (v := .int (p_bar X (xs (i + 1)) (xs (i + 2))).1) (n := 2) (As := [.int (xs (i + 1)), .int (xs (i + 2))]) (rest := [.int (p_bar X (xs (i + 1)) (xs (i + 2))).1]) C hA hP hN (fun kn kr q0 q1 q2 q3 q4 q5 iw y0 y1 y2 y3 y4 y5 y6 h1 h2 => c_X4_bar l D ci am X kr q0 q1 q2 q3 q4 q5 iw kn y0 y1 y2 y3 y4 y5 y6 hA.2.1 (xs (i + 1)) (xs (i + 2)) hWX h2) gL_law_X4_bar rfl ⟨rfl, rfl⟩ (by decide +kernel) rfl ⟨(Nat.le_of_ble_eq_true rfl), (Nat.le_of_ble_eq_true rfl)⟩ hE_T trivial hl.1 rfl (Nat.le_of_ble_eq_true rfl) dL_law_269 hf hS (fun H locs hP hN hS => ?_)
  refine lv_icmp_eq (tgt := 1572) hx hb dL_law_272 (by decide) (fun _ => ?_) (fun h => absurd rfl h)
  exact kk _ H locs (wf_bar hWX (xs (i + 1)) (xs (i + 2))) hP hN hS

set_option maxHeartbeats 4000000 in
set_option maxRecDepth 100000 in
/-- case 1: barOf -/
theorem lc_1 {p : Program} {l : Launch} {e : Env} {s : State} {m : MethodId} {below : List Frame} {meth : Method} {c : Code} {H : Heap} {locs : List Loc} {cells slots : Nat} {Q : State → Prop} {b L : Nat} {xs : Nat → Int32} {D : va_G} {ci : Nat → ClassId} {ka : Nat} {adK adV : Nat → Nat} {fx : Nat} {ad am : Nat → Nat} {X : AS} {ls : Array Slot} (C : LC p s m c b L xs D ci ka adK adV fx) (hA : LA s ad am) (hL : L ≤ 3072) {i : Nat} (hi : i + 6 ≤ L) (hWX : WFX X) (hP : LX D ci ad X H) (hN : LN D ci am adK X H) (hS : va_S (lG s) s.heap H locs) (hl : lv_has ls 4 [(3, .int (nI i)), (2, .ref (am 0)), (1, .ref (ad 0)), (0, .ref b)]) (hf : cells ≤ room_1.cells ∧ slots ≤ room_1.slots)
    (kk : ∀ (X : AS) (H : Heap) (locs : List Loc), WFX X → LX D ci ad X H → LN D ci am adK X H → va_S (lG s) s.heap H locs → W p l e room_1 s m #[Value.ref b] below meth c H locs cells slots Q (F0 m 1572 ls [])) : W p l e room_1 s m #[Value.ref b] below meth c H locs cells slots Q (F0 m 277 ls []) := by
  obtain ⟨hx, hb, hml, hown, hts, hX, hbl, hK, hsS, hsW⟩ := id C
  refine lv_aload_n hx hb dL_law_277 rfl (lv_at hl 2 rfl) ?_
  refine lv_aload_n hx hb dL_law_278 rfl (lv_at hl 3 rfl) ?_
  refine lv_iload_n hx hb dL_law_279 rfl (lv_at hl 0 rfl) ?_
  refine lv_iconst (v := nI 1) hx hb dL_law_280 (by decide) ?_
  refine nv_iadd hx hb dL_law_281 ?_
  refine nv_sld C hL hS (j := i + 1) (by omega) dL_law_282 ?_
  refine lv_aload_n hx hb dL_law_283 rfl (lv_at hl 3 rfl) ?_
  refine lv_iload_n hx hb dL_law_284 rfl (lv_at hl 0 rfl) ?_
  refine lv_iconst (v := nI 2) hx hb dL_law_285 (by decide) ?_
  refine nv_iadd hx hb dL_law_286 ?_
  refine nv_sld C hL hS (j := i + 2) (by omega) dL_law_287 ?_
  refine lw_cX (X2 := (p_barOf X (xs (i + 1)) (xs (i + 2))).2) (v := .int (p_barOf X (xs (i + 1)) (xs (i + 2))).1) (n := 2) (As := [.int (xs (i + 1)), .int (xs (i + 2))]) (rest := []) C hA hP hN (fun T tq la tt z => c_X3_barOf l D ci (lG s) ka ad X T tq la tt z hA.1 hA.2.2.1 (xs (i + 1)) (xs (i + 2)) hWX) gL_law_X3_barOf rfl ⟨rfl, rfl⟩ (by decide +kernel) rfl ⟨(Nat.le_of_ble_eq_true rfl), (Nat.le_of_ble_eq_true rfl)⟩ (hE_en D (ci 0) (lG s) ka) (C.e3 hS) hl.1 rfl (Nat.le_of_ble_eq_true rfl) dL_law_288 hf hS (fun H locs hP hN hS => ?_)
  refine lv_aload_n hx hb dL_law_291 rfl (lv_at hl 1 rfl) ?_
  refine lv_aload_n hx hb dL_law_292 rfl (lv_at hl 3 rfl) ?_
  refine lv_iload_n hx hb dL_law_293 rfl (lv_at hl 0 rfl) ?_
  refine lv_iconst (v := nI 1) hx hb dL_law_294 (by decide) ?_
  refine nv_iadd hx hb dL_law_295 ?_
  refine nv_sld C hL hS (j := i + 1) (by omega) dL_law_296 ?_
  refine lv_aload_n hx hb dL_law_297 rfl (lv_at hl 3 rfl) ?_
  refine lv_iload_n hx hb dL_law_298 rfl (lv_at hl 0 rfl) ?_
  refine lv_iconst (v := nI 2) hx hb dL_law_299 (by decide) ?_
  refine nv_iadd hx hb dL_law_300 ?_
  refine nv_sld C hL hS (j := i + 2) (by omega) dL_law_301 ?_
  refine lw_cN (X2 := (p_barOf X (xs (i + 1)) (xs (i + 2))).2) (v := .int (p_barOf X (xs (i + 1)) (xs (i + 2))).1) (n := 2) (As := [.int (xs (i + 1)), .int (xs (i + 2))]) (rest := [.int (p_barOf X (xs (i + 1)) (xs (i + 2))).1]) C hA hP hN (fun kn kr q0 q1 q2 q3 q4 q5 iw y0 y1 y2 y3 y4 y5 y6 h1 h2 => c_X4_barOf l D ci am X kr q0 q1 q2 q3 q4 q5 iw kn y0 y1 y2 y3 y4 y5 y6 hA.2.1 (xs (i + 1)) (xs (i + 2)) hWX h2) gL_law_X4_barOf rfl ⟨rfl, rfl⟩ (by decide +kernel) rfl ⟨(Nat.le_of_ble_eq_true rfl), (Nat.le_of_ble_eq_true rfl)⟩ hE_T trivial hl.1 rfl (Nat.le_of_ble_eq_true rfl) dL_law_302 hf hS (fun H locs hP hN hS => ?_)
  refine lv_icmp_eq (tgt := 1572) hx hb dL_law_305 (by decide) (fun _ => ?_) (fun h => absurd rfl h)
  exact kk _ H locs (wf_barOf hWX (xs (i + 1)) (xs (i + 2))) hP hN hS

set_option maxHeartbeats 4000000 in
set_option maxRecDepth 100000 in
/-- case 2: player -/
theorem lc_2 {p : Program} {l : Launch} {e : Env} {s : State} {m : MethodId} {below : List Frame} {meth : Method} {c : Code} {H : Heap} {locs : List Loc} {cells slots : Nat} {Q : State → Prop} {b L : Nat} {xs : Nat → Int32} {D : va_G} {ci : Nat → ClassId} {ka : Nat} {adK adV : Nat → Nat} {fx : Nat} {ad am : Nat → Nat} {X : AS} {ls : Array Slot} (C : LC p s m c b L xs D ci ka adK adV fx) (hA : LA s ad am) (hL : L ≤ 3072) {i : Nat} (hi : i + 6 ≤ L) (hWX : WFX X) (hP : LX D ci ad X H) (hN : LN D ci am adK X H) (hS : va_S (lG s) s.heap H locs) (hl : lv_has ls 4 [(3, .int (nI i)), (2, .ref (am 0)), (1, .ref (ad 0)), (0, .ref b)]) (hf : cells ≤ room_1.cells ∧ slots ≤ room_1.slots)
    (kk : ∀ (X : AS) (H : Heap) (locs : List Loc), WFX X → LX D ci ad X H → LN D ci am adK X H → va_S (lG s) s.heap H locs → W p l e room_1 s m #[Value.ref b] below meth c H locs cells slots Q (F0 m 1572 ls [])) : W p l e room_1 s m #[Value.ref b] below meth c H locs cells slots Q (F0 m 310 ls []) := by
  obtain ⟨hx, hb, hml, hown, hts, hX, hbl, hK, hsS, hsW⟩ := id C
  refine lv_aload_n hx hb dL_law_310 rfl (lv_at hl 2 rfl) ?_
  refine lv_aload_n hx hb dL_law_311 rfl (lv_at hl 3 rfl) ?_
  refine lv_iload_n hx hb dL_law_312 rfl (lv_at hl 0 rfl) ?_
  refine lv_iconst (v := nI 1) hx hb dL_law_313 (by decide) ?_
  refine nv_iadd hx hb dL_law_314 ?_
  refine nv_sld C hL hS (j := i + 1) (by omega) dL_law_315 ?_
  refine lv_aload_n hx hb dL_law_316 rfl (lv_at hl 3 rfl) ?_
  refine lv_iload_n hx hb dL_law_317 rfl (lv_at hl 0 rfl) ?_
  refine lv_iconst (v := nI 2) hx hb dL_law_318 (by decide) ?_
  refine nv_iadd hx hb dL_law_319 ?_
  refine nv_sld C hL hS (j := i + 2) (by omega) dL_law_320 ?_
  refine lw_cX (X2 := (p_player X (xs (i + 1)) (xs (i + 2))).2) (v := .int (p_player X (xs (i + 1)) (xs (i + 2))).1) (n := 2) (As := [.int (xs (i + 1)), .int (xs (i + 2))]) (rest := []) C hA hP hN (fun T tq la tt z => c_X3_player l D ci (lG s) ka ad X T tq la tt z hA.1 hA.2.2.1 (xs (i + 1)) (xs (i + 2)) hWX) gL_law_X3_player rfl ⟨rfl, rfl⟩ (by decide +kernel) rfl ⟨(Nat.le_of_ble_eq_true rfl), (Nat.le_of_ble_eq_true rfl)⟩ (hE_en D (ci 0) (lG s) ka) (C.e3 hS) hl.1 rfl (Nat.le_of_ble_eq_true rfl) dL_law_321 hf hS (fun H locs hP hN hS => ?_)
  refine lv_aload_n hx hb dL_law_324 rfl (lv_at hl 1 rfl) ?_
  refine lv_aload_n hx hb dL_law_325 rfl (lv_at hl 3 rfl) ?_
  refine lv_iload_n hx hb dL_law_326 rfl (lv_at hl 0 rfl) ?_
  refine lv_iconst (v := nI 1) hx hb dL_law_327 (by decide) ?_
  refine nv_iadd hx hb dL_law_328 ?_
  refine nv_sld C hL hS (j := i + 1) (by omega) dL_law_329 ?_
  refine lv_aload_n hx hb dL_law_330 rfl (lv_at hl 3 rfl) ?_
  refine lv_iload_n hx hb dL_law_331 rfl (lv_at hl 0 rfl) ?_
  refine lv_iconst (v := nI 2) hx hb dL_law_332 (by decide) ?_
  refine nv_iadd hx hb dL_law_333 ?_
  refine nv_sld C hL hS (j := i + 2) (by omega) dL_law_334 ?_
  refine lw_cN (X2 := (p_player X (xs (i + 1)) (xs (i + 2))).2) (v := .int (p_player X (xs (i + 1)) (xs (i + 2))).1) (n := 2) (As := [.int (xs (i + 1)), .int (xs (i + 2))]) (rest := [.int (p_player X (xs (i + 1)) (xs (i + 2))).1]) C hA hP hN (fun kn kr q0 q1 q2 q3 q4 q5 iw y0 y1 y2 y3 y4 y5 y6 h1 h2 => c_X4_player l D ci am X kr q0 q1 q2 q3 q4 q5 iw kn y0 y1 y2 y3 y4 y5 y6 hA.2.1 (xs (i + 1)) (xs (i + 2)) hWX h2) gL_law_X4_player rfl ⟨rfl, rfl⟩ (by decide +kernel) rfl ⟨(Nat.le_of_ble_eq_true rfl), (Nat.le_of_ble_eq_true rfl)⟩ hE_T trivial hl.1 rfl (Nat.le_of_ble_eq_true rfl) dL_law_335 hf hS (fun H locs hP hN hS => ?_)
  refine lv_icmp_eq (tgt := 1572) hx hb dL_law_338 (by decide) (fun _ => ?_) (fun h => absurd rfl h)
  exact kk _ H locs (wf_player hWX (xs (i + 1)) (xs (i + 2))) hP hN hS

set_option maxHeartbeats 4000000 in
set_option maxRecDepth 100000 in
/-- case 3: of -/
theorem lc_3 {p : Program} {l : Launch} {e : Env} {s : State} {m : MethodId} {below : List Frame} {meth : Method} {c : Code} {H : Heap} {locs : List Loc} {cells slots : Nat} {Q : State → Prop} {b L : Nat} {xs : Nat → Int32} {D : va_G} {ci : Nat → ClassId} {ka : Nat} {adK adV : Nat → Nat} {fx : Nat} {ad am : Nat → Nat} {X : AS} {ls : Array Slot} (C : LC p s m c b L xs D ci ka adK adV fx) (hA : LA s ad am) (hL : L ≤ 3072) {i : Nat} (hi : i + 6 ≤ L) (hWX : WFX X) (hP : LX D ci ad X H) (hN : LN D ci am adK X H) (hS : va_S (lG s) s.heap H locs) (hl : lv_has ls 4 [(3, .int (nI i)), (2, .ref (am 0)), (1, .ref (ad 0)), (0, .ref b)]) (hf : cells ≤ room_1.cells ∧ slots ≤ room_1.slots)
    (kk : ∀ (X : AS) (H : Heap) (locs : List Loc), WFX X → LX D ci ad X H → LN D ci am adK X H → va_S (lG s) s.heap H locs → W p l e room_1 s m #[Value.ref b] below meth c H locs cells slots Q (F0 m 1572 ls [])) : W p l e room_1 s m #[Value.ref b] below meth c H locs cells slots Q (F0 m 343 ls []) := by
  obtain ⟨hx, hb, hml, hown, hts, hX, hbl, hK, hsS, hsW⟩ := id C
  refine lv_aload_n hx hb dL_law_343 rfl (lv_at hl 2 rfl) ?_
  refine lv_aload_n hx hb dL_law_344 rfl (lv_at hl 3 rfl) ?_
  refine lv_iload_n hx hb dL_law_345 rfl (lv_at hl 0 rfl) ?_
  refine lv_iconst (v := nI 1) hx hb dL_law_346 (by decide) ?_
  refine nv_iadd hx hb dL_law_347 ?_
  refine nv_sld C hL hS (j := i + 1) (by omega) dL_law_348 ?_
  refine lv_aload_n hx hb dL_law_349 rfl (lv_at hl 3 rfl) ?_
  refine lv_iload_n hx hb dL_law_350 rfl (lv_at hl 0 rfl) ?_
  refine lv_iconst (v := nI 2) hx hb dL_law_351 (by decide) ?_
  refine nv_iadd hx hb dL_law_352 ?_
  refine nv_sld C hL hS (j := i + 2) (by omega) dL_law_353 ?_
  refine lw_cX (X2 := (p_of X (xs (i + 1)) (xs (i + 2))).2) (v := .int (p_of X (xs (i + 1)) (xs (i + 2))).1) (n := 2) (As := [.int (xs (i + 1)), .int (xs (i + 2))]) (rest := []) C hA hP hN (fun T tq la tt z => c_X3_of l D ci (lG s) ka ad X T tq la tt z hA.1 hA.2.2.1 (xs (i + 1)) (xs (i + 2)) hWX) gL_law_X3_of rfl ⟨rfl, rfl⟩ (by decide +kernel) rfl ⟨(Nat.le_of_ble_eq_true rfl), (Nat.le_of_ble_eq_true rfl)⟩ (hE_en D (ci 0) (lG s) ka) (C.e3 hS) hl.1 rfl (Nat.le_of_ble_eq_true rfl) dL_law_354 hf hS (fun H locs hP hN hS => ?_)
  refine lv_aload_n hx hb dL_law_357 rfl (lv_at hl 1 rfl) ?_
  refine lv_aload_n hx hb dL_law_358 rfl (lv_at hl 3 rfl) ?_
  refine lv_iload_n hx hb dL_law_359 rfl (lv_at hl 0 rfl) ?_
  refine lv_iconst (v := nI 1) hx hb dL_law_360 (by decide) ?_
  refine nv_iadd hx hb dL_law_361 ?_
  refine nv_sld C hL hS (j := i + 1) (by omega) dL_law_362 ?_
  refine lv_aload_n hx hb dL_law_363 rfl (lv_at hl 3 rfl) ?_
  refine lv_iload_n hx hb dL_law_364 rfl (lv_at hl 0 rfl) ?_
  refine lv_iconst (v := nI 2) hx hb dL_law_365 (by decide) ?_
  refine nv_iadd hx hb dL_law_366 ?_
  refine nv_sld C hL hS (j := i + 2) (by omega) dL_law_367 ?_
  refine lw_cN (X2 := (p_of X (xs (i + 1)) (xs (i + 2))).2) (v := .int (p_of X (xs (i + 1)) (xs (i + 2))).1) (n := 2) (As := [.int (xs (i + 1)), .int (xs (i + 2))]) (rest := [.int (p_of X (xs (i + 1)) (xs (i + 2))).1]) C hA hP hN (fun kn kr q0 q1 q2 q3 q4 q5 iw y0 y1 y2 y3 y4 y5 y6 h1 h2 => c_X4_of l D ci am X kr q0 q1 q2 q3 q4 q5 iw kn y0 y1 y2 y3 y4 y5 y6 hA.2.1 (xs (i + 1)) (xs (i + 2)) hWX h2) gL_law_X4_of rfl ⟨rfl, rfl⟩ (by decide +kernel) rfl ⟨(Nat.le_of_ble_eq_true rfl), (Nat.le_of_ble_eq_true rfl)⟩ hE_T trivial hl.1 rfl (Nat.le_of_ble_eq_true rfl) dL_law_368 hf hS (fun H locs hP hN hS => ?_)
  refine lv_icmp_eq (tgt := 1572) hx hb dL_law_371 (by decide) (fun _ => ?_) (fun h => absurd rfl h)
  exact kk _ H locs (wf_of hWX (xs (i + 1)) (xs (i + 2))) hP hN hS

set_option maxHeartbeats 4000000 in
set_option maxRecDepth 100000 in
/-- case 4: change -/
theorem lc_4 {p : Program} {l : Launch} {e : Env} {s : State} {m : MethodId} {below : List Frame} {meth : Method} {c : Code} {H : Heap} {locs : List Loc} {cells slots : Nat} {Q : State → Prop} {b L : Nat} {xs : Nat → Int32} {D : va_G} {ci : Nat → ClassId} {ka : Nat} {adK adV : Nat → Nat} {fx : Nat} {ad am : Nat → Nat} {X : AS} {ls : Array Slot} (C : LC p s m c b L xs D ci ka adK adV fx) (hA : LA s ad am) (hL : L ≤ 3072) {i : Nat} (hi : i + 6 ≤ L) (hWX : WFX X) (hP : LX D ci ad X H) (hN : LN D ci am adK X H) (hS : va_S (lG s) s.heap H locs) (hl : lv_has ls 4 [(3, .int (nI i)), (2, .ref (am 0)), (1, .ref (ad 0)), (0, .ref b)]) (hf : cells ≤ room_1.cells ∧ slots ≤ room_1.slots)
    (kk : ∀ (X : AS) (H : Heap) (locs : List Loc), WFX X → LX D ci ad X H → LN D ci am adK X H → va_S (lG s) s.heap H locs → W p l e room_1 s m #[Value.ref b] below meth c H locs cells slots Q (F0 m 1572 ls [])) : W p l e room_1 s m #[Value.ref b] below meth c H locs cells slots Q (F0 m 376 ls []) := by
  obtain ⟨hx, hb, hml, hown, hts, hX, hbl, hK, hsS, hsW⟩ := id C
  refine lv_aload_n hx hb dL_law_376 rfl (lv_at hl 2 rfl) ?_
  refine lv_aload_n hx hb dL_law_377 rfl (lv_at hl 3 rfl) ?_
  refine lv_iload_n hx hb dL_law_378 rfl (lv_at hl 0 rfl) ?_
  refine lv_iconst (v := nI 1) hx hb dL_law_379 (by decide) ?_
  refine nv_iadd hx hb dL_law_380 ?_
  refine nv_sld C hL hS (j := i + 1) (by omega) dL_law_381 ?_
  refine lv_aload_n hx hb dL_law_382 rfl (lv_at hl 3 rfl) ?_
  refine lv_iload_n hx hb dL_law_383 rfl (lv_at hl 0 rfl) ?_
  refine lv_iconst (v := nI 2) hx hb dL_law_384 (by decide) ?_
  refine nv_iadd hx hb dL_law_385 ?_
  refine nv_sld C hL hS (j := i + 2) (by omega) dL_law_386 ?_
  refine lv_aload_n hx hb dL_law_387 rfl (lv_at hl 3 rfl) ?_
  refine lv_iload_n hx hb dL_law_388 rfl (lv_at hl 0 rfl) ?_
  refine lv_iconst (v := nI 3) hx hb dL_law_389 (by decide) ?_
  refine nv_iadd hx hb dL_law_390 ?_
  refine nv_sld C hL hS (j := i + 3) (by omega) dL_law_391 ?_
  refine lw_cX (X2 := (p_change X (xs (i + 1)) (xs (i + 2)) (xs (i + 3))).2) (v := .int (p_change X (xs (i + 1)) (xs (i + 2)) (xs (i + 3))).1) (n := 3) (As := [.int (xs (i + 1)), .int (xs (i + 2)), .int (xs (i + 3))]) (rest := []) C hA hP hN (fun T tq la tt z => c_X3_change l D ci (lG s) ka ad X T tq la tt z hA.1 hA.2.2.1 (xs (i + 1)) (xs (i + 2)) (xs (i + 3)) hWX) gL_law_X3_change rfl ⟨rfl, rfl⟩ (by decide +kernel) rfl ⟨(Nat.le_of_ble_eq_true rfl), (Nat.le_of_ble_eq_true rfl)⟩ (hE_en D (ci 0) (lG s) ka) (C.e3 hS) hl.1 rfl (Nat.le_of_ble_eq_true rfl) dL_law_392 hf hS (fun H locs hP hN hS => ?_)
  refine lv_aload_n hx hb dL_law_395 rfl (lv_at hl 1 rfl) ?_
  refine lv_aload_n hx hb dL_law_396 rfl (lv_at hl 3 rfl) ?_
  refine lv_iload_n hx hb dL_law_397 rfl (lv_at hl 0 rfl) ?_
  refine lv_iconst (v := nI 1) hx hb dL_law_398 (by decide) ?_
  refine nv_iadd hx hb dL_law_399 ?_
  refine nv_sld C hL hS (j := i + 1) (by omega) dL_law_400 ?_
  refine lv_aload_n hx hb dL_law_401 rfl (lv_at hl 3 rfl) ?_
  refine lv_iload_n hx hb dL_law_402 rfl (lv_at hl 0 rfl) ?_
  refine lv_iconst (v := nI 2) hx hb dL_law_403 (by decide) ?_
  refine nv_iadd hx hb dL_law_404 ?_
  refine nv_sld C hL hS (j := i + 2) (by omega) dL_law_405 ?_
  refine lv_aload_n hx hb dL_law_406 rfl (lv_at hl 3 rfl) ?_
  refine lv_iload_n hx hb dL_law_407 rfl (lv_at hl 0 rfl) ?_
  refine lv_iconst (v := nI 3) hx hb dL_law_408 (by decide) ?_
  refine nv_iadd hx hb dL_law_409 ?_
  refine nv_sld C hL hS (j := i + 3) (by omega) dL_law_410 ?_
  refine lw_cN (X2 := (p_change X (xs (i + 1)) (xs (i + 2)) (xs (i + 3))).2) (v := .int (p_change X (xs (i + 1)) (xs (i + 2)) (xs (i + 3))).1) (n := 3) (As := [.int (xs (i + 1)), .int (xs (i + 2)), .int (xs (i + 3))]) (rest := [.int (p_change X (xs (i + 1)) (xs (i + 2)) (xs (i + 3))).1]) C hA hP hN (fun kn kr q0 q1 q2 q3 q4 q5 iw y0 y1 y2 y3 y4 y5 y6 h1 h2 => c_X4_change l D ci am X kr q0 q1 q2 q3 q4 q5 iw kn y0 y1 y2 y3 y4 y5 y6 hA.2.1 (xs (i + 1)) (xs (i + 2)) (xs (i + 3)) hWX h2) gL_law_X4_change rfl ⟨rfl, rfl⟩ (by decide +kernel) rfl ⟨(Nat.le_of_ble_eq_true rfl), (Nat.le_of_ble_eq_true rfl)⟩ hE_T trivial hl.1 rfl (Nat.le_of_ble_eq_true rfl) dL_law_411 hf hS (fun H locs hP hN hS => ?_)
  refine lv_icmp_eq (tgt := 1572) hx hb dL_law_414 (by decide) (fun _ => ?_) (fun h => absurd rfl h)
  exact kk _ H locs (wf_change hWX (xs (i + 1)) (xs (i + 2)) (xs (i + 3))) hP hN hS

set_option maxHeartbeats 4000000 in
set_option maxRecDepth 100000 in
/-- case 5: swap -/
theorem lc_5 {p : Program} {l : Launch} {e : Env} {s : State} {m : MethodId} {below : List Frame} {meth : Method} {c : Code} {H : Heap} {locs : List Loc} {cells slots : Nat} {Q : State → Prop} {b L : Nat} {xs : Nat → Int32} {D : va_G} {ci : Nat → ClassId} {ka : Nat} {adK adV : Nat → Nat} {fx : Nat} {ad am : Nat → Nat} {X : AS} {ls : Array Slot} (C : LC p s m c b L xs D ci ka adK adV fx) (hA : LA s ad am) (hL : L ≤ 3072) {i : Nat} (hi : i + 6 ≤ L) (hWX : WFX X) (hP : LX D ci ad X H) (hN : LN D ci am adK X H) (hS : va_S (lG s) s.heap H locs) (hl : lv_has ls 4 [(3, .int (nI i)), (2, .ref (am 0)), (1, .ref (ad 0)), (0, .ref b)]) (hf : cells ≤ room_1.cells ∧ slots ≤ room_1.slots)
    (kk : ∀ (X : AS) (H : Heap) (locs : List Loc), WFX X → LX D ci ad X H → LN D ci am adK X H → va_S (lG s) s.heap H locs → W p l e room_1 s m #[Value.ref b] below meth c H locs cells slots Q (F0 m 1572 ls [])) : W p l e room_1 s m #[Value.ref b] below meth c H locs cells slots Q (F0 m 419 ls []) := by
  obtain ⟨hx, hb, hml, hown, hts, hX, hbl, hK, hsS, hsW⟩ := id C
  refine lv_aload_n hx hb dL_law_419 rfl (lv_at hl 2 rfl) ?_
  refine lv_aload_n hx hb dL_law_420 rfl (lv_at hl 3 rfl) ?_
  refine lv_iload_n hx hb dL_law_421 rfl (lv_at hl 0 rfl) ?_
  refine lv_iconst (v := nI 1) hx hb dL_law_422 (by decide) ?_
  refine nv_iadd hx hb dL_law_423 ?_
  refine nv_sld C hL hS (j := i + 1) (by omega) dL_law_424 ?_
  refine lv_aload_n hx hb dL_law_425 rfl (lv_at hl 3 rfl) ?_
  refine lv_iload_n hx hb dL_law_426 rfl (lv_at hl 0 rfl) ?_
  refine lv_iconst (v := nI 2) hx hb dL_law_427 (by decide) ?_
  refine nv_iadd hx hb dL_law_428 ?_
  refine nv_sld C hL hS (j := i + 2) (by omega) dL_law_429 ?_
  refine lw_cX (X2 := (p_swap X (xs (i + 1)) (xs (i + 2))).2) (v := .int (p_swap X (xs (i + 1)) (xs (i + 2))).1) (n := 2) (As := [.int (xs (i + 1)), .int (xs (i + 2))]) (rest := []) C hA hP hN (fun T tq la tt z => c_X3_swap l D ci (lG s) ka ad X T tq la tt z hA.1 hA.2.2.1 (xs (i + 1)) (xs (i + 2)) hWX) gL_law_X3_swap rfl ⟨rfl, rfl⟩ (by decide +kernel) rfl ⟨(Nat.le_of_ble_eq_true rfl), (Nat.le_of_ble_eq_true rfl)⟩ (hE_en D (ci 0) (lG s) ka) (C.e3 hS) hl.1 rfl (Nat.le_of_ble_eq_true rfl) dL_law_430 hf hS (fun H locs hP hN hS => ?_)
  refine lv_aload_n hx hb dL_law_433 rfl (lv_at hl 1 rfl) ?_
  refine lv_aload_n hx hb dL_law_434 rfl (lv_at hl 3 rfl) ?_
  refine lv_iload_n hx hb dL_law_435 rfl (lv_at hl 0 rfl) ?_
  refine lv_iconst (v := nI 1) hx hb dL_law_436 (by decide) ?_
  refine nv_iadd hx hb dL_law_437 ?_
  refine nv_sld C hL hS (j := i + 1) (by omega) dL_law_438 ?_
  refine lv_aload_n hx hb dL_law_439 rfl (lv_at hl 3 rfl) ?_
  refine lv_iload_n hx hb dL_law_440 rfl (lv_at hl 0 rfl) ?_
  refine lv_iconst (v := nI 2) hx hb dL_law_441 (by decide) ?_
  refine nv_iadd hx hb dL_law_442 ?_
  refine nv_sld C hL hS (j := i + 2) (by omega) dL_law_443 ?_
  refine lw_cN (X2 := (p_swap X (xs (i + 1)) (xs (i + 2))).2) (v := .int (p_swap X (xs (i + 1)) (xs (i + 2))).1) (n := 2) (As := [.int (xs (i + 1)), .int (xs (i + 2))]) (rest := [.int (p_swap X (xs (i + 1)) (xs (i + 2))).1]) C hA hP hN (fun kn kr q0 q1 q2 q3 q4 q5 iw y0 y1 y2 y3 y4 y5 y6 h1 h2 => c_X4_swap l D ci am X kr q0 q1 q2 q3 q4 q5 iw kn y0 y1 y2 y3 y4 y5 y6 hA.2.1 (xs (i + 1)) (xs (i + 2)) hWX h2) gL_law_X4_swap rfl ⟨rfl, rfl⟩ (by decide +kernel) rfl ⟨(Nat.le_of_ble_eq_true rfl), (Nat.le_of_ble_eq_true rfl)⟩ hE_T trivial hl.1 rfl (Nat.le_of_ble_eq_true rfl) dL_law_444 hf hS (fun H locs hP hN hS => ?_)
  refine lv_icmp_eq (tgt := 1572) hx hb dL_law_447 (by decide) (fun _ => ?_) (fun h => absurd rfl h)
  exact kk _ H locs (wf_swap hWX (xs (i + 1)) (xs (i + 2))) hP hN hS

set_option maxHeartbeats 4000000 in
set_option maxRecDepth 100000 in
/-- case 6: sound -/
theorem lc_6 {p : Program} {l : Launch} {e : Env} {s : State} {m : MethodId} {below : List Frame} {meth : Method} {c : Code} {H : Heap} {locs : List Loc} {cells slots : Nat} {Q : State → Prop} {b L : Nat} {xs : Nat → Int32} {D : va_G} {ci : Nat → ClassId} {ka : Nat} {adK adV : Nat → Nat} {fx : Nat} {ad am : Nat → Nat} {X : AS} {ls : Array Slot} (C : LC p s m c b L xs D ci ka adK adV fx) (hA : LA s ad am) (hL : L ≤ 3072) {i : Nat} (hi : i + 6 ≤ L) (hWX : WFX X) (hP : LX D ci ad X H) (hN : LN D ci am adK X H) (hS : va_S (lG s) s.heap H locs) (hl : lv_has ls 4 [(3, .int (nI i)), (2, .ref (am 0)), (1, .ref (ad 0)), (0, .ref b)]) (hf : cells ≤ room_1.cells ∧ slots ≤ room_1.slots)
    (kk : ∀ (X : AS) (H : Heap) (locs : List Loc), WFX X → LX D ci ad X H → LN D ci am adK X H → va_S (lG s) s.heap H locs → W p l e room_1 s m #[Value.ref b] below meth c H locs cells slots Q (F0 m 1572 ls [])) : W p l e room_1 s m #[Value.ref b] below meth c H locs cells slots Q (F0 m 452 ls []) := by
  obtain ⟨hx, hb, hml, hown, hts, hX, hbl, hK, hsS, hsW⟩ := id C
  refine lv_aload_n hx hb dL_law_452 rfl (lv_at hl 2 rfl) ?_
  refine lv_aload_n hx hb dL_law_453 rfl (lv_at hl 3 rfl) ?_
  refine lv_iload_n hx hb dL_law_454 rfl (lv_at hl 0 rfl) ?_
  refine lv_iconst (v := nI 1) hx hb dL_law_455 (by decide) ?_
  refine nv_iadd hx hb dL_law_456 ?_
  refine nv_sld C hL hS (j := i + 1) (by omega) dL_law_457 ?_
  refine lv_aload_n hx hb dL_law_458 rfl (lv_at hl 3 rfl) ?_
  refine lv_iload_n hx hb dL_law_459 rfl (lv_at hl 0 rfl) ?_
  refine lv_iconst (v := nI 2) hx hb dL_law_460 (by decide) ?_
  refine nv_iadd hx hb dL_law_461 ?_
  refine nv_sld C hL hS (j := i + 2) (by omega) dL_law_462 ?_
  refine lv_aload_n hx hb dL_law_463 rfl (lv_at hl 3 rfl) ?_
  refine lv_iload_n hx hb dL_law_464 rfl (lv_at hl 0 rfl) ?_
  refine lv_iconst (v := nI 3) hx hb dL_law_465 (by decide) ?_
  refine nv_iadd hx hb dL_law_466 ?_
  refine nv_sld C hL hS (j := i + 3) (by omega) dL_law_467 ?_
  refine lw_cX (X2 := (p_sound X (xs (i + 1)) (xs (i + 2)) (xs (i + 3))).2) (v := .int (p_sound X (xs (i + 1)) (xs (i + 2)) (xs (i + 3))).1) (n := 3) (As := [.int (xs (i + 1)), .int (xs (i + 2)), .int (xs (i + 3))]) (rest := []) C hA hP hN (fun T tq la tt z => c_X3_sound l D ci (lG s) ka ad X T tq la tt z hA.1 hA.2.2.1 (xs (i + 1)) (xs (i + 2)) (xs (i + 3)) hWX) gL_law_X3_sound rfl ⟨rfl, rfl⟩ (by decide +kernel) rfl ⟨(Nat.le_of_ble_eq_true rfl), (Nat.le_of_ble_eq_true rfl)⟩ (hE_en D (ci 0) (lG s) ka) (C.e3 hS) hl.1 rfl (Nat.le_of_ble_eq_true rfl) dL_law_468 hf hS (fun H locs hP hN hS => ?_)
  refine lv_aload_n hx hb dL_law_471 rfl (lv_at hl 1 rfl) ?_
  refine lv_aload_n hx hb dL_law_472 rfl (lv_at hl 3 rfl) ?_
  refine lv_iload_n hx hb dL_law_473 rfl (lv_at hl 0 rfl) ?_
  refine lv_iconst (v := nI 1) hx hb dL_law_474 (by decide) ?_
  refine nv_iadd hx hb dL_law_475 ?_
  refine nv_sld C hL hS (j := i + 1) (by omega) dL_law_476 ?_
  refine lv_aload_n hx hb dL_law_477 rfl (lv_at hl 3 rfl) ?_
  refine lv_iload_n hx hb dL_law_478 rfl (lv_at hl 0 rfl) ?_
  refine lv_iconst (v := nI 2) hx hb dL_law_479 (by decide) ?_
  refine nv_iadd hx hb dL_law_480 ?_
  refine nv_sld C hL hS (j := i + 2) (by omega) dL_law_481 ?_
  refine lv_aload_n hx hb dL_law_482 rfl (lv_at hl 3 rfl) ?_
  refine lv_iload_n hx hb dL_law_483 rfl (lv_at hl 0 rfl) ?_
  refine lv_iconst (v := nI 3) hx hb dL_law_484 (by decide) ?_
  refine nv_iadd hx hb dL_law_485 ?_
  refine nv_sld C hL hS (j := i + 3) (by omega) dL_law_486 ?_
  refine lw_cN (X2 := (p_sound X (xs (i + 1)) (xs (i + 2)) (xs (i + 3))).2) (v := .int (p_sound X (xs (i + 1)) (xs (i + 2)) (xs (i + 3))).1) (n := 3) (As := [.int (xs (i + 1)), .int (xs (i + 2)), .int (xs (i + 3))]) (rest := [.int (p_sound X (xs (i + 1)) (xs (i + 2)) (xs (i + 3))).1]) C hA hP hN (fun kn kr q0 q1 q2 q3 q4 q5 iw y0 y1 y2 y3 y4 y5 y6 h1 h2 => c_X4_sound l D ci am X kr q0 q1 q2 q3 q4 q5 iw kn y0 y1 y2 y3 y4 y5 y6 hA.2.1 (xs (i + 1)) (xs (i + 2)) (xs (i + 3)) hWX h2) gL_law_X4_sound rfl ⟨rfl, rfl⟩ (by decide +kernel) rfl ⟨(Nat.le_of_ble_eq_true rfl), (Nat.le_of_ble_eq_true rfl)⟩ hE_T trivial hl.1 rfl (Nat.le_of_ble_eq_true rfl) dL_law_487 hf hS (fun H locs hP hN hS => ?_)
  refine lv_icmp_eq (tgt := 1572) hx hb dL_law_490 (by decide) (fun _ => ?_) (fun h => absurd rfl h)
  exact kk _ H locs (wf_sound hWX (xs (i + 1)) (xs (i + 2)) (xs (i + 3))) hP hN hS

set_option maxHeartbeats 4000000 in
set_option maxRecDepth 100000 in
/-- case 7: heard -/
theorem lc_7 {p : Program} {l : Launch} {e : Env} {s : State} {m : MethodId} {below : List Frame} {meth : Method} {c : Code} {H : Heap} {locs : List Loc} {cells slots : Nat} {Q : State → Prop} {b L : Nat} {xs : Nat → Int32} {D : va_G} {ci : Nat → ClassId} {ka : Nat} {adK adV : Nat → Nat} {fx : Nat} {ad am : Nat → Nat} {X : AS} {ls : Array Slot} (C : LC p s m c b L xs D ci ka adK adV fx) (hA : LA s ad am) (hL : L ≤ 3072) {i : Nat} (hi : i + 6 ≤ L) (hWX : WFX X) (hP : LX D ci ad X H) (hN : LN D ci am adK X H) (hS : va_S (lG s) s.heap H locs) (hl : lv_has ls 4 [(3, .int (nI i)), (2, .ref (am 0)), (1, .ref (ad 0)), (0, .ref b)]) (hf : cells ≤ room_1.cells ∧ slots ≤ room_1.slots)
    (kk : ∀ (X : AS) (H : Heap) (locs : List Loc), WFX X → LX D ci ad X H → LN D ci am adK X H → va_S (lG s) s.heap H locs → W p l e room_1 s m #[Value.ref b] below meth c H locs cells slots Q (F0 m 1572 ls [])) : W p l e room_1 s m #[Value.ref b] below meth c H locs cells slots Q (F0 m 495 ls []) := by
  obtain ⟨hx, hb, hml, hown, hts, hX, hbl, hK, hsS, hsW⟩ := id C
  refine lv_aload_n hx hb dL_law_495 rfl (lv_at hl 2 rfl) ?_
  refine lv_aload_n hx hb dL_law_496 rfl (lv_at hl 3 rfl) ?_
  refine lv_iload_n hx hb dL_law_497 rfl (lv_at hl 0 rfl) ?_
  refine lv_iconst (v := nI 1) hx hb dL_law_498 (by decide) ?_
  refine nv_iadd hx hb dL_law_499 ?_
  refine nv_sld C hL hS (j := i + 1) (by omega) dL_law_500 ?_
  refine lv_aload_n hx hb dL_law_501 rfl (lv_at hl 3 rfl) ?_
  refine lv_iload_n hx hb dL_law_502 rfl (lv_at hl 0 rfl) ?_
  refine lv_iconst (v := nI 2) hx hb dL_law_503 (by decide) ?_
  refine nv_iadd hx hb dL_law_504 ?_
  refine nv_sld C hL hS (j := i + 2) (by omega) dL_law_505 ?_
  refine lw_cX (X2 := (p_heard X (xs (i + 1)) (xs (i + 2))).2) (v := .int (p_heard X (xs (i + 1)) (xs (i + 2))).1) (n := 2) (As := [.int (xs (i + 1)), .int (xs (i + 2))]) (rest := []) C hA hP hN (fun T tq la tt z => c_X3_heard l D ci (lG s) ka ad X T tq la tt z hA.1 hA.2.2.1 (xs (i + 1)) (xs (i + 2)) hWX) gL_law_X3_heard rfl ⟨rfl, rfl⟩ (by decide +kernel) rfl ⟨(Nat.le_of_ble_eq_true rfl), (Nat.le_of_ble_eq_true rfl)⟩ (hE_en D (ci 0) (lG s) ka) (C.e3 hS) hl.1 rfl (Nat.le_of_ble_eq_true rfl) dL_law_506 hf hS (fun H locs hP hN hS => ?_)
  refine lv_aload_n hx hb dL_law_509 rfl (lv_at hl 1 rfl) ?_
  refine lv_aload_n hx hb dL_law_510 rfl (lv_at hl 3 rfl) ?_
  refine lv_iload_n hx hb dL_law_511 rfl (lv_at hl 0 rfl) ?_
  refine lv_iconst (v := nI 1) hx hb dL_law_512 (by decide) ?_
  refine nv_iadd hx hb dL_law_513 ?_
  refine nv_sld C hL hS (j := i + 1) (by omega) dL_law_514 ?_
  refine lv_aload_n hx hb dL_law_515 rfl (lv_at hl 3 rfl) ?_
  refine lv_iload_n hx hb dL_law_516 rfl (lv_at hl 0 rfl) ?_
  refine lv_iconst (v := nI 2) hx hb dL_law_517 (by decide) ?_
  refine nv_iadd hx hb dL_law_518 ?_
  refine nv_sld C hL hS (j := i + 2) (by omega) dL_law_519 ?_
  refine lw_cN (X2 := (p_heard X (xs (i + 1)) (xs (i + 2))).2) (v := .int (p_heard X (xs (i + 1)) (xs (i + 2))).1) (n := 2) (As := [.int (xs (i + 1)), .int (xs (i + 2))]) (rest := [.int (p_heard X (xs (i + 1)) (xs (i + 2))).1]) C hA hP hN (fun kn kr q0 q1 q2 q3 q4 q5 iw y0 y1 y2 y3 y4 y5 y6 h1 h2 => c_X4_heard l D ci am X kr q0 q1 q2 q3 q4 q5 iw kn y0 y1 y2 y3 y4 y5 y6 hA.2.1 (xs (i + 1)) (xs (i + 2)) hWX h2) gL_law_X4_heard rfl ⟨rfl, rfl⟩ (by decide +kernel) rfl ⟨(Nat.le_of_ble_eq_true rfl), (Nat.le_of_ble_eq_true rfl)⟩ hE_T trivial hl.1 rfl (Nat.le_of_ble_eq_true rfl) dL_law_520 hf hS (fun H locs hP hN hS => ?_)
  refine lv_icmp_eq (tgt := 1572) hx hb dL_law_523 (by decide) (fun _ => ?_) (fun h => absurd rfl h)
  exact kk _ H locs (wf_heard hWX (xs (i + 1)) (xs (i + 2))) hP hN hS

set_option maxHeartbeats 4000000 in
set_option maxRecDepth 100000 in
/-- case 8: hears -/
theorem lc_8 {p : Program} {l : Launch} {e : Env} {s : State} {m : MethodId} {below : List Frame} {meth : Method} {c : Code} {H : Heap} {locs : List Loc} {cells slots : Nat} {Q : State → Prop} {b L : Nat} {xs : Nat → Int32} {D : va_G} {ci : Nat → ClassId} {ka : Nat} {adK adV : Nat → Nat} {fx : Nat} {ad am : Nat → Nat} {X : AS} {ls : Array Slot} (C : LC p s m c b L xs D ci ka adK adV fx) (hA : LA s ad am) (hL : L ≤ 3072) {i : Nat} (hi : i + 6 ≤ L) (hWX : WFX X) (hP : LX D ci ad X H) (hN : LN D ci am adK X H) (hS : va_S (lG s) s.heap H locs) (hl : lv_has ls 4 [(3, .int (nI i)), (2, .ref (am 0)), (1, .ref (ad 0)), (0, .ref b)]) (hf : cells ≤ room_1.cells ∧ slots ≤ room_1.slots)
    (kk : ∀ (X : AS) (H : Heap) (locs : List Loc), WFX X → LX D ci ad X H → LN D ci am adK X H → va_S (lG s) s.heap H locs → W p l e room_1 s m #[Value.ref b] below meth c H locs cells slots Q (F0 m 1572 ls [])) : W p l e room_1 s m #[Value.ref b] below meth c H locs cells slots Q (F0 m 528 ls []) := by
  obtain ⟨hx, hb, hml, hown, hts, hX, hbl, hK, hsS, hsW⟩ := id C
  refine lv_aload_n hx hb dL_law_528 rfl (lv_at hl 2 rfl) ?_
  refine lv_aload_n hx hb dL_law_529 rfl (lv_at hl 3 rfl) ?_
  refine lv_iload_n hx hb dL_law_530 rfl (lv_at hl 0 rfl) ?_
  refine lv_iconst (v := nI 1) hx hb dL_law_531 (by decide) ?_
  refine nv_iadd hx hb dL_law_532 ?_
  refine nv_sld C hL hS (j := i + 1) (by omega) dL_law_533 ?_
  refine lv_aload_n hx hb dL_law_534 rfl (lv_at hl 3 rfl) ?_
  refine lv_iload_n hx hb dL_law_535 rfl (lv_at hl 0 rfl) ?_
  refine lv_iconst (v := nI 2) hx hb dL_law_536 (by decide) ?_
  refine nv_iadd hx hb dL_law_537 ?_
  refine nv_sld C hL hS (j := i + 2) (by omega) dL_law_538 ?_
  refine lw_cX (X2 := (p_hears X (xs (i + 1)) (xs (i + 2))).2) (v := .int (p_hears X (xs (i + 1)) (xs (i + 2))).1) (n := 2) (As := [.int (xs (i + 1)), .int (xs (i + 2))]) (rest := []) C hA hP hN (fun T tq la tt z => c_X3_hears l D ci (lG s) ka ad X T tq la tt z hA.1 hA.2.2.1 (xs (i + 1)) (xs (i + 2)) hWX) gL_law_X3_hears rfl ⟨rfl, rfl⟩ (by decide +kernel) rfl ⟨(Nat.le_of_ble_eq_true rfl), (Nat.le_of_ble_eq_true rfl)⟩ (hE_en D (ci 0) (lG s) ka) (C.e3 hS) hl.1 rfl (Nat.le_of_ble_eq_true rfl) dL_law_539 hf hS (fun H locs hP hN hS => ?_)
  refine lv_aload_n hx hb dL_law_542 rfl (lv_at hl 1 rfl) ?_
  refine lv_aload_n hx hb dL_law_543 rfl (lv_at hl 3 rfl) ?_
  refine lv_iload_n hx hb dL_law_544 rfl (lv_at hl 0 rfl) ?_
  refine lv_iconst (v := nI 1) hx hb dL_law_545 (by decide) ?_
  refine nv_iadd hx hb dL_law_546 ?_
  refine nv_sld C hL hS (j := i + 1) (by omega) dL_law_547 ?_
  refine lv_aload_n hx hb dL_law_548 rfl (lv_at hl 3 rfl) ?_
  refine lv_iload_n hx hb dL_law_549 rfl (lv_at hl 0 rfl) ?_
  refine lv_iconst (v := nI 2) hx hb dL_law_550 (by decide) ?_
  refine nv_iadd hx hb dL_law_551 ?_
  refine nv_sld C hL hS (j := i + 2) (by omega) dL_law_552 ?_
  refine lw_cN (X2 := (p_hears X (xs (i + 1)) (xs (i + 2))).2) (v := .int (p_hears X (xs (i + 1)) (xs (i + 2))).1) (n := 2) (As := [.int (xs (i + 1)), .int (xs (i + 2))]) (rest := [.int (p_hears X (xs (i + 1)) (xs (i + 2))).1]) C hA hP hN (fun kn kr q0 q1 q2 q3 q4 q5 iw y0 y1 y2 y3 y4 y5 y6 h1 h2 => c_X4_hears l D ci am X kr q0 q1 q2 q3 q4 q5 iw kn y0 y1 y2 y3 y4 y5 y6 hA.2.1 (xs (i + 1)) (xs (i + 2)) hWX h2) gL_law_X4_hears rfl ⟨rfl, rfl⟩ (by decide +kernel) rfl ⟨(Nat.le_of_ble_eq_true rfl), (Nat.le_of_ble_eq_true rfl)⟩ hE_T trivial hl.1 rfl (Nat.le_of_ble_eq_true rfl) dL_law_553 hf hS (fun H locs hP hN hS => ?_)
  refine lv_icmp_eq (tgt := 1572) hx hb dL_law_556 (by decide) (fun _ => ?_) (fun h => absurd rfl h)
  exact kk _ H locs (wf_hears hWX (xs (i + 1)) (xs (i + 2))) hP hN hS

set_option maxHeartbeats 4000000 in
set_option maxRecDepth 100000 in
/-- case 9: hearing -/
theorem lc_9 {p : Program} {l : Launch} {e : Env} {s : State} {m : MethodId} {below : List Frame} {meth : Method} {c : Code} {H : Heap} {locs : List Loc} {cells slots : Nat} {Q : State → Prop} {b L : Nat} {xs : Nat → Int32} {D : va_G} {ci : Nat → ClassId} {ka : Nat} {adK adV : Nat → Nat} {fx : Nat} {ad am : Nat → Nat} {X : AS} {ls : Array Slot} (C : LC p s m c b L xs D ci ka adK adV fx) (hA : LA s ad am) (hL : L ≤ 3072) {i : Nat} (hi : i + 6 ≤ L) (hWX : WFX X) (hP : LX D ci ad X H) (hN : LN D ci am adK X H) (hS : va_S (lG s) s.heap H locs) (hl : lv_has ls 4 [(3, .int (nI i)), (2, .ref (am 0)), (1, .ref (ad 0)), (0, .ref b)]) (hf : cells ≤ room_1.cells ∧ slots ≤ room_1.slots)
    (kk : ∀ (X : AS) (H : Heap) (locs : List Loc), WFX X → LX D ci ad X H → LN D ci am adK X H → va_S (lG s) s.heap H locs → W p l e room_1 s m #[Value.ref b] below meth c H locs cells slots Q (F0 m 1572 ls [])) : W p l e room_1 s m #[Value.ref b] below meth c H locs cells slots Q (F0 m 561 ls []) := by
  obtain ⟨hx, hb, hml, hown, hts, hX, hbl, hK, hsS, hsW⟩ := id C
  refine lv_aload_n hx hb dL_law_561 rfl (lv_at hl 2 rfl) ?_
  refine lv_aload_n hx hb dL_law_562 rfl (lv_at hl 3 rfl) ?_
  refine lv_iload_n hx hb dL_law_563 rfl (lv_at hl 0 rfl) ?_
  refine lv_iconst (v := nI 1) hx hb dL_law_564 (by decide) ?_
  refine nv_iadd hx hb dL_law_565 ?_
  refine nv_sld C hL hS (j := i + 1) (by omega) dL_law_566 ?_
  refine lv_aload_n hx hb dL_law_567 rfl (lv_at hl 3 rfl) ?_
  refine lv_iload_n hx hb dL_law_568 rfl (lv_at hl 0 rfl) ?_
  refine lv_iconst (v := nI 2) hx hb dL_law_569 (by decide) ?_
  refine nv_iadd hx hb dL_law_570 ?_
  refine nv_sld C hL hS (j := i + 2) (by omega) dL_law_571 ?_
  refine lw_cX (X2 := (p_hearing X (xs (i + 1)) (xs (i + 2))).2) (v := .int (p_hearing X (xs (i + 1)) (xs (i + 2))).1) (n := 2) (As := [.int (xs (i + 1)), .int (xs (i + 2))]) (rest := []) C hA hP hN (fun T tq la tt z => c_X3_hearing l D ci (lG s) ka ad X T tq la tt z hA.1 hA.2.2.1 (xs (i + 1)) (xs (i + 2)) hWX) gL_law_X3_hearing rfl ⟨rfl, rfl⟩ (by decide +kernel) rfl ⟨(Nat.le_of_ble_eq_true rfl), (Nat.le_of_ble_eq_true rfl)⟩ (hE_en D (ci 0) (lG s) ka) (C.e3 hS) hl.1 rfl (Nat.le_of_ble_eq_true rfl) dL_law_572 hf hS (fun H locs hP hN hS => ?_)
  refine lv_aload_n hx hb dL_law_575 rfl (lv_at hl 1 rfl) ?_
  refine lv_aload_n hx hb dL_law_576 rfl (lv_at hl 3 rfl) ?_
  refine lv_iload_n hx hb dL_law_577 rfl (lv_at hl 0 rfl) ?_
  refine lv_iconst (v := nI 1) hx hb dL_law_578 (by decide) ?_
  refine nv_iadd hx hb dL_law_579 ?_
  refine nv_sld C hL hS (j := i + 1) (by omega) dL_law_580 ?_
  refine lv_aload_n hx hb dL_law_581 rfl (lv_at hl 3 rfl) ?_
  refine lv_iload_n hx hb dL_law_582 rfl (lv_at hl 0 rfl) ?_
  refine lv_iconst (v := nI 2) hx hb dL_law_583 (by decide) ?_
  refine nv_iadd hx hb dL_law_584 ?_
  refine nv_sld C hL hS (j := i + 2) (by omega) dL_law_585 ?_
  refine lw_cN (X2 := (p_hearing X (xs (i + 1)) (xs (i + 2))).2) (v := .int (p_hearing X (xs (i + 1)) (xs (i + 2))).1) (n := 2) (As := [.int (xs (i + 1)), .int (xs (i + 2))]) (rest := [.int (p_hearing X (xs (i + 1)) (xs (i + 2))).1]) C hA hP hN (fun kn kr q0 q1 q2 q3 q4 q5 iw y0 y1 y2 y3 y4 y5 y6 h1 h2 => c_X4_hearing l D ci am X kr q0 q1 q2 q3 q4 q5 iw kn y0 y1 y2 y3 y4 y5 y6 hA.2.1 (xs (i + 1)) (xs (i + 2)) hWX h2) gL_law_X4_hearing rfl ⟨rfl, rfl⟩ (by decide +kernel) rfl ⟨(Nat.le_of_ble_eq_true rfl), (Nat.le_of_ble_eq_true rfl)⟩ hE_T trivial hl.1 rfl (Nat.le_of_ble_eq_true rfl) dL_law_586 hf hS (fun H locs hP hN hS => ?_)
  refine lv_icmp_eq (tgt := 1572) hx hb dL_law_589 (by decide) (fun _ => ?_) (fun h => absurd rfl h)
  exact kk _ H locs (wf_hearing hWX (xs (i + 1)) (xs (i + 2))) hP hN hS

set_option maxHeartbeats 4000000 in
set_option maxRecDepth 100000 in
/-- case 10: go -/
theorem lc_10 {p : Program} {l : Launch} {e : Env} {s : State} {m : MethodId} {below : List Frame} {meth : Method} {c : Code} {H : Heap} {locs : List Loc} {cells slots : Nat} {Q : State → Prop} {b L : Nat} {xs : Nat → Int32} {D : va_G} {ci : Nat → ClassId} {ka : Nat} {adK adV : Nat → Nat} {fx : Nat} {ad am : Nat → Nat} {X : AS} {ls : Array Slot} (C : LC p s m c b L xs D ci ka adK adV fx) (hA : LA s ad am) (hL : L ≤ 3072) {i : Nat} (hi : i + 6 ≤ L) (hWX : WFX X) (hP : LX D ci ad X H) (hN : LN D ci am adK X H) (hS : va_S (lG s) s.heap H locs) (hl : lv_has ls 4 [(3, .int (nI i)), (2, .ref (am 0)), (1, .ref (ad 0)), (0, .ref b)]) (hf : cells ≤ room_1.cells ∧ slots ≤ room_1.slots)
    (kk : ∀ (X : AS) (H : Heap) (locs : List Loc), WFX X → LX D ci ad X H → LN D ci am adK X H → va_S (lG s) s.heap H locs → W p l e room_1 s m #[Value.ref b] below meth c H locs cells slots Q (F0 m 1572 ls [])) : W p l e room_1 s m #[Value.ref b] below meth c H locs cells slots Q (F0 m 594 ls []) := by
  obtain ⟨hx, hb, hml, hown, hts, hX, hbl, hK, hsS, hsW⟩ := id C
  refine lv_aload_n hx hb dL_law_594 rfl (lv_at hl 2 rfl) ?_
  refine lv_aload_n hx hb dL_law_595 rfl (lv_at hl 3 rfl) ?_
  refine lv_iload_n hx hb dL_law_596 rfl (lv_at hl 0 rfl) ?_
  refine lv_iconst (v := nI 1) hx hb dL_law_597 (by decide) ?_
  refine nv_iadd hx hb dL_law_598 ?_
  refine nv_sld C hL hS (j := i + 1) (by omega) dL_law_599 ?_
  refine lw_cX (X2 := (p_go X (xs (i + 1))).2) (v := .int (p_go X (xs (i + 1))).1) (n := 1) (As := [.int (xs (i + 1))]) (rest := []) C hA hP hN (fun T tq la tt z => c_X3_go l D ci (lG s) ka ad X T tq la tt z hA.1 hA.2.2.1 (xs (i + 1)) hWX) gL_law_X3_go rfl ⟨rfl, rfl⟩ (by decide +kernel) rfl ⟨(Nat.le_of_ble_eq_true rfl), (Nat.le_of_ble_eq_true rfl)⟩ (hE_en D (ci 0) (lG s) ka) (C.e3 hS) hl.1 rfl (Nat.le_of_ble_eq_true rfl) dL_law_600 hf hS (fun H locs hP hN hS => ?_)
  refine lv_aload_n hx hb dL_law_603 rfl (lv_at hl 1 rfl) ?_
  refine lv_aload_n hx hb dL_law_604 rfl (lv_at hl 3 rfl) ?_
  refine lv_iload_n hx hb dL_law_605 rfl (lv_at hl 0 rfl) ?_
  refine lv_iconst (v := nI 1) hx hb dL_law_606 (by decide) ?_
  refine nv_iadd hx hb dL_law_607 ?_
  refine nv_sld C hL hS (j := i + 1) (by omega) dL_law_608 ?_
  refine lw_cN (X2 := (p_go X (xs (i + 1))).2) (v := .int (p_go X (xs (i + 1))).1) (n := 1) (As := [.int (xs (i + 1))]) (rest := [.int (p_go X (xs (i + 1))).1]) C hA hP hN (fun kn kr q0 q1 q2 q3 q4 q5 iw y0 y1 y2 y3 y4 y5 y6 h1 h2 => c_X4_go l D ci am X kr q0 q1 q2 q3 q4 q5 iw kn y0 y1 y2 y3 y4 y5 y6 hA.2.1 (xs (i + 1)) hWX h2) gL_law_X4_go rfl ⟨rfl, rfl⟩ (by decide +kernel) rfl ⟨(Nat.le_of_ble_eq_true rfl), (Nat.le_of_ble_eq_true rfl)⟩ hE_T trivial hl.1 rfl (Nat.le_of_ble_eq_true rfl) dL_law_609 hf hS (fun H locs hP hN hS => ?_)
  refine lv_icmp_eq (tgt := 1572) hx hb dL_law_612 (by decide) (fun _ => ?_) (fun h => absurd rfl h)
  exact kk _ H locs (wf_go hWX (xs (i + 1))) hP hN hS

set_option maxHeartbeats 4000000 in
set_option maxRecDepth 100000 in
/-- case 11: now -/
theorem lc_11 {p : Program} {l : Launch} {e : Env} {s : State} {m : MethodId} {below : List Frame} {meth : Method} {c : Code} {H : Heap} {locs : List Loc} {cells slots : Nat} {Q : State → Prop} {b L : Nat} {xs : Nat → Int32} {D : va_G} {ci : Nat → ClassId} {ka : Nat} {adK adV : Nat → Nat} {fx : Nat} {ad am : Nat → Nat} {X : AS} {ls : Array Slot} (C : LC p s m c b L xs D ci ka adK adV fx) (hA : LA s ad am) (hL : L ≤ 3072) {i : Nat} (hi : i + 6 ≤ L) (hWX : WFX X) (hP : LX D ci ad X H) (hN : LN D ci am adK X H) (hS : va_S (lG s) s.heap H locs) (hl : lv_has ls 4 [(3, .int (nI i)), (2, .ref (am 0)), (1, .ref (ad 0)), (0, .ref b)]) (hf : cells ≤ room_1.cells ∧ slots ≤ room_1.slots)
    (kk : ∀ (X : AS) (H : Heap) (locs : List Loc), WFX X → LX D ci ad X H → LN D ci am adK X H → va_S (lG s) s.heap H locs → W p l e room_1 s m #[Value.ref b] below meth c H locs cells slots Q (F0 m 1572 ls [])) : W p l e room_1 s m #[Value.ref b] below meth c H locs cells slots Q (F0 m 617 ls []) := by
  obtain ⟨hx, hb, hml, hown, hts, hX, hbl, hK, hsS, hsW⟩ := id C
  refine lv_aload_n hx hb dL_law_617 rfl (lv_at hl 2 rfl) ?_
  refine lv_aload_n hx hb dL_law_618 rfl (lv_at hl 3 rfl) ?_
  refine lv_iload_n hx hb dL_law_619 rfl (lv_at hl 0 rfl) ?_
  refine lv_iconst (v := nI 1) hx hb dL_law_620 (by decide) ?_
  refine nv_iadd hx hb dL_law_621 ?_
  refine nv_sld C hL hS (j := i + 1) (by omega) dL_law_622 ?_
  refine lw_cX (X2 := (p_now X (xs (i + 1))).2) (v := .int (p_now X (xs (i + 1))).1) (n := 1) (As := [.int (xs (i + 1))]) (rest := []) C hA hP hN (fun T tq la tt z => c_X3_now l D ci (lG s) ka ad X T tq la tt z hA.1 hA.2.2.1 (xs (i + 1)) hWX) gL_law_X3_now rfl ⟨rfl, rfl⟩ (by decide +kernel) rfl ⟨(Nat.le_of_ble_eq_true rfl), (Nat.le_of_ble_eq_true rfl)⟩ (hE_en D (ci 0) (lG s) ka) (C.e3 hS) hl.1 rfl (Nat.le_of_ble_eq_true rfl) dL_law_623 hf hS (fun H locs hP hN hS => ?_)
  refine lv_aload_n hx hb dL_law_626 rfl (lv_at hl 1 rfl) ?_
  refine lv_aload_n hx hb dL_law_627 rfl (lv_at hl 3 rfl) ?_
  refine lv_iload_n hx hb dL_law_628 rfl (lv_at hl 0 rfl) ?_
  refine lv_iconst (v := nI 1) hx hb dL_law_629 (by decide) ?_
  refine nv_iadd hx hb dL_law_630 ?_
  refine nv_sld C hL hS (j := i + 1) (by omega) dL_law_631 ?_
  refine lw_cN (X2 := (p_now X (xs (i + 1))).2) (v := .int (p_now X (xs (i + 1))).1) (n := 1) (As := [.int (xs (i + 1))]) (rest := [.int (p_now X (xs (i + 1))).1]) C hA hP hN (fun kn kr q0 q1 q2 q3 q4 q5 iw y0 y1 y2 y3 y4 y5 y6 h1 h2 => c_X4_now l D ci am X kr q0 q1 q2 q3 q4 q5 iw kn y0 y1 y2 y3 y4 y5 y6 hA.2.1 (xs (i + 1)) hWX h2) gL_law_X4_now rfl ⟨rfl, rfl⟩ (by decide +kernel) rfl ⟨(Nat.le_of_ble_eq_true rfl), (Nat.le_of_ble_eq_true rfl)⟩ hE_T trivial hl.1 rfl (Nat.le_of_ble_eq_true rfl) dL_law_632 hf hS (fun H locs hP hN hS => ?_)
  refine lv_icmp_eq (tgt := 1572) hx hb dL_law_635 (by decide) (fun _ => ?_) (fun h => absurd rfl h)
  exact kk _ H locs (wf_now hWX (xs (i + 1))) hP hN hS

set_option maxHeartbeats 4000000 in
set_option maxRecDepth 100000 in
/-- case 12: ahead -/
theorem lc_12 {p : Program} {l : Launch} {e : Env} {s : State} {m : MethodId} {below : List Frame} {meth : Method} {c : Code} {H : Heap} {locs : List Loc} {cells slots : Nat} {Q : State → Prop} {b L : Nat} {xs : Nat → Int32} {D : va_G} {ci : Nat → ClassId} {ka : Nat} {adK adV : Nat → Nat} {fx : Nat} {ad am : Nat → Nat} {X : AS} {ls : Array Slot} (C : LC p s m c b L xs D ci ka adK adV fx) (hA : LA s ad am) (hL : L ≤ 3072) {i : Nat} (hi : i + 6 ≤ L) (hWX : WFX X) (hP : LX D ci ad X H) (hN : LN D ci am adK X H) (hS : va_S (lG s) s.heap H locs) (hl : lv_has ls 4 [(3, .int (nI i)), (2, .ref (am 0)), (1, .ref (ad 0)), (0, .ref b)]) (hf : cells ≤ room_1.cells ∧ slots ≤ room_1.slots)
    (kk : ∀ (X : AS) (H : Heap) (locs : List Loc), WFX X → LX D ci ad X H → LN D ci am adK X H → va_S (lG s) s.heap H locs → W p l e room_1 s m #[Value.ref b] below meth c H locs cells slots Q (F0 m 1572 ls [])) : W p l e room_1 s m #[Value.ref b] below meth c H locs cells slots Q (F0 m 640 ls []) := by
  obtain ⟨hx, hb, hml, hown, hts, hX, hbl, hK, hsS, hsW⟩ := id C
  refine lv_aload_n hx hb dL_law_640 rfl (lv_at hl 2 rfl) ?_
  refine lv_aload_n hx hb dL_law_641 rfl (lv_at hl 3 rfl) ?_
  refine lv_iload_n hx hb dL_law_642 rfl (lv_at hl 0 rfl) ?_
  refine lv_iconst (v := nI 1) hx hb dL_law_643 (by decide) ?_
  refine nv_iadd hx hb dL_law_644 ?_
  refine nv_sld C hL hS (j := i + 1) (by omega) dL_law_645 ?_
  refine lv_aload_n hx hb dL_law_646 rfl (lv_at hl 3 rfl) ?_
  refine lv_iload_n hx hb dL_law_647 rfl (lv_at hl 0 rfl) ?_
  refine lv_iconst (v := nI 2) hx hb dL_law_648 (by decide) ?_
  refine nv_iadd hx hb dL_law_649 ?_
  refine nv_sld C hL hS (j := i + 2) (by omega) dL_law_650 ?_
  refine lw_cX (X2 := (p_ahead X (xs (i + 1)) (xs (i + 2))).2) (v := .int (p_ahead X (xs (i + 1)) (xs (i + 2))).1) (n := 2) (As := [.int (xs (i + 1)), .int (xs (i + 2))]) (rest := []) C hA hP hN (fun T tq la tt z => c_X3_ahead l D ci (lG s) ka ad X T tq la tt z hA.1 hA.2.2.1 (xs (i + 1)) (xs (i + 2)) hWX) gL_law_X3_ahead rfl ⟨rfl, rfl⟩ (by decide +kernel) rfl ⟨(Nat.le_of_ble_eq_true rfl), (Nat.le_of_ble_eq_true rfl)⟩ (hE_en D (ci 0) (lG s) ka) (C.e3 hS) hl.1 rfl (Nat.le_of_ble_eq_true rfl) dL_law_651 hf hS (fun H locs hP hN hS => ?_)
  refine lv_aload_n hx hb dL_law_654 rfl (lv_at hl 1 rfl) ?_
  refine lv_aload_n hx hb dL_law_655 rfl (lv_at hl 3 rfl) ?_
  refine lv_iload_n hx hb dL_law_656 rfl (lv_at hl 0 rfl) ?_
  refine lv_iconst (v := nI 1) hx hb dL_law_657 (by decide) ?_
  refine nv_iadd hx hb dL_law_658 ?_
  refine nv_sld C hL hS (j := i + 1) (by omega) dL_law_659 ?_
  refine lv_aload_n hx hb dL_law_660 rfl (lv_at hl 3 rfl) ?_
  refine lv_iload_n hx hb dL_law_661 rfl (lv_at hl 0 rfl) ?_
  refine lv_iconst (v := nI 2) hx hb dL_law_662 (by decide) ?_
  refine nv_iadd hx hb dL_law_663 ?_
  refine nv_sld C hL hS (j := i + 2) (by omega) dL_law_664 ?_
  refine lw_cN (X2 := (p_ahead X (xs (i + 1)) (xs (i + 2))).2) (v := .int (p_ahead X (xs (i + 1)) (xs (i + 2))).1) (n := 2) (As := [.int (xs (i + 1)), .int (xs (i + 2))]) (rest := [.int (p_ahead X (xs (i + 1)) (xs (i + 2))).1]) C hA hP hN (fun kn kr q0 q1 q2 q3 q4 q5 iw y0 y1 y2 y3 y4 y5 y6 h1 h2 => c_X4_ahead l D ci am X kr q0 q1 q2 q3 q4 q5 iw kn y0 y1 y2 y3 y4 y5 y6 hA.2.1 (xs (i + 1)) (xs (i + 2)) hWX h2) gL_law_X4_ahead rfl ⟨rfl, rfl⟩ (by decide +kernel) rfl ⟨(Nat.le_of_ble_eq_true rfl), (Nat.le_of_ble_eq_true rfl)⟩ hE_T trivial hl.1 rfl (Nat.le_of_ble_eq_true rfl) dL_law_665 hf hS (fun H locs hP hN hS => ?_)
  refine lv_icmp_eq (tgt := 1572) hx hb dL_law_668 (by decide) (fun _ => ?_) (fun h => absurd rfl h)
  exact kk _ H locs (wf_ahead hWX (xs (i + 1)) (xs (i + 2))) hP hN hS

set_option maxHeartbeats 4000000 in
set_option maxRecDepth 100000 in
/-- case 13: broken -/
theorem lc_13 {p : Program} {l : Launch} {e : Env} {s : State} {m : MethodId} {below : List Frame} {meth : Method} {c : Code} {H : Heap} {locs : List Loc} {cells slots : Nat} {Q : State → Prop} {b L : Nat} {xs : Nat → Int32} {D : va_G} {ci : Nat → ClassId} {ka : Nat} {adK adV : Nat → Nat} {fx : Nat} {ad am : Nat → Nat} {X : AS} {ls : Array Slot} (C : LC p s m c b L xs D ci ka adK adV fx) (hA : LA s ad am) (hL : L ≤ 3072) {i : Nat} (hi : i + 6 ≤ L) (hWX : WFX X) (hP : LX D ci ad X H) (hN : LN D ci am adK X H) (hS : va_S (lG s) s.heap H locs) (hl : lv_has ls 4 [(3, .int (nI i)), (2, .ref (am 0)), (1, .ref (ad 0)), (0, .ref b)]) (hf : cells ≤ room_1.cells ∧ slots ≤ room_1.slots)
    (kk : ∀ (X : AS) (H : Heap) (locs : List Loc), WFX X → LX D ci ad X H → LN D ci am adK X H → va_S (lG s) s.heap H locs → W p l e room_1 s m #[Value.ref b] below meth c H locs cells slots Q (F0 m 1572 ls [])) : W p l e room_1 s m #[Value.ref b] below meth c H locs cells slots Q (F0 m 673 ls []) := by
  obtain ⟨hx, hb, hml, hown, hts, hX, hbl, hK, hsS, hsW⟩ := id C
  refine lv_aload_n hx hb dL_law_673 rfl (lv_at hl 2 rfl) ?_
  refine lv_aload_n hx hb dL_law_674 rfl (lv_at hl 3 rfl) ?_
  refine lv_iload_n hx hb dL_law_675 rfl (lv_at hl 0 rfl) ?_
  refine lv_iconst (v := nI 1) hx hb dL_law_676 (by decide) ?_
  refine nv_iadd hx hb dL_law_677 ?_
  refine nv_sld C hL hS (j := i + 1) (by omega) dL_law_678 ?_
  refine lw_cX (X2 := (p_broken X (xs (i + 1))).2) (v := .int (p_broken X (xs (i + 1))).1) (n := 1) (As := [.int (xs (i + 1))]) (rest := []) C hA hP hN (fun T tq la tt z => c_X3_broken l D ci (lG s) ka ad X T tq la tt z hA.1 hA.2.2.1 (xs (i + 1)) hWX) gL_law_X3_broken rfl ⟨rfl, rfl⟩ (by decide +kernel) rfl ⟨(Nat.le_of_ble_eq_true rfl), (Nat.le_of_ble_eq_true rfl)⟩ (hE_en D (ci 0) (lG s) ka) (C.e3 hS) hl.1 rfl (Nat.le_of_ble_eq_true rfl) dL_law_679 hf hS (fun H locs hP hN hS => ?_)
  refine lv_aload_n hx hb dL_law_682 rfl (lv_at hl 1 rfl) ?_
  refine lv_aload_n hx hb dL_law_683 rfl (lv_at hl 3 rfl) ?_
  refine lv_iload_n hx hb dL_law_684 rfl (lv_at hl 0 rfl) ?_
  refine lv_iconst (v := nI 1) hx hb dL_law_685 (by decide) ?_
  refine nv_iadd hx hb dL_law_686 ?_
  refine nv_sld C hL hS (j := i + 1) (by omega) dL_law_687 ?_
  refine lw_cN (X2 := (p_broken X (xs (i + 1))).2) (v := .int (p_broken X (xs (i + 1))).1) (n := 1) (As := [.int (xs (i + 1))]) (rest := [.int (p_broken X (xs (i + 1))).1]) C hA hP hN (fun kn kr q0 q1 q2 q3 q4 q5 iw y0 y1 y2 y3 y4 y5 y6 h1 h2 => c_X4_broken l D ci am X kr q0 q1 q2 q3 q4 q5 iw kn y0 y1 y2 y3 y4 y5 y6 hA.2.1 (xs (i + 1)) hWX h2) gL_law_X4_broken rfl ⟨rfl, rfl⟩ (by decide +kernel) rfl ⟨(Nat.le_of_ble_eq_true rfl), (Nat.le_of_ble_eq_true rfl)⟩ hE_T trivial hl.1 rfl (Nat.le_of_ble_eq_true rfl) dL_law_688 hf hS (fun H locs hP hN hS => ?_)
  refine lv_icmp_eq (tgt := 1572) hx hb dL_law_691 (by decide) (fun _ => ?_) (fun h => absurd rfl h)
  exact kk _ H locs (wf_broken hWX (xs (i + 1))) hP hN hS

set_option maxHeartbeats 4000000 in
set_option maxRecDepth 100000 in
/-- case 14: settles -/
theorem lc_14 {p : Program} {l : Launch} {e : Env} {s : State} {m : MethodId} {below : List Frame} {meth : Method} {c : Code} {H : Heap} {locs : List Loc} {cells slots : Nat} {Q : State → Prop} {b L : Nat} {xs : Nat → Int32} {D : va_G} {ci : Nat → ClassId} {ka : Nat} {adK adV : Nat → Nat} {fx : Nat} {ad am : Nat → Nat} {X : AS} {ls : Array Slot} (C : LC p s m c b L xs D ci ka adK adV fx) (hA : LA s ad am) (hL : L ≤ 3072) {i : Nat} (hi : i + 6 ≤ L) (hWX : WFX X) (hP : LX D ci ad X H) (hN : LN D ci am adK X H) (hS : va_S (lG s) s.heap H locs) (hl : lv_has ls 4 [(3, .int (nI i)), (2, .ref (am 0)), (1, .ref (ad 0)), (0, .ref b)]) (hf : cells ≤ room_1.cells ∧ slots ≤ room_1.slots)
    (kk : ∀ (X : AS) (H : Heap) (locs : List Loc), WFX X → LX D ci ad X H → LN D ci am adK X H → va_S (lG s) s.heap H locs → W p l e room_1 s m #[Value.ref b] below meth c H locs cells slots Q (F0 m 1572 ls [])) : W p l e room_1 s m #[Value.ref b] below meth c H locs cells slots Q (F0 m 696 ls []) := by
  obtain ⟨hx, hb, hml, hown, hts, hX, hbl, hK, hsS, hsW⟩ := id C
  refine lv_aload_n hx hb dL_law_696 rfl (lv_at hl 2 rfl) ?_
  refine lw_cX (X2 := (p_settles X).2) (v := .int (p_settles X).1) (n := 0) (As := []) (rest := []) C hA hP hN (fun T tq la tt z => c_X3_settles l D ci (lG s) ka ad X T tq la tt z hA.1 hA.2.2.1 hWX) gL_law_X3_settles rfl ⟨rfl, rfl⟩ (by decide +kernel) rfl ⟨(Nat.le_of_ble_eq_true rfl), (Nat.le_of_ble_eq_true rfl)⟩ (hE_en D (ci 0) (lG s) ka) (C.e3 hS) hl.1 rfl (Nat.le_of_ble_eq_true rfl) dL_law_697 hf hS (fun H locs hP hN hS => ?_)
  refine lv_aload_n hx hb dL_law_700 rfl (lv_at hl 1 rfl) ?_
  refine lw_cN (X2 := (p_settles X).2) (v := .int (p_settles X).1) (n := 0) (As := []) (rest := [.int (p_settles X).1]) C hA hP hN (fun kn kr q0 q1 q2 q3 q4 q5 iw y0 y1 y2 y3 y4 y5 y6 h1 h2 => c_X4_settles l D ci am X kr q0 q1 q2 q3 q4 q5 iw kn y0 y1 y2 y3 y4 y5 y6 hA.2.1 hWX h2) gL_law_X4_settles rfl ⟨rfl, rfl⟩ (by decide +kernel) rfl ⟨(Nat.le_of_ble_eq_true rfl), (Nat.le_of_ble_eq_true rfl)⟩ hE_T trivial hl.1 rfl (Nat.le_of_ble_eq_true rfl) dL_law_701 hf hS (fun H locs hP hN hS => ?_)
  refine lv_icmp_eq (tgt := 1572) hx hb dL_law_704 (by decide) (fun _ => ?_) (fun h => absurd rfl h)
  exact kk _ H locs (wf_settles hWX) hP hN hS

set_option maxHeartbeats 4000000 in
set_option maxRecDepth 100000 in
/-- case 15: kindFor -/
theorem lc_15 {p : Program} {l : Launch} {e : Env} {s : State} {m : MethodId} {below : List Frame} {meth : Method} {c : Code} {H : Heap} {locs : List Loc} {cells slots : Nat} {Q : State → Prop} {b L : Nat} {xs : Nat → Int32} {D : va_G} {ci : Nat → ClassId} {ka : Nat} {adK adV : Nat → Nat} {fx : Nat} {ad am : Nat → Nat} {X : AS} {ls : Array Slot} (C : LC p s m c b L xs D ci ka adK adV fx) (hA : LA s ad am) (hL : L ≤ 3072) {i : Nat} (hi : i + 6 ≤ L) (hWX : WFX X) (hP : LX D ci ad X H) (hN : LN D ci am adK X H) (hS : va_S (lG s) s.heap H locs) (hl : lv_has ls 4 [(3, .int (nI i)), (2, .ref (am 0)), (1, .ref (ad 0)), (0, .ref b)]) (hf : cells ≤ room_1.cells ∧ slots ≤ room_1.slots)
    (kk : ∀ (X : AS) (H : Heap) (locs : List Loc), WFX X → LX D ci ad X H → LN D ci am adK X H → va_S (lG s) s.heap H locs → W p l e room_1 s m #[Value.ref b] below meth c H locs cells slots Q (F0 m 1572 ls [])) : W p l e room_1 s m #[Value.ref b] below meth c H locs cells slots Q (F0 m 709 ls []) := by
  obtain ⟨hx, hb, hml, hown, hts, hX, hbl, hK, hsS, hsW⟩ := id C
  refine lv_aload_n hx hb dL_law_709 rfl (lv_at hl 2 rfl) ?_
  refine lv_aload_n hx hb dL_law_710 rfl (lv_at hl 3 rfl) ?_
  refine lv_iload_n hx hb dL_law_711 rfl (lv_at hl 0 rfl) ?_
  refine lv_iconst (v := nI 1) hx hb dL_law_712 (by decide) ?_
  refine nv_iadd hx hb dL_law_713 ?_
  refine nv_sld C hL hS (j := i + 1) (by omega) dL_law_714 ?_
  refine lv_aload_n hx hb dL_law_715 rfl (lv_at hl 3 rfl) ?_
  refine lv_iload_n hx hb dL_law_716 rfl (lv_at hl 0 rfl) ?_
  refine lv_iconst (v := nI 2) hx hb dL_law_717 (by decide) ?_
  refine nv_iadd hx hb dL_law_718 ?_
  refine nv_sld C hL hS (j := i + 2) (by omega) dL_law_719 ?_
  refine lw_cX (X2 := (p_kindFor X (xs (i + 1)) (xs (i + 2))).2) (v := .int (p_kindFor X (xs (i + 1)) (xs (i + 2))).1) (n := 2) (As := [.int (xs (i + 1)), .int (xs (i + 2))]) (rest := []) C hA hP hN (fun T tq la tt z => c_X3_kindFor l D ci (lG s) ka ad X T tq la tt z hA.1 hA.2.2.1 (xs (i + 1)) (xs (i + 2)) hWX) gL_law_X3_kindFor rfl ⟨rfl, rfl⟩ (by decide +kernel) rfl ⟨(Nat.le_of_ble_eq_true rfl), (Nat.le_of_ble_eq_true rfl)⟩ (hE_en D (ci 0) (lG s) ka) (C.e3 hS) hl.1 rfl (Nat.le_of_ble_eq_true rfl) dL_law_720 hf hS (fun H locs hP hN hS => ?_)
  refine lv_aload_n hx hb dL_law_723 rfl (lv_at hl 1 rfl) ?_
  refine lv_aload_n hx hb dL_law_724 rfl (lv_at hl 3 rfl) ?_
  refine lv_iload_n hx hb dL_law_725 rfl (lv_at hl 0 rfl) ?_
  refine lv_iconst (v := nI 1) hx hb dL_law_726 (by decide) ?_
  refine nv_iadd hx hb dL_law_727 ?_
  refine nv_sld C hL hS (j := i + 1) (by omega) dL_law_728 ?_
  refine lv_aload_n hx hb dL_law_729 rfl (lv_at hl 3 rfl) ?_
  refine lv_iload_n hx hb dL_law_730 rfl (lv_at hl 0 rfl) ?_
  refine lv_iconst (v := nI 2) hx hb dL_law_731 (by decide) ?_
  refine nv_iadd hx hb dL_law_732 ?_
  refine nv_sld C hL hS (j := i + 2) (by omega) dL_law_733 ?_
  refine lw_cN (X2 := (p_kindFor X (xs (i + 1)) (xs (i + 2))).2) (v := .int (p_kindFor X (xs (i + 1)) (xs (i + 2))).1) (n := 2) (As := [.int (xs (i + 1)), .int (xs (i + 2))]) (rest := [.int (p_kindFor X (xs (i + 1)) (xs (i + 2))).1]) C hA hP hN (fun kn kr q0 q1 q2 q3 q4 q5 iw y0 y1 y2 y3 y4 y5 y6 h1 h2 => c_X4_kindFor l D ci am X kr q0 q1 q2 q3 q4 q5 iw kn y0 y1 y2 y3 y4 y5 y6 hA.2.1 (xs (i + 1)) (xs (i + 2)) hWX h2) gL_law_X4_kindFor rfl ⟨rfl, rfl⟩ (by decide +kernel) rfl ⟨(Nat.le_of_ble_eq_true rfl), (Nat.le_of_ble_eq_true rfl)⟩ hE_T trivial hl.1 rfl (Nat.le_of_ble_eq_true rfl) dL_law_734 hf hS (fun H locs hP hN hS => ?_)
  refine lv_icmp_eq (tgt := 1572) hx hb dL_law_737 (by decide) (fun _ => ?_) (fun h => absurd rfl h)
  exact kk _ H locs (wf_kindFor hWX (xs (i + 1)) (xs (i + 2))) hP hN hS

set_option maxHeartbeats 4000000 in
set_option maxRecDepth 100000 in
/-- case 16: seatFor -/
theorem lc_16 {p : Program} {l : Launch} {e : Env} {s : State} {m : MethodId} {below : List Frame} {meth : Method} {c : Code} {H : Heap} {locs : List Loc} {cells slots : Nat} {Q : State → Prop} {b L : Nat} {xs : Nat → Int32} {D : va_G} {ci : Nat → ClassId} {ka : Nat} {adK adV : Nat → Nat} {fx : Nat} {ad am : Nat → Nat} {X : AS} {ls : Array Slot} (C : LC p s m c b L xs D ci ka adK adV fx) (hA : LA s ad am) (hL : L ≤ 3072) {i : Nat} (hi : i + 6 ≤ L) (hWX : WFX X) (hP : LX D ci ad X H) (hN : LN D ci am adK X H) (hS : va_S (lG s) s.heap H locs) (hl : lv_has ls 4 [(3, .int (nI i)), (2, .ref (am 0)), (1, .ref (ad 0)), (0, .ref b)]) (hf : cells ≤ room_1.cells ∧ slots ≤ room_1.slots)
    (kk : ∀ (X : AS) (H : Heap) (locs : List Loc), WFX X → LX D ci ad X H → LN D ci am adK X H → va_S (lG s) s.heap H locs → W p l e room_1 s m #[Value.ref b] below meth c H locs cells slots Q (F0 m 1572 ls [])) : W p l e room_1 s m #[Value.ref b] below meth c H locs cells slots Q (F0 m 742 ls []) := by
  obtain ⟨hx, hb, hml, hown, hts, hX, hbl, hK, hsS, hsW⟩ := id C
  refine lv_aload_n hx hb dL_law_742 rfl (lv_at hl 2 rfl) ?_
  refine lv_aload_n hx hb dL_law_743 rfl (lv_at hl 3 rfl) ?_
  refine lv_iload_n hx hb dL_law_744 rfl (lv_at hl 0 rfl) ?_
  refine lv_iconst (v := nI 1) hx hb dL_law_745 (by decide) ?_
  refine nv_iadd hx hb dL_law_746 ?_
  refine nv_sld C hL hS (j := i + 1) (by omega) dL_law_747 ?_
  refine lv_aload_n hx hb dL_law_748 rfl (lv_at hl 3 rfl) ?_
  refine lv_iload_n hx hb dL_law_749 rfl (lv_at hl 0 rfl) ?_
  refine lv_iconst (v := nI 2) hx hb dL_law_750 (by decide) ?_
  refine nv_iadd hx hb dL_law_751 ?_
  refine nv_sld C hL hS (j := i + 2) (by omega) dL_law_752 ?_
  refine lw_cX (X2 := (p_seatFor X (xs (i + 1)) (xs (i + 2))).2) (v := .int (p_seatFor X (xs (i + 1)) (xs (i + 2))).1) (n := 2) (As := [.int (xs (i + 1)), .int (xs (i + 2))]) (rest := []) C hA hP hN (fun T tq la tt z => c_X3_seatFor l D ci (lG s) ka ad X T tq la tt z hA.1 hA.2.2.1 (xs (i + 1)) (xs (i + 2)) hWX) gL_law_X3_seatFor rfl ⟨rfl, rfl⟩ (by decide +kernel) rfl ⟨(Nat.le_of_ble_eq_true rfl), (Nat.le_of_ble_eq_true rfl)⟩ (hE_en D (ci 0) (lG s) ka) (C.e3 hS) hl.1 rfl (Nat.le_of_ble_eq_true rfl) dL_law_753 hf hS (fun H locs hP hN hS => ?_)
  refine lv_aload_n hx hb dL_law_756 rfl (lv_at hl 1 rfl) ?_
  refine lv_aload_n hx hb dL_law_757 rfl (lv_at hl 3 rfl) ?_
  refine lv_iload_n hx hb dL_law_758 rfl (lv_at hl 0 rfl) ?_
  refine lv_iconst (v := nI 1) hx hb dL_law_759 (by decide) ?_
  refine nv_iadd hx hb dL_law_760 ?_
  refine nv_sld C hL hS (j := i + 1) (by omega) dL_law_761 ?_
  refine lv_aload_n hx hb dL_law_762 rfl (lv_at hl 3 rfl) ?_
  refine lv_iload_n hx hb dL_law_763 rfl (lv_at hl 0 rfl) ?_
  refine lv_iconst (v := nI 2) hx hb dL_law_764 (by decide) ?_
  refine nv_iadd hx hb dL_law_765 ?_
  refine nv_sld C hL hS (j := i + 2) (by omega) dL_law_766 ?_
  refine lw_cN (X2 := (p_seatFor X (xs (i + 1)) (xs (i + 2))).2) (v := .int (p_seatFor X (xs (i + 1)) (xs (i + 2))).1) (n := 2) (As := [.int (xs (i + 1)), .int (xs (i + 2))]) (rest := [.int (p_seatFor X (xs (i + 1)) (xs (i + 2))).1]) C hA hP hN (fun kn kr q0 q1 q2 q3 q4 q5 iw y0 y1 y2 y3 y4 y5 y6 h1 h2 => c_X4_seatFor l D ci am X kr q0 q1 q2 q3 q4 q5 iw kn y0 y1 y2 y3 y4 y5 y6 hA.2.1 (xs (i + 1)) (xs (i + 2)) hWX h2) gL_law_X4_seatFor rfl ⟨rfl, rfl⟩ (by decide +kernel) rfl ⟨(Nat.le_of_ble_eq_true rfl), (Nat.le_of_ble_eq_true rfl)⟩ hE_T trivial hl.1 rfl (Nat.le_of_ble_eq_true rfl) dL_law_767 hf hS (fun H locs hP hN hS => ?_)
  refine lv_icmp_eq (tgt := 1572) hx hb dL_law_770 (by decide) (fun _ => ?_) (fun h => absurd rfl h)
  exact kk _ H locs (wf_seatFor hWX (xs (i + 1)) (xs (i + 2))) hP hN hS

set_option maxHeartbeats 4000000 in
set_option maxRecDepth 100000 in
/-- case 17: spare -/
theorem lc_17 {p : Program} {l : Launch} {e : Env} {s : State} {m : MethodId} {below : List Frame} {meth : Method} {c : Code} {H : Heap} {locs : List Loc} {cells slots : Nat} {Q : State → Prop} {b L : Nat} {xs : Nat → Int32} {D : va_G} {ci : Nat → ClassId} {ka : Nat} {adK adV : Nat → Nat} {fx : Nat} {ad am : Nat → Nat} {X : AS} {ls : Array Slot} (C : LC p s m c b L xs D ci ka adK adV fx) (hA : LA s ad am) (hL : L ≤ 3072) {i : Nat} (hi : i + 6 ≤ L) (hWX : WFX X) (hP : LX D ci ad X H) (hN : LN D ci am adK X H) (hS : va_S (lG s) s.heap H locs) (hl : lv_has ls 4 [(3, .int (nI i)), (2, .ref (am 0)), (1, .ref (ad 0)), (0, .ref b)]) (hf : cells ≤ room_1.cells ∧ slots ≤ room_1.slots)
    (kk : ∀ (X : AS) (H : Heap) (locs : List Loc), WFX X → LX D ci ad X H → LN D ci am adK X H → va_S (lG s) s.heap H locs → W p l e room_1 s m #[Value.ref b] below meth c H locs cells slots Q (F0 m 1572 ls [])) : W p l e room_1 s m #[Value.ref b] below meth c H locs cells slots Q (F0 m 775 ls []) := by
  obtain ⟨hx, hb, hml, hown, hts, hX, hbl, hK, hsS, hsW⟩ := id C
  refine lv_aload_n hx hb dL_law_775 rfl (lv_at hl 2 rfl) ?_
  refine lw_cX (X2 := (p_spare X).2) (v := .int (p_spare X).1) (n := 0) (As := []) (rest := []) C hA hP hN (fun T tq la tt z => c_X3_spare l D ci (lG s) ka ad X T tq la tt z hA.1 hA.2.2.1 hWX) gL_law_X3_spare rfl ⟨rfl, rfl⟩ (by decide +kernel) rfl ⟨(Nat.le_of_ble_eq_true rfl), (Nat.le_of_ble_eq_true rfl)⟩ (hE_en D (ci 0) (lG s) ka) (C.e3 hS) hl.1 rfl (Nat.le_of_ble_eq_true rfl) dL_law_776 hf hS (fun H locs hP hN hS => ?_)
  refine lv_aload_n hx hb dL_law_779 rfl (lv_at hl 1 rfl) ?_
  refine lw_cN (X2 := (p_spare X).2) (v := .int (p_spare X).1) (n := 0) (As := []) (rest := [.int (p_spare X).1]) C hA hP hN (fun kn kr q0 q1 q2 q3 q4 q5 iw y0 y1 y2 y3 y4 y5 y6 h1 h2 => c_X4_spare l D ci am X kr q0 q1 q2 q3 q4 q5 iw kn y0 y1 y2 y3 y4 y5 y6 hA.2.1 hWX h2) gL_law_X4_spare rfl ⟨rfl, rfl⟩ (by decide +kernel) rfl ⟨(Nat.le_of_ble_eq_true rfl), (Nat.le_of_ble_eq_true rfl)⟩ hE_T trivial hl.1 rfl (Nat.le_of_ble_eq_true rfl) dL_law_780 hf hS (fun H locs hP hN hS => ?_)
  refine lv_icmp_eq (tgt := 1572) hx hb dL_law_783 (by decide) (fun _ => ?_) (fun h => absurd rfl h)
  exact kk _ H locs (wf_spare hWX) hP hN hS

set_option maxHeartbeats 4000000 in
set_option maxRecDepth 100000 in
/-- case 18: fewest -/
theorem lc_18 {p : Program} {l : Launch} {e : Env} {s : State} {m : MethodId} {below : List Frame} {meth : Method} {c : Code} {H : Heap} {locs : List Loc} {cells slots : Nat} {Q : State → Prop} {b L : Nat} {xs : Nat → Int32} {D : va_G} {ci : Nat → ClassId} {ka : Nat} {adK adV : Nat → Nat} {fx : Nat} {ad am : Nat → Nat} {X : AS} {ls : Array Slot} (C : LC p s m c b L xs D ci ka adK adV fx) (hA : LA s ad am) (hL : L ≤ 3072) {i : Nat} (hi : i + 6 ≤ L) (hWX : WFX X) (hP : LX D ci ad X H) (hN : LN D ci am adK X H) (hS : va_S (lG s) s.heap H locs) (hl : lv_has ls 4 [(3, .int (nI i)), (2, .ref (am 0)), (1, .ref (ad 0)), (0, .ref b)]) (hf : cells ≤ room_1.cells ∧ slots ≤ room_1.slots)
    (kk : ∀ (X : AS) (H : Heap) (locs : List Loc), WFX X → LX D ci ad X H → LN D ci am adK X H → va_S (lG s) s.heap H locs → W p l e room_1 s m #[Value.ref b] below meth c H locs cells slots Q (F0 m 1572 ls [])) : W p l e room_1 s m #[Value.ref b] below meth c H locs cells slots Q (F0 m 788 ls []) := by
  obtain ⟨hx, hb, hml, hown, hts, hX, hbl, hK, hsS, hsW⟩ := id C
  refine lv_aload_n hx hb dL_law_788 rfl (lv_at hl 2 rfl) ?_
  refine lw_cX (X2 := (p_fewest X).2) (v := .int (p_fewest X).1) (n := 0) (As := []) (rest := []) C hA hP hN (fun T tq la tt z => c_X3_fewest l D ci (lG s) ka ad X T tq la tt z hA.1 hA.2.2.1 hWX) gL_law_X3_fewest rfl ⟨rfl, rfl⟩ (by decide +kernel) rfl ⟨(Nat.le_of_ble_eq_true rfl), (Nat.le_of_ble_eq_true rfl)⟩ (hE_en D (ci 0) (lG s) ka) (C.e3 hS) hl.1 rfl (Nat.le_of_ble_eq_true rfl) dL_law_789 hf hS (fun H locs hP hN hS => ?_)
  refine lv_aload_n hx hb dL_law_792 rfl (lv_at hl 1 rfl) ?_
  refine lw_cN (X2 := (p_fewest X).2) (v := .int (p_fewest X).1) (n := 0) (As := []) (rest := [.int (p_fewest X).1]) C hA hP hN (fun kn kr q0 q1 q2 q3 q4 q5 iw y0 y1 y2 y3 y4 y5 y6 h1 h2 => c_X4_fewest l D ci am X kr q0 q1 q2 q3 q4 q5 iw kn y0 y1 y2 y3 y4 y5 y6 hA.2.1 hWX h2) gL_law_X4_fewest rfl ⟨rfl, rfl⟩ (by decide +kernel) rfl ⟨(Nat.le_of_ble_eq_true rfl), (Nat.le_of_ble_eq_true rfl)⟩ hE_T trivial hl.1 rfl (Nat.le_of_ble_eq_true rfl) dL_law_793 hf hS (fun H locs hP hN hS => ?_)
  refine lv_icmp_eq (tgt := 1572) hx hb dL_law_796 (by decide) (fun _ => ?_) (fun h => absurd rfl h)
  exact kk _ H locs (wf_fewest hWX) hP hN hS

set_option maxHeartbeats 4000000 in
set_option maxRecDepth 100000 in
/-- case 19: lost -/
theorem lc_19 {p : Program} {l : Launch} {e : Env} {s : State} {m : MethodId} {below : List Frame} {meth : Method} {c : Code} {H : Heap} {locs : List Loc} {cells slots : Nat} {Q : State → Prop} {b L : Nat} {xs : Nat → Int32} {D : va_G} {ci : Nat → ClassId} {ka : Nat} {adK adV : Nat → Nat} {fx : Nat} {ad am : Nat → Nat} {X : AS} {ls : Array Slot} (C : LC p s m c b L xs D ci ka adK adV fx) (hA : LA s ad am) (hL : L ≤ 3072) {i : Nat} (hi : i + 6 ≤ L) (hWX : WFX X) (hP : LX D ci ad X H) (hN : LN D ci am adK X H) (hS : va_S (lG s) s.heap H locs) (hl : lv_has ls 4 [(3, .int (nI i)), (2, .ref (am 0)), (1, .ref (ad 0)), (0, .ref b)]) (hf : cells ≤ room_1.cells ∧ slots ≤ room_1.slots)
    (kk : ∀ (X : AS) (H : Heap) (locs : List Loc), WFX X → LX D ci ad X H → LN D ci am adK X H → va_S (lG s) s.heap H locs → W p l e room_1 s m #[Value.ref b] below meth c H locs cells slots Q (F0 m 1572 ls [])) : W p l e room_1 s m #[Value.ref b] below meth c H locs cells slots Q (F0 m 801 ls []) := by
  obtain ⟨hx, hb, hml, hown, hts, hX, hbl, hK, hsS, hsW⟩ := id C
  refine lv_aload_n hx hb dL_law_801 rfl (lv_at hl 2 rfl) ?_
  refine lv_aload_n hx hb dL_law_802 rfl (lv_at hl 3 rfl) ?_
  refine lv_iload_n hx hb dL_law_803 rfl (lv_at hl 0 rfl) ?_
  refine lv_iconst (v := nI 1) hx hb dL_law_804 (by decide) ?_
  refine nv_iadd hx hb dL_law_805 ?_
  refine nv_sld C hL hS (j := i + 1) (by omega) dL_law_806 ?_
  refine lw_cX (X2 := (p_lost X (xs (i + 1))).2) (v := .int (p_lost X (xs (i + 1))).1) (n := 1) (As := [.int (xs (i + 1))]) (rest := []) C hA hP hN (fun T tq la tt z => c_X3_lost l D ci (lG s) ka ad X T tq la tt z hA.1 hA.2.2.1 (xs (i + 1)) hWX) gL_law_X3_lost rfl ⟨rfl, rfl⟩ (by decide +kernel) rfl ⟨(Nat.le_of_ble_eq_true rfl), (Nat.le_of_ble_eq_true rfl)⟩ (hE_en D (ci 0) (lG s) ka) (C.e3 hS) hl.1 rfl (Nat.le_of_ble_eq_true rfl) dL_law_807 hf hS (fun H locs hP hN hS => ?_)
  refine lv_aload_n hx hb dL_law_810 rfl (lv_at hl 1 rfl) ?_
  refine lv_aload_n hx hb dL_law_811 rfl (lv_at hl 3 rfl) ?_
  refine lv_iload_n hx hb dL_law_812 rfl (lv_at hl 0 rfl) ?_
  refine lv_iconst (v := nI 1) hx hb dL_law_813 (by decide) ?_
  refine nv_iadd hx hb dL_law_814 ?_
  refine nv_sld C hL hS (j := i + 1) (by omega) dL_law_815 ?_
  refine lw_cN (X2 := (p_lost X (xs (i + 1))).2) (v := .int (p_lost X (xs (i + 1))).1) (n := 1) (As := [.int (xs (i + 1))]) (rest := [.int (p_lost X (xs (i + 1))).1]) C hA hP hN (fun kn kr q0 q1 q2 q3 q4 q5 iw y0 y1 y2 y3 y4 y5 y6 h1 h2 => c_X4_lost l D ci am X kr q0 q1 q2 q3 q4 q5 iw kn y0 y1 y2 y3 y4 y5 y6 hA.2.1 (xs (i + 1)) hWX h2) gL_law_X4_lost rfl ⟨rfl, rfl⟩ (by decide +kernel) rfl ⟨(Nat.le_of_ble_eq_true rfl), (Nat.le_of_ble_eq_true rfl)⟩ hE_T trivial hl.1 rfl (Nat.le_of_ble_eq_true rfl) dL_law_816 hf hS (fun H locs hP hN hS => ?_)
  refine lv_icmp_eq (tgt := 1572) hx hb dL_law_819 (by decide) (fun _ => ?_) (fun h => absurd rfl h)
  exact kk _ H locs (wf_lost hWX (xs (i + 1))) hP hN hS

set_option maxHeartbeats 4000000 in
set_option maxRecDepth 100000 in
/-- case 20: dearest -/
theorem lc_20 {p : Program} {l : Launch} {e : Env} {s : State} {m : MethodId} {below : List Frame} {meth : Method} {c : Code} {H : Heap} {locs : List Loc} {cells slots : Nat} {Q : State → Prop} {b L : Nat} {xs : Nat → Int32} {D : va_G} {ci : Nat → ClassId} {ka : Nat} {adK adV : Nat → Nat} {fx : Nat} {ad am : Nat → Nat} {X : AS} {ls : Array Slot} (C : LC p s m c b L xs D ci ka adK adV fx) (hA : LA s ad am) (hL : L ≤ 3072) {i : Nat} (hi : i + 6 ≤ L) (hWX : WFX X) (hP : LX D ci ad X H) (hN : LN D ci am adK X H) (hS : va_S (lG s) s.heap H locs) (hl : lv_has ls 4 [(3, .int (nI i)), (2, .ref (am 0)), (1, .ref (ad 0)), (0, .ref b)]) (hf : cells ≤ room_1.cells ∧ slots ≤ room_1.slots)
    (kk : ∀ (X : AS) (H : Heap) (locs : List Loc), WFX X → LX D ci ad X H → LN D ci am adK X H → va_S (lG s) s.heap H locs → W p l e room_1 s m #[Value.ref b] below meth c H locs cells slots Q (F0 m 1572 ls [])) : W p l e room_1 s m #[Value.ref b] below meth c H locs cells slots Q (F0 m 824 ls []) := by
  obtain ⟨hx, hb, hml, hown, hts, hX, hbl, hK, hsS, hsW⟩ := id C
  refine lv_aload_n hx hb dL_law_824 rfl (lv_at hl 2 rfl) ?_
  refine lw_cX (X2 := (p_dearest X).2) (v := .int (p_dearest X).1) (n := 0) (As := []) (rest := []) C hA hP hN (fun T tq la tt z => c_X3_dearest l D ci (lG s) ka ad X T tq la tt z hA.1 hA.2.2.1 hWX) gL_law_X3_dearest rfl ⟨rfl, rfl⟩ (by decide +kernel) rfl ⟨(Nat.le_of_ble_eq_true rfl), (Nat.le_of_ble_eq_true rfl)⟩ (hE_en D (ci 0) (lG s) ka) (C.e3 hS) hl.1 rfl (Nat.le_of_ble_eq_true rfl) dL_law_825 hf hS (fun H locs hP hN hS => ?_)
  refine lv_aload_n hx hb dL_law_828 rfl (lv_at hl 1 rfl) ?_
  refine lw_cN (X2 := (p_dearest X).2) (v := .int (p_dearest X).1) (n := 0) (As := []) (rest := [.int (p_dearest X).1]) C hA hP hN (fun kn kr q0 q1 q2 q3 q4 q5 iw y0 y1 y2 y3 y4 y5 y6 h1 h2 => c_X4_dearest l D ci am X kr q0 q1 q2 q3 q4 q5 iw kn y0 y1 y2 y3 y4 y5 y6 hA.2.1 hWX h2) gL_law_X4_dearest rfl ⟨rfl, rfl⟩ (by decide +kernel) rfl ⟨(Nat.le_of_ble_eq_true rfl), (Nat.le_of_ble_eq_true rfl)⟩ hE_T trivial hl.1 rfl (Nat.le_of_ble_eq_true rfl) dL_law_829 hf hS (fun H locs hP hN hS => ?_)
  refine lv_icmp_eq (tgt := 1572) hx hb dL_law_832 (by decide) (fun _ => ?_) (fun h => absurd rfl h)
  exact kk _ H locs (wf_dearest hWX) hP hN hS

set_option maxHeartbeats 4000000 in
set_option maxRecDepth 100000 in
/-- case 21: parts -/
theorem lc_21 {p : Program} {l : Launch} {e : Env} {s : State} {m : MethodId} {below : List Frame} {meth : Method} {c : Code} {H : Heap} {locs : List Loc} {cells slots : Nat} {Q : State → Prop} {b L : Nat} {xs : Nat → Int32} {D : va_G} {ci : Nat → ClassId} {ka : Nat} {adK adV : Nat → Nat} {fx : Nat} {ad am : Nat → Nat} {X : AS} {ls : Array Slot} (C : LC p s m c b L xs D ci ka adK adV fx) (hA : LA s ad am) (hL : L ≤ 3072) {i : Nat} (hi : i + 6 ≤ L) (hWX : WFX X) (hP : LX D ci ad X H) (hN : LN D ci am adK X H) (hS : va_S (lG s) s.heap H locs) (hl : lv_has ls 4 [(3, .int (nI i)), (2, .ref (am 0)), (1, .ref (ad 0)), (0, .ref b)]) (hf : cells ≤ room_1.cells ∧ slots ≤ room_1.slots)
    (kk : ∀ (X : AS) (H : Heap) (locs : List Loc), WFX X → LX D ci ad X H → LN D ci am adK X H → va_S (lG s) s.heap H locs → W p l e room_1 s m #[Value.ref b] below meth c H locs cells slots Q (F0 m 1572 ls [])) : W p l e room_1 s m #[Value.ref b] below meth c H locs cells slots Q (F0 m 837 ls []) := by
  obtain ⟨hx, hb, hml, hown, hts, hX, hbl, hK, hsS, hsW⟩ := id C
  refine lv_aload_n hx hb dL_law_837 rfl (lv_at hl 2 rfl) ?_
  refine lv_aload_n hx hb dL_law_838 rfl (lv_at hl 3 rfl) ?_
  refine lv_iload_n hx hb dL_law_839 rfl (lv_at hl 0 rfl) ?_
  refine lv_iconst (v := nI 1) hx hb dL_law_840 (by decide) ?_
  refine nv_iadd hx hb dL_law_841 ?_
  refine nv_sld C hL hS (j := i + 1) (by omega) dL_law_842 ?_
  refine lv_aload_n hx hb dL_law_843 rfl (lv_at hl 3 rfl) ?_
  refine lv_iload_n hx hb dL_law_844 rfl (lv_at hl 0 rfl) ?_
  refine lv_iconst (v := nI 2) hx hb dL_law_845 (by decide) ?_
  refine nv_iadd hx hb dL_law_846 ?_
  refine nv_sld C hL hS (j := i + 2) (by omega) dL_law_847 ?_
  refine lw_cX (X2 := (p_parts X (xs (i + 1)) (xs (i + 2))).2) (v := .int (p_parts X (xs (i + 1)) (xs (i + 2))).1) (n := 2) (As := [.int (xs (i + 1)), .int (xs (i + 2))]) (rest := []) C hA hP hN (fun T tq la tt z => c_X3_parts l D ci (lG s) ka ad X T tq la tt z hA.1 hA.2.2.1 (xs (i + 1)) (xs (i + 2)) hWX) gL_law_X3_parts rfl ⟨rfl, rfl⟩ (by decide +kernel) rfl ⟨(Nat.le_of_ble_eq_true rfl), (Nat.le_of_ble_eq_true rfl)⟩ (hE_en D (ci 0) (lG s) ka) (C.e3 hS) hl.1 rfl (Nat.le_of_ble_eq_true rfl) dL_law_848 hf hS (fun H locs hP hN hS => ?_)
  refine lv_aload_n hx hb dL_law_851 rfl (lv_at hl 1 rfl) ?_
  refine lv_aload_n hx hb dL_law_852 rfl (lv_at hl 3 rfl) ?_
  refine lv_iload_n hx hb dL_law_853 rfl (lv_at hl 0 rfl) ?_
  refine lv_iconst (v := nI 1) hx hb dL_law_854 (by decide) ?_
  refine nv_iadd hx hb dL_law_855 ?_
  refine nv_sld C hL hS (j := i + 1) (by omega) dL_law_856 ?_
  refine lv_aload_n hx hb dL_law_857 rfl (lv_at hl 3 rfl) ?_
  refine lv_iload_n hx hb dL_law_858 rfl (lv_at hl 0 rfl) ?_
  refine lv_iconst (v := nI 2) hx hb dL_law_859 (by decide) ?_
  refine nv_iadd hx hb dL_law_860 ?_
  refine nv_sld C hL hS (j := i + 2) (by omega) dL_law_861 ?_
  refine lw_cN (X2 := (p_parts X (xs (i + 1)) (xs (i + 2))).2) (v := .int (p_parts X (xs (i + 1)) (xs (i + 2))).1) (n := 2) (As := [.int (xs (i + 1)), .int (xs (i + 2))]) (rest := [.int (p_parts X (xs (i + 1)) (xs (i + 2))).1]) C hA hP hN (fun kn kr q0 q1 q2 q3 q4 q5 iw y0 y1 y2 y3 y4 y5 y6 h1 h2 => c_X4_parts l D ci am X kr q0 q1 q2 q3 q4 q5 iw kn y0 y1 y2 y3 y4 y5 y6 hA.2.1 (xs (i + 1)) (xs (i + 2)) hWX h2) gL_law_X4_parts rfl ⟨rfl, rfl⟩ (by decide +kernel) rfl ⟨(Nat.le_of_ble_eq_true rfl), (Nat.le_of_ble_eq_true rfl)⟩ hE_T trivial hl.1 rfl (Nat.le_of_ble_eq_true rfl) dL_law_862 hf hS (fun H locs hP hN hS => ?_)
  refine lv_icmp_eq (tgt := 1572) hx hb dL_law_865 (by decide) (fun _ => ?_) (fun h => absurd rfl h)
  exact kk _ H locs (wf_parts hWX (xs (i + 1)) (xs (i + 2))) hP hN hS

set_option maxHeartbeats 4000000 in
set_option maxRecDepth 100000 in
/-- case 22: tells -/
theorem lc_22 {p : Program} {l : Launch} {e : Env} {s : State} {m : MethodId} {below : List Frame} {meth : Method} {c : Code} {H : Heap} {locs : List Loc} {cells slots : Nat} {Q : State → Prop} {b L : Nat} {xs : Nat → Int32} {D : va_G} {ci : Nat → ClassId} {ka : Nat} {adK adV : Nat → Nat} {fx : Nat} {ad am : Nat → Nat} {X : AS} {ls : Array Slot} (C : LC p s m c b L xs D ci ka adK adV fx) (hA : LA s ad am) (hL : L ≤ 3072) {i : Nat} (hi : i + 6 ≤ L) (hWX : WFX X) (hP : LX D ci ad X H) (hN : LN D ci am adK X H) (hS : va_S (lG s) s.heap H locs) (hl : lv_has ls 4 [(3, .int (nI i)), (2, .ref (am 0)), (1, .ref (ad 0)), (0, .ref b)]) (hf : cells ≤ room_1.cells ∧ slots ≤ room_1.slots)
    (kk : ∀ (X : AS) (H : Heap) (locs : List Loc), WFX X → LX D ci ad X H → LN D ci am adK X H → va_S (lG s) s.heap H locs → W p l e room_1 s m #[Value.ref b] below meth c H locs cells slots Q (F0 m 1572 ls [])) : W p l e room_1 s m #[Value.ref b] below meth c H locs cells slots Q (F0 m 870 ls []) := by
  obtain ⟨hx, hb, hml, hown, hts, hX, hbl, hK, hsS, hsW⟩ := id C
  refine lv_aload_n hx hb dL_law_870 rfl (lv_at hl 2 rfl) ?_
  refine lw_cX (X2 := (p_tells X).2) (v := .int (p_tells X).1) (n := 0) (As := []) (rest := []) C hA hP hN (fun T tq la tt z => c_X3_tells l D ci (lG s) ka ad X T tq la tt z hA.1 hA.2.2.1 hWX) gL_law_X3_tells rfl ⟨rfl, rfl⟩ (by decide +kernel) rfl ⟨(Nat.le_of_ble_eq_true rfl), (Nat.le_of_ble_eq_true rfl)⟩ (hE_en D (ci 0) (lG s) ka) (C.e3 hS) hl.1 rfl (Nat.le_of_ble_eq_true rfl) dL_law_871 hf hS (fun H locs hP hN hS => ?_)
  refine lv_aload_n hx hb dL_law_874 rfl (lv_at hl 1 rfl) ?_
  refine lw_cN (X2 := (p_tells X).2) (v := .int (p_tells X).1) (n := 0) (As := []) (rest := [.int (p_tells X).1]) C hA hP hN (fun kn kr q0 q1 q2 q3 q4 q5 iw y0 y1 y2 y3 y4 y5 y6 h1 h2 => c_X4_tells l D ci am X kr q0 q1 q2 q3 q4 q5 iw kn y0 y1 y2 y3 y4 y5 y6 hA.2.1 hWX h2) gL_law_X4_tells rfl ⟨rfl, rfl⟩ (by decide +kernel) rfl ⟨(Nat.le_of_ble_eq_true rfl), (Nat.le_of_ble_eq_true rfl)⟩ hE_T trivial hl.1 rfl (Nat.le_of_ble_eq_true rfl) dL_law_875 hf hS (fun H locs hP hN hS => ?_)
  refine lv_icmp_eq (tgt := 1572) hx hb dL_law_878 (by decide) (fun _ => ?_) (fun h => absurd rfl h)
  exact kk _ H locs (wf_tells hWX) hP hN hS

set_option maxHeartbeats 4000000 in
set_option maxRecDepth 100000 in
/-- case 23: halves -/
theorem lc_23 {p : Program} {l : Launch} {e : Env} {s : State} {m : MethodId} {below : List Frame} {meth : Method} {c : Code} {H : Heap} {locs : List Loc} {cells slots : Nat} {Q : State → Prop} {b L : Nat} {xs : Nat → Int32} {D : va_G} {ci : Nat → ClassId} {ka : Nat} {adK adV : Nat → Nat} {fx : Nat} {ad am : Nat → Nat} {X : AS} {ls : Array Slot} (C : LC p s m c b L xs D ci ka adK adV fx) (hA : LA s ad am) (hL : L ≤ 3072) {i : Nat} (hi : i + 6 ≤ L) (hWX : WFX X) (hP : LX D ci ad X H) (hN : LN D ci am adK X H) (hS : va_S (lG s) s.heap H locs) (hl : lv_has ls 4 [(3, .int (nI i)), (2, .ref (am 0)), (1, .ref (ad 0)), (0, .ref b)]) (hf : cells ≤ room_1.cells ∧ slots ≤ room_1.slots)
    (kk : ∀ (X : AS) (H : Heap) (locs : List Loc), WFX X → LX D ci ad X H → LN D ci am adK X H → va_S (lG s) s.heap H locs → W p l e room_1 s m #[Value.ref b] below meth c H locs cells slots Q (F0 m 1572 ls [])) : W p l e room_1 s m #[Value.ref b] below meth c H locs cells slots Q (F0 m 883 ls []) := by
  obtain ⟨hx, hb, hml, hown, hts, hX, hbl, hK, hsS, hsW⟩ := id C
  refine lv_aload_n hx hb dL_law_883 rfl (lv_at hl 2 rfl) ?_
  refine lw_cX (X2 := (p_halves X).2) (v := .int (p_halves X).1) (n := 0) (As := []) (rest := []) C hA hP hN (fun T tq la tt z => c_X3_halves l D ci (lG s) ka ad X T tq la tt z hA.1 hA.2.2.1 hWX) gL_law_X3_halves rfl ⟨rfl, rfl⟩ (by decide +kernel) rfl ⟨(Nat.le_of_ble_eq_true rfl), (Nat.le_of_ble_eq_true rfl)⟩ (hE_en D (ci 0) (lG s) ka) (C.e3 hS) hl.1 rfl (Nat.le_of_ble_eq_true rfl) dL_law_884 hf hS (fun H locs hP hN hS => ?_)
  refine lv_aload_n hx hb dL_law_887 rfl (lv_at hl 1 rfl) ?_
  refine lw_cN (X2 := (p_halves X).2) (v := .int (p_halves X).1) (n := 0) (As := []) (rest := [.int (p_halves X).1]) C hA hP hN (fun kn kr q0 q1 q2 q3 q4 q5 iw y0 y1 y2 y3 y4 y5 y6 h1 h2 => c_X4_halves l D ci am X kr q0 q1 q2 q3 q4 q5 iw kn y0 y1 y2 y3 y4 y5 y6 hA.2.1 hWX h2) gL_law_X4_halves rfl ⟨rfl, rfl⟩ (by decide +kernel) rfl ⟨(Nat.le_of_ble_eq_true rfl), (Nat.le_of_ble_eq_true rfl)⟩ hE_T trivial hl.1 rfl (Nat.le_of_ble_eq_true rfl) dL_law_888 hf hS (fun H locs hP hN hS => ?_)
  refine lv_icmp_eq (tgt := 1572) hx hb dL_law_891 (by decide) (fun _ => ?_) (fun h => absurd rfl h)
  exact kk _ H locs (wf_halves hWX) hP hN hS

set_option maxHeartbeats 4000000 in
set_option maxRecDepth 100000 in
/-- case 24: who -/
theorem lc_24 {p : Program} {l : Launch} {e : Env} {s : State} {m : MethodId} {below : List Frame} {meth : Method} {c : Code} {H : Heap} {locs : List Loc} {cells slots : Nat} {Q : State → Prop} {b L : Nat} {xs : Nat → Int32} {D : va_G} {ci : Nat → ClassId} {ka : Nat} {adK adV : Nat → Nat} {fx : Nat} {ad am : Nat → Nat} {X : AS} {ls : Array Slot} (C : LC p s m c b L xs D ci ka adK adV fx) (hA : LA s ad am) (hL : L ≤ 3072) {i : Nat} (hi : i + 6 ≤ L) (hWX : WFX X) (hP : LX D ci ad X H) (hN : LN D ci am adK X H) (hS : va_S (lG s) s.heap H locs) (hl : lv_has ls 4 [(3, .int (nI i)), (2, .ref (am 0)), (1, .ref (ad 0)), (0, .ref b)]) (hf : cells ≤ room_1.cells ∧ slots ≤ room_1.slots)
    (kk : ∀ (X : AS) (H : Heap) (locs : List Loc), WFX X → LX D ci ad X H → LN D ci am adK X H → va_S (lG s) s.heap H locs → W p l e room_1 s m #[Value.ref b] below meth c H locs cells slots Q (F0 m 1572 ls [])) : W p l e room_1 s m #[Value.ref b] below meth c H locs cells slots Q (F0 m 896 ls []) := by
  obtain ⟨hx, hb, hml, hown, hts, hX, hbl, hK, hsS, hsW⟩ := id C
  refine lv_aload_n hx hb dL_law_896 rfl (lv_at hl 2 rfl) ?_
  refine lv_aload_n hx hb dL_law_897 rfl (lv_at hl 3 rfl) ?_
  refine lv_iload_n hx hb dL_law_898 rfl (lv_at hl 0 rfl) ?_
  refine lv_iconst (v := nI 1) hx hb dL_law_899 (by decide) ?_
  refine nv_iadd hx hb dL_law_900 ?_
  refine nv_sld C hL hS (j := i + 1) (by omega) dL_law_901 ?_
  refine lw_cX (X2 := (p_who X (xs (i + 1))).2) (v := .int (p_who X (xs (i + 1))).1) (n := 1) (As := [.int (xs (i + 1))]) (rest := []) C hA hP hN (fun T tq la tt z => c_X3_who l D ci (lG s) ka ad X T tq la tt z hA.1 hA.2.2.1 (xs (i + 1)) hWX) gL_law_X3_who rfl ⟨rfl, rfl⟩ (by decide +kernel) rfl ⟨(Nat.le_of_ble_eq_true rfl), (Nat.le_of_ble_eq_true rfl)⟩ (hE_en D (ci 0) (lG s) ka) (C.e3 hS) hl.1 rfl (Nat.le_of_ble_eq_true rfl) dL_law_902 hf hS (fun H locs hP hN hS => ?_)
  refine lv_aload_n hx hb dL_law_905 rfl (lv_at hl 1 rfl) ?_
  refine lv_aload_n hx hb dL_law_906 rfl (lv_at hl 3 rfl) ?_
  refine lv_iload_n hx hb dL_law_907 rfl (lv_at hl 0 rfl) ?_
  refine lv_iconst (v := nI 1) hx hb dL_law_908 (by decide) ?_
  refine nv_iadd hx hb dL_law_909 ?_
  refine nv_sld C hL hS (j := i + 1) (by omega) dL_law_910 ?_
  refine lw_cN (X2 := (p_who X (xs (i + 1))).2) (v := .int (p_who X (xs (i + 1))).1) (n := 1) (As := [.int (xs (i + 1))]) (rest := [.int (p_who X (xs (i + 1))).1]) C hA hP hN (fun kn kr q0 q1 q2 q3 q4 q5 iw y0 y1 y2 y3 y4 y5 y6 h1 h2 => c_X4_who l D ci am X kr q0 q1 q2 q3 q4 q5 iw kn y0 y1 y2 y3 y4 y5 y6 hA.2.1 (xs (i + 1)) hWX h2) gL_law_X4_who rfl ⟨rfl, rfl⟩ (by decide +kernel) rfl ⟨(Nat.le_of_ble_eq_true rfl), (Nat.le_of_ble_eq_true rfl)⟩ hE_T trivial hl.1 rfl (Nat.le_of_ble_eq_true rfl) dL_law_911 hf hS (fun H locs hP hN hS => ?_)
  refine lv_icmp_eq (tgt := 1572) hx hb dL_law_914 (by decide) (fun _ => ?_) (fun h => absurd rfl h)
  exact kk _ H locs (wf_who hWX (xs (i + 1))) hP hN hS

set_option maxHeartbeats 4000000 in
set_option maxRecDepth 100000 in
/-- case 25: nearest -/
theorem lc_25 {p : Program} {l : Launch} {e : Env} {s : State} {m : MethodId} {below : List Frame} {meth : Method} {c : Code} {H : Heap} {locs : List Loc} {cells slots : Nat} {Q : State → Prop} {b L : Nat} {xs : Nat → Int32} {D : va_G} {ci : Nat → ClassId} {ka : Nat} {adK adV : Nat → Nat} {fx : Nat} {ad am : Nat → Nat} {X : AS} {ls : Array Slot} (C : LC p s m c b L xs D ci ka adK adV fx) (hA : LA s ad am) (hL : L ≤ 3072) {i : Nat} (hi : i + 6 ≤ L) (hWX : WFX X) (hP : LX D ci ad X H) (hN : LN D ci am adK X H) (hS : va_S (lG s) s.heap H locs) (hl : lv_has ls 4 [(3, .int (nI i)), (2, .ref (am 0)), (1, .ref (ad 0)), (0, .ref b)]) (hf : cells ≤ room_1.cells ∧ slots ≤ room_1.slots)
    (kk : ∀ (X : AS) (H : Heap) (locs : List Loc), WFX X → LX D ci ad X H → LN D ci am adK X H → va_S (lG s) s.heap H locs → W p l e room_1 s m #[Value.ref b] below meth c H locs cells slots Q (F0 m 1572 ls [])) : W p l e room_1 s m #[Value.ref b] below meth c H locs cells slots Q (F0 m 919 ls []) := by
  obtain ⟨hx, hb, hml, hown, hts, hX, hbl, hK, hsS, hsW⟩ := id C
  refine lv_aload_n hx hb dL_law_919 rfl (lv_at hl 2 rfl) ?_
  refine lv_aload_n hx hb dL_law_920 rfl (lv_at hl 3 rfl) ?_
  refine lv_iload_n hx hb dL_law_921 rfl (lv_at hl 0 rfl) ?_
  refine lv_iconst (v := nI 1) hx hb dL_law_922 (by decide) ?_
  refine nv_iadd hx hb dL_law_923 ?_
  refine nv_sld C hL hS (j := i + 1) (by omega) dL_law_924 ?_
  refine lv_aload_n hx hb dL_law_925 rfl (lv_at hl 3 rfl) ?_
  refine lv_iload_n hx hb dL_law_926 rfl (lv_at hl 0 rfl) ?_
  refine lv_iconst (v := nI 2) hx hb dL_law_927 (by decide) ?_
  refine nv_iadd hx hb dL_law_928 ?_
  refine nv_sld C hL hS (j := i + 2) (by omega) dL_law_929 ?_
  refine lw_cX (X2 := (p_nearest X (xs (i + 1)) (xs (i + 2))).2) (v := .int (p_nearest X (xs (i + 1)) (xs (i + 2))).1) (n := 2) (As := [.int (xs (i + 1)), .int (xs (i + 2))]) (rest := []) C hA hP hN (fun T tq la tt z => c_X3_nearest l D ci (lG s) ka ad X T tq la tt z hA.1 hA.2.2.1 (xs (i + 1)) (xs (i + 2)) hWX) gL_law_X3_nearest rfl ⟨rfl, rfl⟩ (by decide +kernel) rfl ⟨(Nat.le_of_ble_eq_true rfl), (Nat.le_of_ble_eq_true rfl)⟩ (hE_en D (ci 0) (lG s) ka) (C.e3 hS) hl.1 rfl (Nat.le_of_ble_eq_true rfl) dL_law_930 hf hS (fun H locs hP hN hS => ?_)
  refine lv_aload_n hx hb dL_law_933 rfl (lv_at hl 1 rfl) ?_
  refine lv_aload_n hx hb dL_law_934 rfl (lv_at hl 3 rfl) ?_
  refine lv_iload_n hx hb dL_law_935 rfl (lv_at hl 0 rfl) ?_
  refine lv_iconst (v := nI 1) hx hb dL_law_936 (by decide) ?_
  refine nv_iadd hx hb dL_law_937 ?_
  refine nv_sld C hL hS (j := i + 1) (by omega) dL_law_938 ?_
  refine lv_aload_n hx hb dL_law_939 rfl (lv_at hl 3 rfl) ?_
  refine lv_iload_n hx hb dL_law_940 rfl (lv_at hl 0 rfl) ?_
  refine lv_iconst (v := nI 2) hx hb dL_law_941 (by decide) ?_
  refine nv_iadd hx hb dL_law_942 ?_
  refine nv_sld C hL hS (j := i + 2) (by omega) dL_law_943 ?_
  refine lw_cN (X2 := (p_nearest X (xs (i + 1)) (xs (i + 2))).2) (v := .int (p_nearest X (xs (i + 1)) (xs (i + 2))).1) (n := 2) (As := [.int (xs (i + 1)), .int (xs (i + 2))]) (rest := [.int (p_nearest X (xs (i + 1)) (xs (i + 2))).1]) C hA hP hN (fun kn kr q0 q1 q2 q3 q4 q5 iw y0 y1 y2 y3 y4 y5 y6 h1 h2 => c_X4_nearest l D ci am X kr q0 q1 q2 q3 q4 q5 iw kn y0 y1 y2 y3 y4 y5 y6 hA.2.1 (xs (i + 1)) (xs (i + 2)) hWX h2) gL_law_X4_nearest rfl ⟨rfl, rfl⟩ (by decide +kernel) rfl ⟨(Nat.le_of_ble_eq_true rfl), (Nat.le_of_ble_eq_true rfl)⟩ hE_T trivial hl.1 rfl (Nat.le_of_ble_eq_true rfl) dL_law_944 hf hS (fun H locs hP hN hS => ?_)
  refine lv_icmp_eq (tgt := 1572) hx hb dL_law_947 (by decide) (fun _ => ?_) (fun h => absurd rfl h)
  exact kk _ H locs (wf_nearest hWX (xs (i + 1)) (xs (i + 2))) hP hN hS

set_option maxHeartbeats 4000000 in
set_option maxRecDepth 100000 in
/-- case 26: links -/
theorem lc_26 {p : Program} {l : Launch} {e : Env} {s : State} {m : MethodId} {below : List Frame} {meth : Method} {c : Code} {H : Heap} {locs : List Loc} {cells slots : Nat} {Q : State → Prop} {b L : Nat} {xs : Nat → Int32} {D : va_G} {ci : Nat → ClassId} {ka : Nat} {adK adV : Nat → Nat} {fx : Nat} {ad am : Nat → Nat} {X : AS} {ls : Array Slot} (C : LC p s m c b L xs D ci ka adK adV fx) (hA : LA s ad am) (hL : L ≤ 3072) {i : Nat} (hi : i + 6 ≤ L) (hWX : WFX X) (hP : LX D ci ad X H) (hN : LN D ci am adK X H) (hS : va_S (lG s) s.heap H locs) (hl : lv_has ls 4 [(3, .int (nI i)), (2, .ref (am 0)), (1, .ref (ad 0)), (0, .ref b)]) (hf : cells ≤ room_1.cells ∧ slots ≤ room_1.slots)
    (kk : ∀ (X : AS) (H : Heap) (locs : List Loc), WFX X → LX D ci ad X H → LN D ci am adK X H → va_S (lG s) s.heap H locs → W p l e room_1 s m #[Value.ref b] below meth c H locs cells slots Q (F0 m 1572 ls [])) : W p l e room_1 s m #[Value.ref b] below meth c H locs cells slots Q (F0 m 952 ls []) := by
  obtain ⟨hx, hb, hml, hown, hts, hX, hbl, hK, hsS, hsW⟩ := id C
  refine lv_aload_n hx hb dL_law_952 rfl (lv_at hl 2 rfl) ?_
  refine lw_cX (X2 := (p_links X).2) (v := .int (p_links X).1) (n := 0) (As := []) (rest := []) C hA hP hN (fun T tq la tt z => c_X3_links l D ci (lG s) ka ad X T tq la tt z hA.1 hA.2.2.1 hWX) gL_law_X3_links rfl ⟨rfl, rfl⟩ (by decide +kernel) rfl ⟨(Nat.le_of_ble_eq_true rfl), (Nat.le_of_ble_eq_true rfl)⟩ (hE_en D (ci 0) (lG s) ka) (C.e3 hS) hl.1 rfl (Nat.le_of_ble_eq_true rfl) dL_law_953 hf hS (fun H locs hP hN hS => ?_)
  refine lv_aload_n hx hb dL_law_956 rfl (lv_at hl 1 rfl) ?_
  refine lw_cN (X2 := (p_links X).2) (v := .int (p_links X).1) (n := 0) (As := []) (rest := [.int (p_links X).1]) C hA hP hN (fun kn kr q0 q1 q2 q3 q4 q5 iw y0 y1 y2 y3 y4 y5 y6 h1 h2 => c_X4_links l D ci am X kr q0 q1 q2 q3 q4 q5 iw kn y0 y1 y2 y3 y4 y5 y6 hA.2.1 hWX h2) gL_law_X4_links rfl ⟨rfl, rfl⟩ (by decide +kernel) rfl ⟨(Nat.le_of_ble_eq_true rfl), (Nat.le_of_ble_eq_true rfl)⟩ hE_T trivial hl.1 rfl (Nat.le_of_ble_eq_true rfl) dL_law_957 hf hS (fun H locs hP hN hS => ?_)
  refine lv_icmp_eq (tgt := 1572) hx hb dL_law_960 (by decide) (fun _ => ?_) (fun h => absurd rfl h)
  exact kk _ H locs (wf_links hWX) hP hN hS

set_option maxHeartbeats 4000000 in
set_option maxRecDepth 100000 in
/-- case 27: bestSwap -/
theorem lc_27 {p : Program} {l : Launch} {e : Env} {s : State} {m : MethodId} {below : List Frame} {meth : Method} {c : Code} {H : Heap} {locs : List Loc} {cells slots : Nat} {Q : State → Prop} {b L : Nat} {xs : Nat → Int32} {D : va_G} {ci : Nat → ClassId} {ka : Nat} {adK adV : Nat → Nat} {fx : Nat} {ad am : Nat → Nat} {X : AS} {ls : Array Slot} (C : LC p s m c b L xs D ci ka adK adV fx) (hA : LA s ad am) (hL : L ≤ 3072) {i : Nat} (hi : i + 6 ≤ L) (hWX : WFX X) (hP : LX D ci ad X H) (hN : LN D ci am adK X H) (hS : va_S (lG s) s.heap H locs) (hl : lv_has ls 4 [(3, .int (nI i)), (2, .ref (am 0)), (1, .ref (ad 0)), (0, .ref b)]) (hf : cells ≤ room_1.cells ∧ slots ≤ room_1.slots)
    (kk : ∀ (X : AS) (H : Heap) (locs : List Loc), WFX X → LX D ci ad X H → LN D ci am adK X H → va_S (lG s) s.heap H locs → W p l e room_1 s m #[Value.ref b] below meth c H locs cells slots Q (F0 m 1572 ls [])) : W p l e room_1 s m #[Value.ref b] below meth c H locs cells slots Q (F0 m 965 ls []) := by
  obtain ⟨hx, hb, hml, hown, hts, hX, hbl, hK, hsS, hsW⟩ := id C
  refine lv_aload_n hx hb dL_law_965 rfl (lv_at hl 2 rfl) ?_
  refine lw_cX (X2 := (p_bestSwap X).2) (v := .int (p_bestSwap X).1) (n := 0) (As := []) (rest := []) C hA hP hN (fun T tq la tt z => c_X3_bestSwap l D ci (lG s) ka ad X T tq la tt z hA.1 hA.2.2.1 hWX) gL_law_X3_bestSwap rfl ⟨rfl, rfl⟩ (by decide +kernel) rfl ⟨(Nat.le_of_ble_eq_true rfl), (Nat.le_of_ble_eq_true rfl)⟩ (hE_en D (ci 0) (lG s) ka) (C.e3 hS) hl.1 rfl (Nat.le_of_ble_eq_true rfl) dL_law_966 hf hS (fun H locs hP hN hS => ?_)
  refine lv_aload_n hx hb dL_law_969 rfl (lv_at hl 1 rfl) ?_
  refine lw_cN (X2 := (p_bestSwap X).2) (v := .int (p_bestSwap X).1) (n := 0) (As := []) (rest := [.int (p_bestSwap X).1]) C hA hP hN (fun kn kr q0 q1 q2 q3 q4 q5 iw y0 y1 y2 y3 y4 y5 y6 h1 h2 => c_X4_bestSwap l D ci am X kr q0 q1 q2 q3 q4 q5 iw kn y0 y1 y2 y3 y4 y5 y6 hA.2.1 hWX h2) gL_law_X4_bestSwap rfl ⟨rfl, rfl⟩ (by decide +kernel) rfl ⟨(Nat.le_of_ble_eq_true rfl), (Nat.le_of_ble_eq_true rfl)⟩ hE_T trivial hl.1 rfl (Nat.le_of_ble_eq_true rfl) dL_law_970 hf hS (fun H locs hP hN hS => ?_)
  refine lv_icmp_eq (tgt := 1572) hx hb dL_law_973 (by decide) (fun _ => ?_) (fun h => absurd rfl h)
  exact kk _ H locs (wf_bestSwap hWX) hP hN hS

set_option maxHeartbeats 4000000 in
set_option maxRecDepth 100000 in
/-- case 28: loudFor -/
theorem lc_28 {p : Program} {l : Launch} {e : Env} {s : State} {m : MethodId} {below : List Frame} {meth : Method} {c : Code} {H : Heap} {locs : List Loc} {cells slots : Nat} {Q : State → Prop} {b L : Nat} {xs : Nat → Int32} {D : va_G} {ci : Nat → ClassId} {ka : Nat} {adK adV : Nat → Nat} {fx : Nat} {ad am : Nat → Nat} {X : AS} {ls : Array Slot} (C : LC p s m c b L xs D ci ka adK adV fx) (hA : LA s ad am) (hL : L ≤ 3072) {i : Nat} (hi : i + 6 ≤ L) (hWX : WFX X) (hP : LX D ci ad X H) (hN : LN D ci am adK X H) (hS : va_S (lG s) s.heap H locs) (hl : lv_has ls 4 [(3, .int (nI i)), (2, .ref (am 0)), (1, .ref (ad 0)), (0, .ref b)]) (hf : cells ≤ room_1.cells ∧ slots ≤ room_1.slots)
    (kk : ∀ (X : AS) (H : Heap) (locs : List Loc), WFX X → LX D ci ad X H → LN D ci am adK X H → va_S (lG s) s.heap H locs → W p l e room_1 s m #[Value.ref b] below meth c H locs cells slots Q (F0 m 1572 ls [])) : W p l e room_1 s m #[Value.ref b] below meth c H locs cells slots Q (F0 m 978 ls []) := by
  obtain ⟨hx, hb, hml, hown, hts, hX, hbl, hK, hsS, hsW⟩ := id C
  refine lv_aload_n hx hb dL_law_978 rfl (lv_at hl 2 rfl) ?_
  refine lv_aload_n hx hb dL_law_979 rfl (lv_at hl 3 rfl) ?_
  refine lv_iload_n hx hb dL_law_980 rfl (lv_at hl 0 rfl) ?_
  refine lv_iconst (v := nI 1) hx hb dL_law_981 (by decide) ?_
  refine nv_iadd hx hb dL_law_982 ?_
  refine nv_sld C hL hS (j := i + 1) (by omega) dL_law_983 ?_
  refine lv_aload_n hx hb dL_law_984 rfl (lv_at hl 3 rfl) ?_
  refine lv_iload_n hx hb dL_law_985 rfl (lv_at hl 0 rfl) ?_
  refine lv_iconst (v := nI 2) hx hb dL_law_986 (by decide) ?_
  refine nv_iadd hx hb dL_law_987 ?_
  refine nv_sld C hL hS (j := i + 2) (by omega) dL_law_988 ?_
  refine lv_aload_n hx hb dL_law_989 rfl (lv_at hl 3 rfl) ?_
  refine lv_iload_n hx hb dL_law_990 rfl (lv_at hl 0 rfl) ?_
  refine lv_iconst (v := nI 3) hx hb dL_law_991 (by decide) ?_
  refine nv_iadd hx hb dL_law_992 ?_
  refine nv_sld C hL hS (j := i + 3) (by omega) dL_law_993 ?_
  refine lw_cX (X2 := (p_loudFor X (xs (i + 1)) (xs (i + 2)) (xs (i + 3))).2) (v := .int (p_loudFor X (xs (i + 1)) (xs (i + 2)) (xs (i + 3))).1) (n := 3) (As := [.int (xs (i + 1)), .int (xs (i + 2)), .int (xs (i + 3))]) (rest := []) C hA hP hN (fun T tq la tt z => c_X3_loudFor l D ci (lG s) ka ad X T tq la tt z hA.1 hA.2.2.1 (xs (i + 1)) (xs (i + 2)) (xs (i + 3)) hWX) gL_law_X3_loudFor rfl ⟨rfl, rfl⟩ (by decide +kernel) rfl ⟨(Nat.le_of_ble_eq_true rfl), (Nat.le_of_ble_eq_true rfl)⟩ (hE_en D (ci 0) (lG s) ka) (C.e3 hS) hl.1 rfl (Nat.le_of_ble_eq_true rfl) dL_law_994 hf hS (fun H locs hP hN hS => ?_)
  refine lv_aload_n hx hb dL_law_997 rfl (lv_at hl 1 rfl) ?_
  refine lv_aload_n hx hb dL_law_998 rfl (lv_at hl 3 rfl) ?_
  refine lv_iload_n hx hb dL_law_999 rfl (lv_at hl 0 rfl) ?_
  refine lv_iconst (v := nI 1) hx hb dL_law_1000 (by decide) ?_
  refine nv_iadd hx hb dL_law_1001 ?_
  refine nv_sld C hL hS (j := i + 1) (by omega) dL_law_1002 ?_
  refine lv_aload_n hx hb dL_law_1003 rfl (lv_at hl 3 rfl) ?_
  refine lv_iload_n hx hb dL_law_1004 rfl (lv_at hl 0 rfl) ?_
  refine lv_iconst (v := nI 2) hx hb dL_law_1005 (by decide) ?_
  refine nv_iadd hx hb dL_law_1006 ?_
  refine nv_sld C hL hS (j := i + 2) (by omega) dL_law_1007 ?_
  refine lv_aload_n hx hb dL_law_1008 rfl (lv_at hl 3 rfl) ?_
  refine lv_iload_n hx hb dL_law_1009 rfl (lv_at hl 0 rfl) ?_
  refine lv_iconst (v := nI 3) hx hb dL_law_1010 (by decide) ?_
  refine nv_iadd hx hb dL_law_1011 ?_
  refine nv_sld C hL hS (j := i + 3) (by omega) dL_law_1012 ?_
  refine lw_cN (X2 := (p_loudFor X (xs (i + 1)) (xs (i + 2)) (xs (i + 3))).2) (v := .int (p_loudFor X (xs (i + 1)) (xs (i + 2)) (xs (i + 3))).1) (n := 3) (As := [.int (xs (i + 1)), .int (xs (i + 2)), .int (xs (i + 3))]) (rest := [.int (p_loudFor X (xs (i + 1)) (xs (i + 2)) (xs (i + 3))).1]) C hA hP hN (fun kn kr q0 q1 q2 q3 q4 q5 iw y0 y1 y2 y3 y4 y5 y6 h1 h2 => c_X4_loudFor l D ci am X kr q0 q1 q2 q3 q4 q5 iw kn y0 y1 y2 y3 y4 y5 y6 hA.2.1 (xs (i + 1)) (xs (i + 2)) (xs (i + 3)) hWX h2) gL_law_X4_loudFor rfl ⟨rfl, rfl⟩ (by decide +kernel) rfl ⟨(Nat.le_of_ble_eq_true rfl), (Nat.le_of_ble_eq_true rfl)⟩ hE_T trivial hl.1 rfl (Nat.le_of_ble_eq_true rfl) dL_law_1013 hf hS (fun H locs hP hN hS => ?_)
  refine lv_icmp_eq (tgt := 1572) hx hb dL_law_1016 (by decide) (fun _ => ?_) (fun h => absurd rfl h)
  exact kk _ H locs (wf_loudFor hWX (xs (i + 1)) (xs (i + 2)) (xs (i + 3))) hP hN hS

set_option maxHeartbeats 4000000 in
set_option maxRecDepth 100000 in
/-- case 29: fits -/
theorem lc_29 {p : Program} {l : Launch} {e : Env} {s : State} {m : MethodId} {below : List Frame} {meth : Method} {c : Code} {H : Heap} {locs : List Loc} {cells slots : Nat} {Q : State → Prop} {b L : Nat} {xs : Nat → Int32} {D : va_G} {ci : Nat → ClassId} {ka : Nat} {adK adV : Nat → Nat} {fx : Nat} {ad am : Nat → Nat} {X : AS} {ls : Array Slot} (C : LC p s m c b L xs D ci ka adK adV fx) (hA : LA s ad am) (hL : L ≤ 3072) {i : Nat} (hi : i + 6 ≤ L) (hWX : WFX X) (hP : LX D ci ad X H) (hN : LN D ci am adK X H) (hS : va_S (lG s) s.heap H locs) (hl : lv_has ls 4 [(3, .int (nI i)), (2, .ref (am 0)), (1, .ref (ad 0)), (0, .ref b)]) (hf : cells ≤ room_1.cells ∧ slots ≤ room_1.slots)
    (kk : ∀ (X : AS) (H : Heap) (locs : List Loc), WFX X → LX D ci ad X H → LN D ci am adK X H → va_S (lG s) s.heap H locs → W p l e room_1 s m #[Value.ref b] below meth c H locs cells slots Q (F0 m 1572 ls [])) : W p l e room_1 s m #[Value.ref b] below meth c H locs cells slots Q (F0 m 1021 ls []) := by
  obtain ⟨hx, hb, hml, hown, hts, hX, hbl, hK, hsS, hsW⟩ := id C
  refine lv_aload_n hx hb dL_law_1021 rfl (lv_at hl 2 rfl) ?_
  refine lv_aload_n hx hb dL_law_1022 rfl (lv_at hl 3 rfl) ?_
  refine lv_iload_n hx hb dL_law_1023 rfl (lv_at hl 0 rfl) ?_
  refine lv_iconst (v := nI 1) hx hb dL_law_1024 (by decide) ?_
  refine nv_iadd hx hb dL_law_1025 ?_
  refine nv_sld C hL hS (j := i + 1) (by omega) dL_law_1026 ?_
  refine lv_aload_n hx hb dL_law_1027 rfl (lv_at hl 3 rfl) ?_
  refine lv_iload_n hx hb dL_law_1028 rfl (lv_at hl 0 rfl) ?_
  refine lv_iconst (v := nI 2) hx hb dL_law_1029 (by decide) ?_
  refine nv_iadd hx hb dL_law_1030 ?_
  refine nv_sld C hL hS (j := i + 2) (by omega) dL_law_1031 ?_
  refine lw_cX (X2 := (p_fits X (xs (i + 1)) (xs (i + 2))).2) (v := .int (p_fits X (xs (i + 1)) (xs (i + 2))).1) (n := 2) (As := [.int (xs (i + 1)), .int (xs (i + 2))]) (rest := []) C hA hP hN (fun T tq la tt z => c_X3_fits l D ci (lG s) ka ad X T tq la tt z hA.1 hA.2.2.1 (xs (i + 1)) (xs (i + 2)) hWX) gL_law_X3_fits rfl ⟨rfl, rfl⟩ (by decide +kernel) rfl ⟨(Nat.le_of_ble_eq_true rfl), (Nat.le_of_ble_eq_true rfl)⟩ (hE_en D (ci 0) (lG s) ka) (C.e3 hS) hl.1 rfl (Nat.le_of_ble_eq_true rfl) dL_law_1032 hf hS (fun H locs hP hN hS => ?_)
  refine lv_aload_n hx hb dL_law_1035 rfl (lv_at hl 1 rfl) ?_
  refine lv_aload_n hx hb dL_law_1036 rfl (lv_at hl 3 rfl) ?_
  refine lv_iload_n hx hb dL_law_1037 rfl (lv_at hl 0 rfl) ?_
  refine lv_iconst (v := nI 1) hx hb dL_law_1038 (by decide) ?_
  refine nv_iadd hx hb dL_law_1039 ?_
  refine nv_sld C hL hS (j := i + 1) (by omega) dL_law_1040 ?_
  refine lv_aload_n hx hb dL_law_1041 rfl (lv_at hl 3 rfl) ?_
  refine lv_iload_n hx hb dL_law_1042 rfl (lv_at hl 0 rfl) ?_
  refine lv_iconst (v := nI 2) hx hb dL_law_1043 (by decide) ?_
  refine nv_iadd hx hb dL_law_1044 ?_
  refine nv_sld C hL hS (j := i + 2) (by omega) dL_law_1045 ?_
  refine lw_cN (X2 := (p_fits X (xs (i + 1)) (xs (i + 2))).2) (v := .int (p_fits X (xs (i + 1)) (xs (i + 2))).1) (n := 2) (As := [.int (xs (i + 1)), .int (xs (i + 2))]) (rest := [.int (p_fits X (xs (i + 1)) (xs (i + 2))).1]) C hA hP hN (fun kn kr q0 q1 q2 q3 q4 q5 iw y0 y1 y2 y3 y4 y5 y6 h1 h2 => c_X4_fits l D ci am X kr q0 q1 q2 q3 q4 q5 iw kn y0 y1 y2 y3 y4 y5 y6 hA.2.1 (xs (i + 1)) (xs (i + 2)) hWX h2) gL_law_X4_fits rfl ⟨rfl, rfl⟩ (by decide +kernel) rfl ⟨(Nat.le_of_ble_eq_true rfl), (Nat.le_of_ble_eq_true rfl)⟩ hE_T trivial hl.1 rfl (Nat.le_of_ble_eq_true rfl) dL_law_1046 hf hS (fun H locs hP hN hS => ?_)
  refine lv_icmp_eq (tgt := 1572) hx hb dL_law_1049 (by decide) (fun _ => ?_) (fun h => absurd rfl h)
  exact kk _ H locs (wf_fits hWX (xs (i + 1)) (xs (i + 2))) hP hN hS

set_option maxHeartbeats 4000000 in
set_option maxRecDepth 100000 in
/-- case 30: kinds -/
theorem lc_30 {p : Program} {l : Launch} {e : Env} {s : State} {m : MethodId} {below : List Frame} {meth : Method} {c : Code} {H : Heap} {locs : List Loc} {cells slots : Nat} {Q : State → Prop} {b L : Nat} {xs : Nat → Int32} {D : va_G} {ci : Nat → ClassId} {ka : Nat} {adK adV : Nat → Nat} {fx : Nat} {ad am : Nat → Nat} {X : AS} {ls : Array Slot} (C : LC p s m c b L xs D ci ka adK adV fx) (hA : LA s ad am) (hL : L ≤ 3072) {i : Nat} (hi : i + 6 ≤ L) (hWX : WFX X) (hP : LX D ci ad X H) (hN : LN D ci am adK X H) (hS : va_S (lG s) s.heap H locs) (hl : lv_has ls 4 [(3, .int (nI i)), (2, .ref (am 0)), (1, .ref (ad 0)), (0, .ref b)]) (hf : cells ≤ room_1.cells ∧ slots ≤ room_1.slots)
    (kk : ∀ (X : AS) (H : Heap) (locs : List Loc), WFX X → LX D ci ad X H → LN D ci am adK X H → va_S (lG s) s.heap H locs → W p l e room_1 s m #[Value.ref b] below meth c H locs cells slots Q (F0 m 1572 ls [])) : W p l e room_1 s m #[Value.ref b] below meth c H locs cells slots Q (F0 m 1054 ls []) := by
  obtain ⟨hx, hb, hml, hown, hts, hX, hbl, hK, hsS, hsW⟩ := id C
  refine lv_aload_n hx hb dL_law_1054 rfl (lv_at hl 2 rfl) ?_
  refine lv_aload_n hx hb dL_law_1055 rfl (lv_at hl 3 rfl) ?_
  refine lv_iload_n hx hb dL_law_1056 rfl (lv_at hl 0 rfl) ?_
  refine lv_iconst (v := nI 1) hx hb dL_law_1057 (by decide) ?_
  refine nv_iadd hx hb dL_law_1058 ?_
  refine nv_sld C hL hS (j := i + 1) (by omega) dL_law_1059 ?_
  refine lv_aload_n hx hb dL_law_1060 rfl (lv_at hl 3 rfl) ?_
  refine lv_iload_n hx hb dL_law_1061 rfl (lv_at hl 0 rfl) ?_
  refine lv_iconst (v := nI 2) hx hb dL_law_1062 (by decide) ?_
  refine nv_iadd hx hb dL_law_1063 ?_
  refine nv_sld C hL hS (j := i + 2) (by omega) dL_law_1064 ?_
  refine lw_cX (X2 := (p_kinds X (xs (i + 1)) (xs (i + 2))).2) (v := .int (p_kinds X (xs (i + 1)) (xs (i + 2))).1) (n := 2) (As := [.int (xs (i + 1)), .int (xs (i + 2))]) (rest := []) C hA hP hN (fun T tq la tt z => c_X3_kinds l D ci (lG s) ka ad X T tq la tt z hA.1 hA.2.2.1 (xs (i + 1)) (xs (i + 2)) hWX) gL_law_X3_kinds rfl ⟨rfl, rfl⟩ (by decide +kernel) rfl ⟨(Nat.le_of_ble_eq_true rfl), (Nat.le_of_ble_eq_true rfl)⟩ (hE_en D (ci 0) (lG s) ka) (C.e3 hS) hl.1 rfl (Nat.le_of_ble_eq_true rfl) dL_law_1065 hf hS (fun H locs hP hN hS => ?_)
  refine lv_aload_n hx hb dL_law_1068 rfl (lv_at hl 1 rfl) ?_
  refine lv_aload_n hx hb dL_law_1069 rfl (lv_at hl 3 rfl) ?_
  refine lv_iload_n hx hb dL_law_1070 rfl (lv_at hl 0 rfl) ?_
  refine lv_iconst (v := nI 1) hx hb dL_law_1071 (by decide) ?_
  refine nv_iadd hx hb dL_law_1072 ?_
  refine nv_sld C hL hS (j := i + 1) (by omega) dL_law_1073 ?_
  refine lv_aload_n hx hb dL_law_1074 rfl (lv_at hl 3 rfl) ?_
  refine lv_iload_n hx hb dL_law_1075 rfl (lv_at hl 0 rfl) ?_
  refine lv_iconst (v := nI 2) hx hb dL_law_1076 (by decide) ?_
  refine nv_iadd hx hb dL_law_1077 ?_
  refine nv_sld C hL hS (j := i + 2) (by omega) dL_law_1078 ?_
  refine lw_cN (X2 := (p_kinds X (xs (i + 1)) (xs (i + 2))).2) (v := .int (p_kinds X (xs (i + 1)) (xs (i + 2))).1) (n := 2) (As := [.int (xs (i + 1)), .int (xs (i + 2))]) (rest := [.int (p_kinds X (xs (i + 1)) (xs (i + 2))).1]) C hA hP hN (fun kn kr q0 q1 q2 q3 q4 q5 iw y0 y1 y2 y3 y4 y5 y6 h1 h2 => c_X4_kinds l D ci am X kr q0 q1 q2 q3 q4 q5 iw kn y0 y1 y2 y3 y4 y5 y6 hA.2.1 (xs (i + 1)) (xs (i + 2)) hWX h2) gL_law_X4_kinds rfl ⟨rfl, rfl⟩ (by decide +kernel) rfl ⟨(Nat.le_of_ble_eq_true rfl), (Nat.le_of_ble_eq_true rfl)⟩ hE_T trivial hl.1 rfl (Nat.le_of_ble_eq_true rfl) dL_law_1079 hf hS (fun H locs hP hN hS => ?_)
  refine lv_icmp_eq (tgt := 1572) hx hb dL_law_1082 (by decide) (fun _ => ?_) (fun h => absurd rfl h)
  exact kk _ H locs (wf_kinds hWX (xs (i + 1)) (xs (i + 2))) hP hN hS

set_option maxHeartbeats 4000000 in
set_option maxRecDepth 100000 in
/-- case 31: strings -/
theorem lc_31 {p : Program} {l : Launch} {e : Env} {s : State} {m : MethodId} {below : List Frame} {meth : Method} {c : Code} {H : Heap} {locs : List Loc} {cells slots : Nat} {Q : State → Prop} {b L : Nat} {xs : Nat → Int32} {D : va_G} {ci : Nat → ClassId} {ka : Nat} {adK adV : Nat → Nat} {fx : Nat} {ad am : Nat → Nat} {X : AS} {ls : Array Slot} (C : LC p s m c b L xs D ci ka adK adV fx) (hA : LA s ad am) (hL : L ≤ 3072) {i : Nat} (hi : i + 6 ≤ L) (hWX : WFX X) (hP : LX D ci ad X H) (hN : LN D ci am adK X H) (hS : va_S (lG s) s.heap H locs) (hl : lv_has ls 4 [(3, .int (nI i)), (2, .ref (am 0)), (1, .ref (ad 0)), (0, .ref b)]) (hf : cells ≤ room_1.cells ∧ slots ≤ room_1.slots)
    (kk : ∀ (X : AS) (H : Heap) (locs : List Loc), WFX X → LX D ci ad X H → LN D ci am adK X H → va_S (lG s) s.heap H locs → W p l e room_1 s m #[Value.ref b] below meth c H locs cells slots Q (F0 m 1572 ls [])) : W p l e room_1 s m #[Value.ref b] below meth c H locs cells slots Q (F0 m 1087 ls []) := by
  obtain ⟨hx, hb, hml, hown, hts, hX, hbl, hK, hsS, hsW⟩ := id C
  refine lv_aload_n hx hb dL_law_1087 rfl (lv_at hl 2 rfl) ?_
  refine lv_aload_n hx hb dL_law_1088 rfl (lv_at hl 3 rfl) ?_
  refine lv_iload_n hx hb dL_law_1089 rfl (lv_at hl 0 rfl) ?_
  refine lv_iconst (v := nI 1) hx hb dL_law_1090 (by decide) ?_
  refine nv_iadd hx hb dL_law_1091 ?_
  refine nv_sld C hL hS (j := i + 1) (by omega) dL_law_1092 ?_
  refine lw_cX (X2 := (p_strings X (xs (i + 1))).2) (v := .int (p_strings X (xs (i + 1))).1) (n := 1) (As := [.int (xs (i + 1))]) (rest := []) C hA hP hN (fun T tq la tt z => c_X3_strings l D ci (lG s) ka ad X T tq la tt z hA.1 hA.2.2.1 (xs (i + 1)) hWX) gL_law_X3_strings rfl ⟨rfl, rfl⟩ (by decide +kernel) rfl ⟨(Nat.le_of_ble_eq_true rfl), (Nat.le_of_ble_eq_true rfl)⟩ (hE_en D (ci 0) (lG s) ka) (C.e3 hS) hl.1 rfl (Nat.le_of_ble_eq_true rfl) dL_law_1093 hf hS (fun H locs hP hN hS => ?_)
  refine lv_aload_n hx hb dL_law_1096 rfl (lv_at hl 1 rfl) ?_
  refine lv_aload_n hx hb dL_law_1097 rfl (lv_at hl 3 rfl) ?_
  refine lv_iload_n hx hb dL_law_1098 rfl (lv_at hl 0 rfl) ?_
  refine lv_iconst (v := nI 1) hx hb dL_law_1099 (by decide) ?_
  refine nv_iadd hx hb dL_law_1100 ?_
  refine nv_sld C hL hS (j := i + 1) (by omega) dL_law_1101 ?_
  refine lw_cN (X2 := (p_strings X (xs (i + 1))).2) (v := .int (p_strings X (xs (i + 1))).1) (n := 1) (As := [.int (xs (i + 1))]) (rest := [.int (p_strings X (xs (i + 1))).1]) C hA hP hN (fun kn kr q0 q1 q2 q3 q4 q5 iw y0 y1 y2 y3 y4 y5 y6 h1 h2 => c_X4_strings l D ci am X kr q0 q1 q2 q3 q4 q5 iw kn y0 y1 y2 y3 y4 y5 y6 hA.2.1 (xs (i + 1)) hWX h2) gL_law_X4_strings rfl ⟨rfl, rfl⟩ (by decide +kernel) rfl ⟨(Nat.le_of_ble_eq_true rfl), (Nat.le_of_ble_eq_true rfl)⟩ hE_T trivial hl.1 rfl (Nat.le_of_ble_eq_true rfl) dL_law_1102 hf hS (fun H locs hP hN hS => ?_)
  refine lv_icmp_eq (tgt := 1572) hx hb dL_law_1105 (by decide) (fun _ => ?_) (fun h => absurd rfl h)
  exact kk _ H locs (wf_strings hWX (xs (i + 1))) hP hN hS

set_option maxHeartbeats 4000000 in
set_option maxRecDepth 100000 in
/-- case 32: odds -/
theorem lc_32 {p : Program} {l : Launch} {e : Env} {s : State} {m : MethodId} {below : List Frame} {meth : Method} {c : Code} {H : Heap} {locs : List Loc} {cells slots : Nat} {Q : State → Prop} {b L : Nat} {xs : Nat → Int32} {D : va_G} {ci : Nat → ClassId} {ka : Nat} {adK adV : Nat → Nat} {fx : Nat} {ad am : Nat → Nat} {X : AS} {ls : Array Slot} (C : LC p s m c b L xs D ci ka adK adV fx) (hA : LA s ad am) (hL : L ≤ 3072) {i : Nat} (hi : i + 6 ≤ L) (hWX : WFX X) (hP : LX D ci ad X H) (hN : LN D ci am adK X H) (hS : va_S (lG s) s.heap H locs) (hl : lv_has ls 4 [(3, .int (nI i)), (2, .ref (am 0)), (1, .ref (ad 0)), (0, .ref b)]) (hf : cells ≤ room_1.cells ∧ slots ≤ room_1.slots)
    (kk : ∀ (X : AS) (H : Heap) (locs : List Loc), WFX X → LX D ci ad X H → LN D ci am adK X H → va_S (lG s) s.heap H locs → W p l e room_1 s m #[Value.ref b] below meth c H locs cells slots Q (F0 m 1572 ls [])) : W p l e room_1 s m #[Value.ref b] below meth c H locs cells slots Q (F0 m 1110 ls []) := by
  obtain ⟨hx, hb, hml, hown, hts, hX, hbl, hK, hsS, hsW⟩ := id C
  refine lv_aload_n hx hb dL_law_1110 rfl (lv_at hl 2 rfl) ?_
  refine lv_aload_n hx hb dL_law_1111 rfl (lv_at hl 3 rfl) ?_
  refine lv_iload_n hx hb dL_law_1112 rfl (lv_at hl 0 rfl) ?_
  refine lv_iconst (v := nI 1) hx hb dL_law_1113 (by decide) ?_
  refine nv_iadd hx hb dL_law_1114 ?_
  refine nv_sld C hL hS (j := i + 1) (by omega) dL_law_1115 ?_
  refine lv_aload_n hx hb dL_law_1116 rfl (lv_at hl 3 rfl) ?_
  refine lv_iload_n hx hb dL_law_1117 rfl (lv_at hl 0 rfl) ?_
  refine lv_iconst (v := nI 2) hx hb dL_law_1118 (by decide) ?_
  refine nv_iadd hx hb dL_law_1119 ?_
  refine nv_sld C hL hS (j := i + 2) (by omega) dL_law_1120 ?_
  refine lw_cX (X2 := (p_odds X (xs (i + 1)) (xs (i + 2))).2) (v := .long (p_odds X (xs (i + 1)) (xs (i + 2))).1) (n := 2) (As := [.int (xs (i + 1)), .int (xs (i + 2))]) (rest := []) C hA hP hN (fun T tq la tt z => c_X3_odds l D ci (lG s) ka ad X T tq la tt z hA.1 hA.2.2.1 (xs (i + 1)) (xs (i + 2)) hWX) gL_law_X3_odds rfl ⟨rfl, rfl⟩ (by decide +kernel) rfl ⟨(Nat.le_of_ble_eq_true rfl), (Nat.le_of_ble_eq_true rfl)⟩ (hE_en D (ci 0) (lG s) ka) (C.e3 hS) hl.1 rfl (Nat.le_of_ble_eq_true rfl) dL_law_1121 hf hS (fun H locs hP hN hS => ?_)
  refine lv_aload_n hx hb dL_law_1124 rfl (lv_at hl 1 rfl) ?_
  refine lv_aload_n hx hb dL_law_1125 rfl (lv_at hl 3 rfl) ?_
  refine lv_iload_n hx hb dL_law_1126 rfl (lv_at hl 0 rfl) ?_
  refine lv_iconst (v := nI 1) hx hb dL_law_1127 (by decide) ?_
  refine nv_iadd hx hb dL_law_1128 ?_
  refine nv_sld C hL hS (j := i + 1) (by omega) dL_law_1129 ?_
  refine lv_aload_n hx hb dL_law_1130 rfl (lv_at hl 3 rfl) ?_
  refine lv_iload_n hx hb dL_law_1131 rfl (lv_at hl 0 rfl) ?_
  refine lv_iconst (v := nI 2) hx hb dL_law_1132 (by decide) ?_
  refine nv_iadd hx hb dL_law_1133 ?_
  refine nv_sld C hL hS (j := i + 2) (by omega) dL_law_1134 ?_
  refine lw_cN (X2 := (p_odds X (xs (i + 1)) (xs (i + 2))).2) (v := .long (p_odds X (xs (i + 1)) (xs (i + 2))).1) (n := 2) (As := [.int (xs (i + 1)), .int (xs (i + 2))]) (rest := [.long (p_odds X (xs (i + 1)) (xs (i + 2))).1]) C hA hP hN (fun kn kr q0 q1 q2 q3 q4 q5 iw y0 y1 y2 y3 y4 y5 y6 h1 h2 => c_X4_odds l D ci am X kr q0 q1 q2 q3 q4 q5 iw kn y0 y1 y2 y3 y4 y5 y6 hA.2.1 (xs (i + 1)) (xs (i + 2)) hWX h2) gL_law_X4_odds rfl ⟨rfl, rfl⟩ (by decide +kernel) rfl ⟨(Nat.le_of_ble_eq_true rfl), (Nat.le_of_ble_eq_true rfl)⟩ hE_T trivial hl.1 rfl (Nat.le_of_ble_eq_true rfl) dL_law_1135 hf hS (fun H locs hP hN hS => ?_)
  refine W.lcmp hx hb dL_law_1138 ?_
  refine lv_if_eq (tgt := 1572) hx hb dL_law_1139 (by decide) (fun _ => ?_) (fun h => absurd (lg_cmp_self _) h)
  exact kk _ H locs (wf_odds hWX (xs (i + 1)) (xs (i + 2))) hP hN hS

set_option maxHeartbeats 4000000 in
set_option maxRecDepth 100000 in
/-- case 33: seed -/
theorem lc_33 {p : Program} {l : Launch} {e : Env} {s : State} {m : MethodId} {below : List Frame} {meth : Method} {c : Code} {H : Heap} {locs : List Loc} {cells slots : Nat} {Q : State → Prop} {b L : Nat} {xs : Nat → Int32} {D : va_G} {ci : Nat → ClassId} {ka : Nat} {adK adV : Nat → Nat} {fx : Nat} {ad am : Nat → Nat} {X : AS} {ls : Array Slot} (C : LC p s m c b L xs D ci ka adK adV fx) (hA : LA s ad am) (hL : L ≤ 3072) {i : Nat} (hi : i + 6 ≤ L) (hWX : WFX X) (hP : LX D ci ad X H) (hN : LN D ci am adK X H) (hS : va_S (lG s) s.heap H locs) (hl : lv_has ls 4 [(3, .int (nI i)), (2, .ref (am 0)), (1, .ref (ad 0)), (0, .ref b)]) (hf : cells ≤ room_1.cells ∧ slots ≤ room_1.slots)
    (kk : ∀ (X : AS) (H : Heap) (locs : List Loc), WFX X → LX D ci ad X H → LN D ci am adK X H → va_S (lG s) s.heap H locs → W p l e room_1 s m #[Value.ref b] below meth c H locs cells slots Q (F0 m 1572 ls [])) : W p l e room_1 s m #[Value.ref b] below meth c H locs cells slots Q (F0 m 1144 ls []) := by
  obtain ⟨hx, hb, hml, hown, hts, hX, hbl, hK, hsS, hsW⟩ := id C
  refine lv_aload_n hx hb dL_law_1144 rfl (lv_at hl 2 rfl) ?_
  refine lv_aload_n hx hb dL_law_1145 rfl (lv_at hl 3 rfl) ?_
  refine lv_iload_n hx hb dL_law_1146 rfl (lv_at hl 0 rfl) ?_
  refine lv_iconst (v := nI 1) hx hb dL_law_1147 (by decide) ?_
  refine nv_iadd hx hb dL_law_1148 ?_
  refine nv_sld C hL hS (j := i + 1) (by omega) dL_law_1149 ?_
  refine lw_cX (X2 := (p_seed X (xs (i + 1))).2) (v := .int (p_seed X (xs (i + 1))).1) (n := 1) (As := [.int (xs (i + 1))]) (rest := []) C hA hP hN (fun T tq la tt z => c_X3_seed l D ci (lG s) ka ad X T tq la tt z hA.1 hA.2.2.1 (xs (i + 1)) hWX) gL_law_X3_seed rfl ⟨rfl, rfl⟩ (by decide +kernel) rfl ⟨(Nat.le_of_ble_eq_true rfl), (Nat.le_of_ble_eq_true rfl)⟩ (hE_en D (ci 0) (lG s) ka) (C.e3 hS) hl.1 rfl (Nat.le_of_ble_eq_true rfl) dL_law_1150 hf hS (fun H locs hP hN hS => ?_)
  refine lv_aload_n hx hb dL_law_1153 rfl (lv_at hl 1 rfl) ?_
  refine lv_aload_n hx hb dL_law_1154 rfl (lv_at hl 3 rfl) ?_
  refine lv_iload_n hx hb dL_law_1155 rfl (lv_at hl 0 rfl) ?_
  refine lv_iconst (v := nI 1) hx hb dL_law_1156 (by decide) ?_
  refine nv_iadd hx hb dL_law_1157 ?_
  refine nv_sld C hL hS (j := i + 1) (by omega) dL_law_1158 ?_
  refine lw_cN (X2 := (p_seed X (xs (i + 1))).2) (v := .int (p_seed X (xs (i + 1))).1) (n := 1) (As := [.int (xs (i + 1))]) (rest := [.int (p_seed X (xs (i + 1))).1]) C hA hP hN (fun kn kr q0 q1 q2 q3 q4 q5 iw y0 y1 y2 y3 y4 y5 y6 h1 h2 => c_X4_seed l D ci am X kr q0 q1 q2 q3 q4 q5 iw kn y0 y1 y2 y3 y4 y5 y6 hA.2.1 (xs (i + 1)) hWX h2) gL_law_X4_seed rfl ⟨rfl, rfl⟩ (by decide +kernel) rfl ⟨(Nat.le_of_ble_eq_true rfl), (Nat.le_of_ble_eq_true rfl)⟩ hE_T trivial hl.1 rfl (Nat.le_of_ble_eq_true rfl) dL_law_1159 hf hS (fun H locs hP hN hS => ?_)
  refine lv_icmp_eq (tgt := 1572) hx hb dL_law_1162 (by decide) (fun _ => ?_) (fun h => absurd rfl h)
  exact kk _ H locs (wf_seed hWX (xs (i + 1))) hP hN hS

set_option maxHeartbeats 4000000 in
set_option maxRecDepth 100000 in
/-- case 34: feed -/
theorem lc_34 {p : Program} {l : Launch} {e : Env} {s : State} {m : MethodId} {below : List Frame} {meth : Method} {c : Code} {H : Heap} {locs : List Loc} {cells slots : Nat} {Q : State → Prop} {b L : Nat} {xs : Nat → Int32} {D : va_G} {ci : Nat → ClassId} {ka : Nat} {adK adV : Nat → Nat} {fx : Nat} {ad am : Nat → Nat} {X : AS} {ls : Array Slot} (C : LC p s m c b L xs D ci ka adK adV fx) (hA : LA s ad am) (hL : L ≤ 3072) {i : Nat} (hi : i + 6 ≤ L) (hWX : WFX X) (hP : LX D ci ad X H) (hN : LN D ci am adK X H) (hS : va_S (lG s) s.heap H locs) (hl : lv_has ls 4 [(3, .int (nI i)), (2, .ref (am 0)), (1, .ref (ad 0)), (0, .ref b)]) (hf : cells ≤ room_1.cells ∧ slots ≤ room_1.slots)
    (kk : ∀ (X : AS) (H : Heap) (locs : List Loc), WFX X → LX D ci ad X H → LN D ci am adK X H → va_S (lG s) s.heap H locs → W p l e room_1 s m #[Value.ref b] below meth c H locs cells slots Q (F0 m 1572 ls [])) : W p l e room_1 s m #[Value.ref b] below meth c H locs cells slots Q (F0 m 1167 ls []) := by
  obtain ⟨hx, hb, hml, hown, hts, hX, hbl, hK, hsS, hsW⟩ := id C
  refine lv_aload_n hx hb dL_law_1167 rfl (lv_at hl 2 rfl) ?_
  refine lv_aload_n hx hb dL_law_1168 rfl (lv_at hl 3 rfl) ?_
  refine lv_iload_n hx hb dL_law_1169 rfl (lv_at hl 0 rfl) ?_
  refine lv_iconst (v := nI 1) hx hb dL_law_1170 (by decide) ?_
  refine nv_iadd hx hb dL_law_1171 ?_
  refine nv_sld C hL hS (j := i + 1) (by omega) dL_law_1172 ?_
  refine lv_aload_n hx hb dL_law_1173 rfl (lv_at hl 3 rfl) ?_
  refine lv_iload_n hx hb dL_law_1174 rfl (lv_at hl 0 rfl) ?_
  refine lv_iconst (v := nI 2) hx hb dL_law_1175 (by decide) ?_
  refine nv_iadd hx hb dL_law_1176 ?_
  refine nv_sld C hL hS (j := i + 2) (by omega) dL_law_1177 ?_
  refine lw_cX (X2 := (p_feed X (xs (i + 1)) (xs (i + 2))).2) (v := .int (p_feed X (xs (i + 1)) (xs (i + 2))).1) (n := 2) (As := [.int (xs (i + 1)), .int (xs (i + 2))]) (rest := []) C hA hP hN (fun T tq la tt z => c_X3_feed l D ci (lG s) ka ad X T tq la tt z hA.1 hA.2.2.1 (xs (i + 1)) (xs (i + 2)) hWX) gL_law_X3_feed rfl ⟨rfl, rfl⟩ (by decide +kernel) rfl ⟨(Nat.le_of_ble_eq_true rfl), (Nat.le_of_ble_eq_true rfl)⟩ (hE_en D (ci 0) (lG s) ka) (C.e3 hS) hl.1 rfl (Nat.le_of_ble_eq_true rfl) dL_law_1178 hf hS (fun H locs hP hN hS => ?_)
  refine lv_aload_n hx hb dL_law_1181 rfl (lv_at hl 1 rfl) ?_
  refine lv_aload_n hx hb dL_law_1182 rfl (lv_at hl 3 rfl) ?_
  refine lv_iload_n hx hb dL_law_1183 rfl (lv_at hl 0 rfl) ?_
  refine lv_iconst (v := nI 1) hx hb dL_law_1184 (by decide) ?_
  refine nv_iadd hx hb dL_law_1185 ?_
  refine nv_sld C hL hS (j := i + 1) (by omega) dL_law_1186 ?_
  refine lv_aload_n hx hb dL_law_1187 rfl (lv_at hl 3 rfl) ?_
  refine lv_iload_n hx hb dL_law_1188 rfl (lv_at hl 0 rfl) ?_
  refine lv_iconst (v := nI 2) hx hb dL_law_1189 (by decide) ?_
  refine nv_iadd hx hb dL_law_1190 ?_
  refine nv_sld C hL hS (j := i + 2) (by omega) dL_law_1191 ?_
  refine lw_cN (X2 := (p_feed X (xs (i + 1)) (xs (i + 2))).2) (v := .int (p_feed X (xs (i + 1)) (xs (i + 2))).1) (n := 2) (As := [.int (xs (i + 1)), .int (xs (i + 2))]) (rest := [.int (p_feed X (xs (i + 1)) (xs (i + 2))).1]) C hA hP hN (fun kn kr q0 q1 q2 q3 q4 q5 iw y0 y1 y2 y3 y4 y5 y6 h1 h2 => c_X4_feed l D ci am X kr q0 q1 q2 q3 q4 q5 iw kn y0 y1 y2 y3 y4 y5 y6 hA.2.1 (xs (i + 1)) (xs (i + 2)) hWX h2) gL_law_X4_feed rfl ⟨rfl, rfl⟩ (by decide +kernel) rfl ⟨(Nat.le_of_ble_eq_true rfl), (Nat.le_of_ble_eq_true rfl)⟩ hE_T trivial hl.1 rfl (Nat.le_of_ble_eq_true rfl) dL_law_1192 hf hS (fun H locs hP hN hS => ?_)
  refine lv_icmp_eq (tgt := 1572) hx hb dL_law_1195 (by decide) (fun _ => ?_) (fun h => absurd rfl h)
  exact kk _ H locs (wf_feed hWX (xs (i + 1)) (xs (i + 2))) hP hN hS

set_option maxHeartbeats 4000000 in
set_option maxRecDepth 100000 in
/-- case 35: wipe -/
theorem lc_35 {p : Program} {l : Launch} {e : Env} {s : State} {m : MethodId} {below : List Frame} {meth : Method} {c : Code} {H : Heap} {locs : List Loc} {cells slots : Nat} {Q : State → Prop} {b L : Nat} {xs : Nat → Int32} {D : va_G} {ci : Nat → ClassId} {ka : Nat} {adK adV : Nat → Nat} {fx : Nat} {ad am : Nat → Nat} {X : AS} {ls : Array Slot} (C : LC p s m c b L xs D ci ka adK adV fx) (hA : LA s ad am) (hL : L ≤ 3072) {i : Nat} (hi : i + 6 ≤ L) (hWX : WFX X) (hP : LX D ci ad X H) (hN : LN D ci am adK X H) (hS : va_S (lG s) s.heap H locs) (hl : lv_has ls 4 [(3, .int (nI i)), (2, .ref (am 0)), (1, .ref (ad 0)), (0, .ref b)]) (hf : cells ≤ room_1.cells ∧ slots ≤ room_1.slots)
    (kk : ∀ (X : AS) (H : Heap) (locs : List Loc), WFX X → LX D ci ad X H → LN D ci am adK X H → va_S (lG s) s.heap H locs → W p l e room_1 s m #[Value.ref b] below meth c H locs cells slots Q (F0 m 1572 ls [])) : W p l e room_1 s m #[Value.ref b] below meth c H locs cells slots Q (F0 m 1200 ls []) := by
  obtain ⟨hx, hb, hml, hown, hts, hX, hbl, hK, hsS, hsW⟩ := id C
  refine lv_aload_n hx hb dL_law_1200 rfl (lv_at hl 2 rfl) ?_
  refine lw_cX (X2 := (p_wipe X).2) (v := .int (p_wipe X).1) (n := 0) (As := []) (rest := []) C hA hP hN (fun T tq la tt z => c_X3_wipe l D ci (lG s) ka ad X T tq la tt z hA.1 hA.2.2.1 hWX) gL_law_X3_wipe rfl ⟨rfl, rfl⟩ (by decide +kernel) rfl ⟨(Nat.le_of_ble_eq_true rfl), (Nat.le_of_ble_eq_true rfl)⟩ (hE_en D (ci 0) (lG s) ka) (C.e3 hS) hl.1 rfl (Nat.le_of_ble_eq_true rfl) dL_law_1201 hf hS (fun H locs hP hN hS => ?_)
  refine lv_aload_n hx hb dL_law_1204 rfl (lv_at hl 1 rfl) ?_
  refine lw_cN (X2 := (p_wipe X).2) (v := .int (p_wipe X).1) (n := 0) (As := []) (rest := [.int (p_wipe X).1]) C hA hP hN (fun kn kr q0 q1 q2 q3 q4 q5 iw y0 y1 y2 y3 y4 y5 y6 h1 h2 => c_X4_wipe l D ci am X kr q0 q1 q2 q3 q4 q5 iw kn y0 y1 y2 y3 y4 y5 y6 hA.2.1 hWX h2) gL_law_X4_wipe rfl ⟨rfl, rfl⟩ (by decide +kernel) rfl ⟨(Nat.le_of_ble_eq_true rfl), (Nat.le_of_ble_eq_true rfl)⟩ hE_T trivial hl.1 rfl (Nat.le_of_ble_eq_true rfl) dL_law_1205 hf hS (fun H locs hP hN hS => ?_)
  refine lv_icmp_eq (tgt := 1572) hx hb dL_law_1208 (by decide) (fun _ => ?_) (fun h => absurd rfl h)
  exact kk _ H locs (wf_wipe hWX) hP hN hS

set_option maxHeartbeats 4000000 in
set_option maxRecDepth 100000 in
/-- case 36: text -/
theorem lc_36 {p : Program} {l : Launch} {e : Env} {s : State} {m : MethodId} {below : List Frame} {meth : Method} {c : Code} {H : Heap} {locs : List Loc} {cells slots : Nat} {Q : State → Prop} {b L : Nat} {xs : Nat → Int32} {D : va_G} {ci : Nat → ClassId} {ka : Nat} {adK adV : Nat → Nat} {fx : Nat} {ad am : Nat → Nat} {X : AS} {ls : Array Slot} (C : LC p s m c b L xs D ci ka adK adV fx) (hA : LA s ad am) (hL : L ≤ 3072) {i : Nat} (hi : i + 6 ≤ L) (hWX : WFX X) (hP : LX D ci ad X H) (hN : LN D ci am adK X H) (hS : va_S (lG s) s.heap H locs) (hl : lv_has ls 4 [(3, .int (nI i)), (2, .ref (am 0)), (1, .ref (ad 0)), (0, .ref b)]) (hf : cells ≤ room_1.cells ∧ slots ≤ room_1.slots)
    (kk : ∀ (X : AS) (H : Heap) (locs : List Loc), WFX X → LX D ci ad X H → LN D ci am adK X H → va_S (lG s) s.heap H locs → W p l e room_1 s m #[Value.ref b] below meth c H locs cells slots Q (F0 m 1572 ls [])) : W p l e room_1 s m #[Value.ref b] below meth c H locs cells slots Q (F0 m 1213 ls []) := by
  obtain ⟨hx, hb, hml, hown, hts, hX, hbl, hK, hsS, hsW⟩ := id C
  refine lv_aload_n hx hb dL_law_1213 rfl (lv_at hl 2 rfl) ?_
  refine lw_cX (X2 := (p_text X).2) (v := .int (p_text X).1) (n := 0) (As := []) (rest := []) C hA hP hN (fun T tq la tt z => c_X3_text l D ci (lG s) ka ad X T tq la tt z hA.1 hA.2.2.1 adK adV fx hWX) gL_law_X3_text rfl ⟨rfl, rfl⟩ (by decide +kernel) rfl ⟨(Nat.le_of_ble_eq_true rfl), (Nat.le_of_ble_eq_true rfl)⟩ (hE_S D (ci 0) (lG s) ka adK adV fx) (C.eS hS) hl.1 rfl (Nat.le_of_ble_eq_true rfl) dL_law_1214 hf hS (fun H locs hP hN hS => ?_)
  refine lv_aload_n hx hb dL_law_1217 rfl (lv_at hl 1 rfl) ?_
  refine lw_cN (X2 := (p_text X).2) (v := .int (p_text X).1) (n := 0) (As := []) (rest := [.int (p_text X).1]) C hA hP hN (fun kn kr q0 q1 q2 q3 q4 q5 iw y0 y1 y2 y3 y4 y5 y6 h1 h2 => c_X4_text l D ci am X kr q0 q1 q2 q3 q4 q5 iw kn y0 y1 y2 y3 y4 y5 y6 hA.2.1 (lG s) adK adV fx hWX h2 (fun q ⟨k, z1, z2⟩ => z2 ▸ hA.2.2.2.1 k z1) h1) gL_law_X4_text rfl ⟨rfl, rfl⟩ (by decide +kernel) rfl ⟨(Nat.le_of_ble_eq_true rfl), (Nat.le_of_ble_eq_true rfl)⟩ (hE_W (lG s) adK adV fx rfX) (C.eX hS) hl.1 rfl (Nat.le_of_ble_eq_true rfl) dL_law_1218 hf hS (fun H locs hP hN hS => ?_)
  refine lv_icmp_eq (tgt := 1572) hx hb dL_law_1221 (by decide) (fun _ => ?_) (fun h => absurd rfl h)
  exact kk _ H locs (wf_text hWX) hP hN hS

set_option maxHeartbeats 4000000 in
set_option maxRecDepth 100000 in
/-- case 37: hold -/
theorem lc_37 {p : Program} {l : Launch} {e : Env} {s : State} {m : MethodId} {below : List Frame} {meth : Method} {c : Code} {H : Heap} {locs : List Loc} {cells slots : Nat} {Q : State → Prop} {b L : Nat} {xs : Nat → Int32} {D : va_G} {ci : Nat → ClassId} {ka : Nat} {adK adV : Nat → Nat} {fx : Nat} {ad am : Nat → Nat} {X : AS} {ls : Array Slot} (C : LC p s m c b L xs D ci ka adK adV fx) (hA : LA s ad am) (hL : L ≤ 3072) {i : Nat} (hi : i + 6 ≤ L) (hWX : WFX X) (hP : LX D ci ad X H) (hN : LN D ci am adK X H) (hS : va_S (lG s) s.heap H locs) (hl : lv_has ls 4 [(3, .int (nI i)), (2, .ref (am 0)), (1, .ref (ad 0)), (0, .ref b)]) (hf : cells ≤ room_1.cells ∧ slots ≤ room_1.slots)
    (kk : ∀ (X : AS) (H : Heap) (locs : List Loc), WFX X → LX D ci ad X H → LN D ci am adK X H → va_S (lG s) s.heap H locs → W p l e room_1 s m #[Value.ref b] below meth c H locs cells slots Q (F0 m 1572 ls [])) : W p l e room_1 s m #[Value.ref b] below meth c H locs cells slots Q (F0 m 1226 ls []) := by
  obtain ⟨hx, hb, hml, hown, hts, hX, hbl, hK, hsS, hsW⟩ := id C
  refine lv_aload_n hx hb dL_law_1226 rfl (lv_at hl 2 rfl) ?_
  refine lv_aload_n hx hb dL_law_1227 rfl (lv_at hl 3 rfl) ?_
  refine lv_iload_n hx hb dL_law_1228 rfl (lv_at hl 0 rfl) ?_
  refine lv_iconst (v := nI 1) hx hb dL_law_1229 (by decide) ?_
  refine nv_iadd hx hb dL_law_1230 ?_
  refine nv_sld C hL hS (j := i + 1) (by omega) dL_law_1231 ?_
  refine lv_aload_n hx hb dL_law_1232 rfl (lv_at hl 3 rfl) ?_
  refine lv_iload_n hx hb dL_law_1233 rfl (lv_at hl 0 rfl) ?_
  refine lv_iconst (v := nI 2) hx hb dL_law_1234 (by decide) ?_
  refine nv_iadd hx hb dL_law_1235 ?_
  refine nv_sld C hL hS (j := i + 2) (by omega) dL_law_1236 ?_
  refine lw_cX (X2 := (p_hold X (xs (i + 1)) (xs (i + 2))).2) (v := .int (p_hold X (xs (i + 1)) (xs (i + 2))).1) (n := 2) (As := [.int (xs (i + 1)), .int (xs (i + 2))]) (rest := []) C hA hP hN (fun T tq la tt z => c_X3_hold l D ci (lG s) ka ad X T tq la tt z hA.1 hA.2.2.1 (xs (i + 1)) (xs (i + 2)) hWX) gL_law_X3_hold rfl ⟨rfl, rfl⟩ (by decide +kernel) rfl ⟨(Nat.le_of_ble_eq_true rfl), (Nat.le_of_ble_eq_true rfl)⟩ (hE_en D (ci 0) (lG s) ka) (C.e3 hS) hl.1 rfl (Nat.le_of_ble_eq_true rfl) dL_law_1237 hf hS (fun H locs hP hN hS => ?_)
  refine lv_aload_n hx hb dL_law_1240 rfl (lv_at hl 1 rfl) ?_
  refine lv_aload_n hx hb dL_law_1241 rfl (lv_at hl 3 rfl) ?_
  refine lv_iload_n hx hb dL_law_1242 rfl (lv_at hl 0 rfl) ?_
  refine lv_iconst (v := nI 1) hx hb dL_law_1243 (by decide) ?_
  refine nv_iadd hx hb dL_law_1244 ?_
  refine nv_sld C hL hS (j := i + 1) (by omega) dL_law_1245 ?_
  refine lv_aload_n hx hb dL_law_1246 rfl (lv_at hl 3 rfl) ?_
  refine lv_iload_n hx hb dL_law_1247 rfl (lv_at hl 0 rfl) ?_
  refine lv_iconst (v := nI 2) hx hb dL_law_1248 (by decide) ?_
  refine nv_iadd hx hb dL_law_1249 ?_
  refine nv_sld C hL hS (j := i + 2) (by omega) dL_law_1250 ?_
  refine lw_cN (X2 := (p_hold X (xs (i + 1)) (xs (i + 2))).2) (v := .int (p_hold X (xs (i + 1)) (xs (i + 2))).1) (n := 2) (As := [.int (xs (i + 1)), .int (xs (i + 2))]) (rest := [.int (p_hold X (xs (i + 1)) (xs (i + 2))).1]) C hA hP hN (fun kn kr q0 q1 q2 q3 q4 q5 iw y0 y1 y2 y3 y4 y5 y6 h1 h2 => c_X4_hold l D ci am X kr q0 q1 q2 q3 q4 q5 iw kn y0 y1 y2 y3 y4 y5 y6 hA.2.1 (xs (i + 1)) (xs (i + 2)) hWX h2) gL_law_X4_hold rfl ⟨rfl, rfl⟩ (by decide +kernel) rfl ⟨(Nat.le_of_ble_eq_true rfl), (Nat.le_of_ble_eq_true rfl)⟩ hE_T trivial hl.1 rfl (Nat.le_of_ble_eq_true rfl) dL_law_1251 hf hS (fun H locs hP hN hS => ?_)
  refine lv_icmp_eq (tgt := 1572) hx hb dL_law_1254 (by decide) (fun _ => ?_) (fun h => absurd rfl h)
  exact kk _ H locs (wf_hold hWX (xs (i + 1)) (xs (i + 2))) hP hN hS

set_option maxHeartbeats 4000000 in
set_option maxRecDepth 100000 in
/-- case 38: as -/
theorem lc_38 {p : Program} {l : Launch} {e : Env} {s : State} {m : MethodId} {below : List Frame} {meth : Method} {c : Code} {H : Heap} {locs : List Loc} {cells slots : Nat} {Q : State → Prop} {b L : Nat} {xs : Nat → Int32} {D : va_G} {ci : Nat → ClassId} {ka : Nat} {adK adV : Nat → Nat} {fx : Nat} {ad am : Nat → Nat} {X : AS} {ls : Array Slot} (C : LC p s m c b L xs D ci ka adK adV fx) (hA : LA s ad am) (hL : L ≤ 3072) {i : Nat} (hi : i + 6 ≤ L) (hWX : WFX X) (hP : LX D ci ad X H) (hN : LN D ci am adK X H) (hS : va_S (lG s) s.heap H locs) (hl : lv_has ls 4 [(3, .int (nI i)), (2, .ref (am 0)), (1, .ref (ad 0)), (0, .ref b)]) (hf : cells ≤ room_1.cells ∧ slots ≤ room_1.slots)
    (kk : ∀ (X : AS) (H : Heap) (locs : List Loc), WFX X → LX D ci ad X H → LN D ci am adK X H → va_S (lG s) s.heap H locs → W p l e room_1 s m #[Value.ref b] below meth c H locs cells slots Q (F0 m 1572 ls [])) : W p l e room_1 s m #[Value.ref b] below meth c H locs cells slots Q (F0 m 1259 ls []) := by
  obtain ⟨hx, hb, hml, hown, hts, hX, hbl, hK, hsS, hsW⟩ := id C
  refine lv_aload_n hx hb dL_law_1259 rfl (lv_at hl 2 rfl) ?_
  refine lv_aload_n hx hb dL_law_1260 rfl (lv_at hl 3 rfl) ?_
  refine lv_iload_n hx hb dL_law_1261 rfl (lv_at hl 0 rfl) ?_
  refine lv_iconst (v := nI 1) hx hb dL_law_1262 (by decide) ?_
  refine nv_iadd hx hb dL_law_1263 ?_
  refine nv_sld C hL hS (j := i + 1) (by omega) dL_law_1264 ?_
  refine lv_aload_n hx hb dL_law_1265 rfl (lv_at hl 3 rfl) ?_
  refine lv_iload_n hx hb dL_law_1266 rfl (lv_at hl 0 rfl) ?_
  refine lv_iconst (v := nI 2) hx hb dL_law_1267 (by decide) ?_
  refine nv_iadd hx hb dL_law_1268 ?_
  refine nv_sld C hL hS (j := i + 2) (by omega) dL_law_1269 ?_
  refine lw_cX (X2 := (p_as X (xs (i + 1)) (xs (i + 2))).2) (v := .int (p_as X (xs (i + 1)) (xs (i + 2))).1) (n := 2) (As := [.int (xs (i + 1)), .int (xs (i + 2))]) (rest := []) C hA hP hN (fun T tq la tt z => c_X3_as l D ci (lG s) ka ad X T tq la tt z hA.1 hA.2.2.1 (xs (i + 1)) (xs (i + 2)) hWX) gL_law_X3_as rfl ⟨rfl, rfl⟩ (by decide +kernel) rfl ⟨(Nat.le_of_ble_eq_true rfl), (Nat.le_of_ble_eq_true rfl)⟩ (hE_en D (ci 0) (lG s) ka) (C.e3 hS) hl.1 rfl (Nat.le_of_ble_eq_true rfl) dL_law_1270 hf hS (fun H locs hP hN hS => ?_)
  refine lv_aload_n hx hb dL_law_1273 rfl (lv_at hl 1 rfl) ?_
  refine lv_aload_n hx hb dL_law_1274 rfl (lv_at hl 3 rfl) ?_
  refine lv_iload_n hx hb dL_law_1275 rfl (lv_at hl 0 rfl) ?_
  refine lv_iconst (v := nI 1) hx hb dL_law_1276 (by decide) ?_
  refine nv_iadd hx hb dL_law_1277 ?_
  refine nv_sld C hL hS (j := i + 1) (by omega) dL_law_1278 ?_
  refine lv_aload_n hx hb dL_law_1279 rfl (lv_at hl 3 rfl) ?_
  refine lv_iload_n hx hb dL_law_1280 rfl (lv_at hl 0 rfl) ?_
  refine lv_iconst (v := nI 2) hx hb dL_law_1281 (by decide) ?_
  refine nv_iadd hx hb dL_law_1282 ?_
  refine nv_sld C hL hS (j := i + 2) (by omega) dL_law_1283 ?_
  refine lw_cN (X2 := (p_as X (xs (i + 1)) (xs (i + 2))).2) (v := .int (p_as X (xs (i + 1)) (xs (i + 2))).1) (n := 2) (As := [.int (xs (i + 1)), .int (xs (i + 2))]) (rest := [.int (p_as X (xs (i + 1)) (xs (i + 2))).1]) C hA hP hN (fun kn kr q0 q1 q2 q3 q4 q5 iw y0 y1 y2 y3 y4 y5 y6 h1 h2 => c_X4_as l D ci am X kr q0 q1 q2 q3 q4 q5 iw kn y0 y1 y2 y3 y4 y5 y6 hA.2.1 (xs (i + 1)) (xs (i + 2)) hWX h2) gL_law_X4_as rfl ⟨rfl, rfl⟩ (by decide +kernel) rfl ⟨(Nat.le_of_ble_eq_true rfl), (Nat.le_of_ble_eq_true rfl)⟩ hE_T trivial hl.1 rfl (Nat.le_of_ble_eq_true rfl) dL_law_1284 hf hS (fun H locs hP hN hS => ?_)
  refine lv_icmp_eq (tgt := 1572) hx hb dL_law_1287 (by decide) (fun _ => ?_) (fun h => absurd rfl h)
  exact kk _ H locs (wf_as hWX (xs (i + 1)) (xs (i + 2))) hP hN hS

set_option maxHeartbeats 4000000 in
set_option maxRecDepth 100000 in
/-- case 39: sheet -/
theorem lc_39 {p : Program} {l : Launch} {e : Env} {s : State} {m : MethodId} {below : List Frame} {meth : Method} {c : Code} {H : Heap} {locs : List Loc} {cells slots : Nat} {Q : State → Prop} {b L : Nat} {xs : Nat → Int32} {D : va_G} {ci : Nat → ClassId} {ka : Nat} {adK adV : Nat → Nat} {fx : Nat} {ad am : Nat → Nat} {X : AS} {ls : Array Slot} (C : LC p s m c b L xs D ci ka adK adV fx) (hA : LA s ad am) (hL : L ≤ 3072) {i : Nat} (hi : i + 6 ≤ L) (hWX : WFX X) (hP : LX D ci ad X H) (hN : LN D ci am adK X H) (hS : va_S (lG s) s.heap H locs) (hl : lv_has ls 4 [(3, .int (nI i)), (2, .ref (am 0)), (1, .ref (ad 0)), (0, .ref b)]) (hf : cells ≤ room_1.cells ∧ slots ≤ room_1.slots)
    (kk : ∀ (X : AS) (H : Heap) (locs : List Loc), WFX X → LX D ci ad X H → LN D ci am adK X H → va_S (lG s) s.heap H locs → W p l e room_1 s m #[Value.ref b] below meth c H locs cells slots Q (F0 m 1572 ls [])) : W p l e room_1 s m #[Value.ref b] below meth c H locs cells slots Q (F0 m 1292 ls []) := by
  obtain ⟨hx, hb, hml, hown, hts, hX, hbl, hK, hsS, hsW⟩ := id C
  refine lv_aload_n hx hb dL_law_1292 rfl (lv_at hl 2 rfl) ?_
  refine lv_aload_n hx hb dL_law_1293 rfl (lv_at hl 3 rfl) ?_
  refine lv_iload_n hx hb dL_law_1294 rfl (lv_at hl 0 rfl) ?_
  refine lv_iconst (v := nI 1) hx hb dL_law_1295 (by decide) ?_
  refine nv_iadd hx hb dL_law_1296 ?_
  refine nv_sld C hL hS (j := i + 1) (by omega) dL_law_1297 ?_
  refine lv_aload_n hx hb dL_law_1298 rfl (lv_at hl 3 rfl) ?_
  refine lv_iload_n hx hb dL_law_1299 rfl (lv_at hl 0 rfl) ?_
  refine lv_iconst (v := nI 2) hx hb dL_law_1300 (by decide) ?_
  refine nv_iadd hx hb dL_law_1301 ?_
  refine nv_sld C hL hS (j := i + 2) (by omega) dL_law_1302 ?_
  refine lv_aload_n hx hb dL_law_1303 rfl (lv_at hl 3 rfl) ?_
  refine lv_iload_n hx hb dL_law_1304 rfl (lv_at hl 0 rfl) ?_
  refine lv_iconst (v := nI 3) hx hb dL_law_1305 (by decide) ?_
  refine nv_iadd hx hb dL_law_1306 ?_
  refine nv_sld C hL hS (j := i + 3) (by omega) dL_law_1307 ?_
  refine lw_cX (X2 := (p_sheet X (xs (i + 1)) (xs (i + 2)) (xs (i + 3))).2) (v := .int (p_sheet X (xs (i + 1)) (xs (i + 2)) (xs (i + 3))).1) (n := 3) (As := [.int (xs (i + 1)), .int (xs (i + 2)), .int (xs (i + 3))]) (rest := []) C hA hP hN (fun T tq la tt z => c_X3_sheet l D ci (lG s) ka ad X T tq la tt z hA.1 hA.2.2.1 (xs (i + 1)) (xs (i + 2)) (xs (i + 3)) hWX) gL_law_X3_sheet rfl ⟨rfl, rfl⟩ (by decide +kernel) rfl ⟨(Nat.le_of_ble_eq_true rfl), (Nat.le_of_ble_eq_true rfl)⟩ (hE_en D (ci 0) (lG s) ka) (C.e3 hS) hl.1 rfl (Nat.le_of_ble_eq_true rfl) dL_law_1308 hf hS (fun H locs hP hN hS => ?_)
  refine lv_aload_n hx hb dL_law_1311 rfl (lv_at hl 1 rfl) ?_
  refine lv_aload_n hx hb dL_law_1312 rfl (lv_at hl 3 rfl) ?_
  refine lv_iload_n hx hb dL_law_1313 rfl (lv_at hl 0 rfl) ?_
  refine lv_iconst (v := nI 1) hx hb dL_law_1314 (by decide) ?_
  refine nv_iadd hx hb dL_law_1315 ?_
  refine nv_sld C hL hS (j := i + 1) (by omega) dL_law_1316 ?_
  refine lv_aload_n hx hb dL_law_1317 rfl (lv_at hl 3 rfl) ?_
  refine lv_iload_n hx hb dL_law_1318 rfl (lv_at hl 0 rfl) ?_
  refine lv_iconst (v := nI 2) hx hb dL_law_1319 (by decide) ?_
  refine nv_iadd hx hb dL_law_1320 ?_
  refine nv_sld C hL hS (j := i + 2) (by omega) dL_law_1321 ?_
  refine lv_aload_n hx hb dL_law_1322 rfl (lv_at hl 3 rfl) ?_
  refine lv_iload_n hx hb dL_law_1323 rfl (lv_at hl 0 rfl) ?_
  refine lv_iconst (v := nI 3) hx hb dL_law_1324 (by decide) ?_
  refine nv_iadd hx hb dL_law_1325 ?_
  refine nv_sld C hL hS (j := i + 3) (by omega) dL_law_1326 ?_
  refine lw_cN (X2 := (p_sheet X (xs (i + 1)) (xs (i + 2)) (xs (i + 3))).2) (v := .int (p_sheet X (xs (i + 1)) (xs (i + 2)) (xs (i + 3))).1) (n := 3) (As := [.int (xs (i + 1)), .int (xs (i + 2)), .int (xs (i + 3))]) (rest := [.int (p_sheet X (xs (i + 1)) (xs (i + 2)) (xs (i + 3))).1]) C hA hP hN (fun kn kr q0 q1 q2 q3 q4 q5 iw y0 y1 y2 y3 y4 y5 y6 h1 h2 => c_X4_sheet l D ci am X kr q0 q1 q2 q3 q4 q5 iw kn y0 y1 y2 y3 y4 y5 y6 hA.2.1 (xs (i + 1)) (xs (i + 2)) (xs (i + 3)) hWX h2) gL_law_X4_sheet rfl ⟨rfl, rfl⟩ (by decide +kernel) rfl ⟨(Nat.le_of_ble_eq_true rfl), (Nat.le_of_ble_eq_true rfl)⟩ hE_T trivial hl.1 rfl (Nat.le_of_ble_eq_true rfl) dL_law_1327 hf hS (fun H locs hP hN hS => ?_)
  refine lv_icmp_eq (tgt := 1572) hx hb dL_law_1330 (by decide) (fun _ => ?_) (fun h => absurd rfl h)
  exact kk _ H locs (wf_sheet hWX (xs (i + 1)) (xs (i + 2)) (xs (i + 3))) hP hN hS

set_option maxHeartbeats 4000000 in
set_option maxRecDepth 100000 in
/-- case 40: write -/
theorem lc_40 {p : Program} {l : Launch} {e : Env} {s : State} {m : MethodId} {below : List Frame} {meth : Method} {c : Code} {H : Heap} {locs : List Loc} {cells slots : Nat} {Q : State → Prop} {b L : Nat} {xs : Nat → Int32} {D : va_G} {ci : Nat → ClassId} {ka : Nat} {adK adV : Nat → Nat} {fx : Nat} {ad am : Nat → Nat} {X : AS} {ls : Array Slot} (C : LC p s m c b L xs D ci ka adK adV fx) (hA : LA s ad am) (hL : L ≤ 3072) {i : Nat} (hi : i + 6 ≤ L) (hWX : WFX X) (hP : LX D ci ad X H) (hN : LN D ci am adK X H) (hS : va_S (lG s) s.heap H locs) (hl : lv_has ls 4 [(3, .int (nI i)), (2, .ref (am 0)), (1, .ref (ad 0)), (0, .ref b)]) (hf : cells ≤ room_1.cells ∧ slots ≤ room_1.slots)
    (kk : ∀ (X : AS) (H : Heap) (locs : List Loc), WFX X → LX D ci ad X H → LN D ci am adK X H → va_S (lG s) s.heap H locs → W p l e room_1 s m #[Value.ref b] below meth c H locs cells slots Q (F0 m 1572 ls [])) : W p l e room_1 s m #[Value.ref b] below meth c H locs cells slots Q (F0 m 1335 ls []) := by
  obtain ⟨hx, hb, hml, hown, hts, hX, hbl, hK, hsS, hsW⟩ := id C
  refine lv_aload_n hx hb dL_law_1335 rfl (lv_at hl 2 rfl) ?_
  refine lv_aload_n hx hb dL_law_1336 rfl (lv_at hl 3 rfl) ?_
  refine lv_iload_n hx hb dL_law_1337 rfl (lv_at hl 0 rfl) ?_
  refine lv_iconst (v := nI 1) hx hb dL_law_1338 (by decide) ?_
  refine nv_iadd hx hb dL_law_1339 ?_
  refine nv_sld C hL hS (j := i + 1) (by omega) dL_law_1340 ?_
  refine lv_aload_n hx hb dL_law_1341 rfl (lv_at hl 3 rfl) ?_
  refine lv_iload_n hx hb dL_law_1342 rfl (lv_at hl 0 rfl) ?_
  refine lv_iconst (v := nI 2) hx hb dL_law_1343 (by decide) ?_
  refine nv_iadd hx hb dL_law_1344 ?_
  refine nv_sld C hL hS (j := i + 2) (by omega) dL_law_1345 ?_
  refine lv_aload_n hx hb dL_law_1346 rfl (lv_at hl 3 rfl) ?_
  refine lv_iload_n hx hb dL_law_1347 rfl (lv_at hl 0 rfl) ?_
  refine lv_iconst (v := nI 3) hx hb dL_law_1348 (by decide) ?_
  refine nv_iadd hx hb dL_law_1349 ?_
  refine nv_sld C hL hS (j := i + 3) (by omega) dL_law_1350 ?_
  refine lw_cX (X2 := (p_write X (xs (i + 1)) (xs (i + 2)) (xs (i + 3))).2) (v := .int (p_write X (xs (i + 1)) (xs (i + 2)) (xs (i + 3))).1) (n := 3) (As := [.int (xs (i + 1)), .int (xs (i + 2)), .int (xs (i + 3))]) (rest := []) C hA hP hN (fun T tq la tt z => c_X3_write l D ci (lG s) ka ad X T tq la tt z hA.1 hA.2.2.1 (xs (i + 1)) (xs (i + 2)) (xs (i + 3)) hWX) gL_law_X3_write rfl ⟨rfl, rfl⟩ (by decide +kernel) rfl ⟨(Nat.le_of_ble_eq_true rfl), (Nat.le_of_ble_eq_true rfl)⟩ (hE_en D (ci 0) (lG s) ka) (C.e3 hS) hl.1 rfl (Nat.le_of_ble_eq_true rfl) dL_law_1351 hf hS (fun H locs hP hN hS => ?_)
  refine lv_aload_n hx hb dL_law_1354 rfl (lv_at hl 1 rfl) ?_
  refine lv_aload_n hx hb dL_law_1355 rfl (lv_at hl 3 rfl) ?_
  refine lv_iload_n hx hb dL_law_1356 rfl (lv_at hl 0 rfl) ?_
  refine lv_iconst (v := nI 1) hx hb dL_law_1357 (by decide) ?_
  refine nv_iadd hx hb dL_law_1358 ?_
  refine nv_sld C hL hS (j := i + 1) (by omega) dL_law_1359 ?_
  refine lv_aload_n hx hb dL_law_1360 rfl (lv_at hl 3 rfl) ?_
  refine lv_iload_n hx hb dL_law_1361 rfl (lv_at hl 0 rfl) ?_
  refine lv_iconst (v := nI 2) hx hb dL_law_1362 (by decide) ?_
  refine nv_iadd hx hb dL_law_1363 ?_
  refine nv_sld C hL hS (j := i + 2) (by omega) dL_law_1364 ?_
  refine lv_aload_n hx hb dL_law_1365 rfl (lv_at hl 3 rfl) ?_
  refine lv_iload_n hx hb dL_law_1366 rfl (lv_at hl 0 rfl) ?_
  refine lv_iconst (v := nI 3) hx hb dL_law_1367 (by decide) ?_
  refine nv_iadd hx hb dL_law_1368 ?_
  refine nv_sld C hL hS (j := i + 3) (by omega) dL_law_1369 ?_
  refine lw_cN (X2 := (p_write X (xs (i + 1)) (xs (i + 2)) (xs (i + 3))).2) (v := .int (p_write X (xs (i + 1)) (xs (i + 2)) (xs (i + 3))).1) (n := 3) (As := [.int (xs (i + 1)), .int (xs (i + 2)), .int (xs (i + 3))]) (rest := [.int (p_write X (xs (i + 1)) (xs (i + 2)) (xs (i + 3))).1]) C hA hP hN (fun kn kr q0 q1 q2 q3 q4 q5 iw y0 y1 y2 y3 y4 y5 y6 h1 h2 => c_X4_write l D ci am X kr q0 q1 q2 q3 q4 q5 iw kn y0 y1 y2 y3 y4 y5 y6 hA.2.1 (xs (i + 1)) (xs (i + 2)) (xs (i + 3)) hWX h2) gL_law_X4_write rfl ⟨rfl, rfl⟩ (by decide +kernel) rfl ⟨(Nat.le_of_ble_eq_true rfl), (Nat.le_of_ble_eq_true rfl)⟩ hE_T trivial hl.1 rfl (Nat.le_of_ble_eq_true rfl) dL_law_1370 hf hS (fun H locs hP hN hS => ?_)
  refine lv_icmp_eq (tgt := 1572) hx hb dL_law_1373 (by decide) (fun _ => ?_) (fun h => absurd rfl h)
  exact kk _ H locs (wf_write hWX (xs (i + 1)) (xs (i + 2)) (xs (i + 3))) hP hN hS

set_option maxHeartbeats 4000000 in
set_option maxRecDepth 100000 in
/-- case 41: copy -/
theorem lc_41 {p : Program} {l : Launch} {e : Env} {s : State} {m : MethodId} {below : List Frame} {meth : Method} {c : Code} {H : Heap} {locs : List Loc} {cells slots : Nat} {Q : State → Prop} {b L : Nat} {xs : Nat → Int32} {D : va_G} {ci : Nat → ClassId} {ka : Nat} {adK adV : Nat → Nat} {fx : Nat} {ad am : Nat → Nat} {X : AS} {ls : Array Slot} (C : LC p s m c b L xs D ci ka adK adV fx) (hA : LA s ad am) (hL : L ≤ 3072) {i : Nat} (hi : i + 6 ≤ L) (hWX : WFX X) (hP : LX D ci ad X H) (hN : LN D ci am adK X H) (hS : va_S (lG s) s.heap H locs) (hl : lv_has ls 4 [(3, .int (nI i)), (2, .ref (am 0)), (1, .ref (ad 0)), (0, .ref b)]) (hf : cells ≤ room_1.cells ∧ slots ≤ room_1.slots)
    (kk : ∀ (X : AS) (H : Heap) (locs : List Loc), WFX X → LX D ci ad X H → LN D ci am adK X H → va_S (lG s) s.heap H locs → W p l e room_1 s m #[Value.ref b] below meth c H locs cells slots Q (F0 m 1572 ls [])) : W p l e room_1 s m #[Value.ref b] below meth c H locs cells slots Q (F0 m 1378 ls []) := by
  obtain ⟨hx, hb, hml, hown, hts, hX, hbl, hK, hsS, hsW⟩ := id C
  refine lv_aload_n hx hb dL_law_1378 rfl (lv_at hl 2 rfl) ?_
  refine lv_aload_n hx hb dL_law_1379 rfl (lv_at hl 3 rfl) ?_
  refine lv_iload_n hx hb dL_law_1380 rfl (lv_at hl 0 rfl) ?_
  refine lv_iconst (v := nI 1) hx hb dL_law_1381 (by decide) ?_
  refine nv_iadd hx hb dL_law_1382 ?_
  refine nv_sld C hL hS (j := i + 1) (by omega) dL_law_1383 ?_
  refine lv_aload_n hx hb dL_law_1384 rfl (lv_at hl 3 rfl) ?_
  refine lv_iload_n hx hb dL_law_1385 rfl (lv_at hl 0 rfl) ?_
  refine lv_iconst (v := nI 2) hx hb dL_law_1386 (by decide) ?_
  refine nv_iadd hx hb dL_law_1387 ?_
  refine nv_sld C hL hS (j := i + 2) (by omega) dL_law_1388 ?_
  refine lv_aload_n hx hb dL_law_1389 rfl (lv_at hl 3 rfl) ?_
  refine lv_iload_n hx hb dL_law_1390 rfl (lv_at hl 0 rfl) ?_
  refine lv_iconst (v := nI 3) hx hb dL_law_1391 (by decide) ?_
  refine nv_iadd hx hb dL_law_1392 ?_
  refine nv_sld C hL hS (j := i + 3) (by omega) dL_law_1393 ?_
  refine lv_aload_n hx hb dL_law_1394 rfl (lv_at hl 3 rfl) ?_
  refine lv_iload_n hx hb dL_law_1395 rfl (lv_at hl 0 rfl) ?_
  refine lv_iconst (v := nI 4) hx hb dL_law_1396 (by decide) ?_
  refine nv_iadd hx hb dL_law_1397 ?_
  refine nv_sld C hL hS (j := i + 4) (by omega) dL_law_1398 ?_
  refine lv_aload_n hx hb dL_law_1399 rfl (lv_at hl 3 rfl) ?_
  refine lv_iload_n hx hb dL_law_1400 rfl (lv_at hl 0 rfl) ?_
  refine lv_iconst (v := nI 5) hx hb dL_law_1401 (by decide) ?_
  refine nv_iadd hx hb dL_law_1402 ?_
  refine nv_sld C hL hS (j := i + 5) (by omega) dL_law_1403 ?_
  refine lw_cX (X2 := (p_copy X (xs (i + 1)) (xs (i + 2)) (xs (i + 3)) (xs (i + 4)) (xs (i + 5))).2) (v := .int (p_copy X (xs (i + 1)) (xs (i + 2)) (xs (i + 3)) (xs (i + 4)) (xs (i + 5))).1) (n := 5) (As := [.int (xs (i + 1)), .int (xs (i + 2)), .int (xs (i + 3)), .int (xs (i + 4)), .int (xs (i + 5))]) (rest := []) C hA hP hN (fun T tq la tt z => c_X3_copy l D ci (lG s) ka ad X T tq la tt z hA.1 hA.2.2.1 (xs (i + 1)) (xs (i + 2)) (xs (i + 3)) (xs (i + 4)) (xs (i + 5)) hWX) gL_law_X3_copy rfl ⟨rfl, rfl⟩ (by decide +kernel) rfl ⟨(Nat.le_of_ble_eq_true rfl), (Nat.le_of_ble_eq_true rfl)⟩ (hE_en D (ci 0) (lG s) ka) (C.e3 hS) hl.1 rfl (Nat.le_of_ble_eq_true rfl) dL_law_1404 hf hS (fun H locs hP hN hS => ?_)
  refine lv_aload_n hx hb dL_law_1407 rfl (lv_at hl 1 rfl) ?_
  refine lv_aload_n hx hb dL_law_1408 rfl (lv_at hl 3 rfl) ?_
  refine lv_iload_n hx hb dL_law_1409 rfl (lv_at hl 0 rfl) ?_
  refine lv_iconst (v := nI 1) hx hb dL_law_1410 (by decide) ?_
  refine nv_iadd hx hb dL_law_1411 ?_
  refine nv_sld C hL hS (j := i + 1) (by omega) dL_law_1412 ?_
  refine lv_aload_n hx hb dL_law_1413 rfl (lv_at hl 3 rfl) ?_
  refine lv_iload_n hx hb dL_law_1414 rfl (lv_at hl 0 rfl) ?_
  refine lv_iconst (v := nI 2) hx hb dL_law_1415 (by decide) ?_
  refine nv_iadd hx hb dL_law_1416 ?_
  refine nv_sld C hL hS (j := i + 2) (by omega) dL_law_1417 ?_
  refine lv_aload_n hx hb dL_law_1418 rfl (lv_at hl 3 rfl) ?_
  refine lv_iload_n hx hb dL_law_1419 rfl (lv_at hl 0 rfl) ?_
  refine lv_iconst (v := nI 3) hx hb dL_law_1420 (by decide) ?_
  refine nv_iadd hx hb dL_law_1421 ?_
  refine nv_sld C hL hS (j := i + 3) (by omega) dL_law_1422 ?_
  refine lv_aload_n hx hb dL_law_1423 rfl (lv_at hl 3 rfl) ?_
  refine lv_iload_n hx hb dL_law_1424 rfl (lv_at hl 0 rfl) ?_
  refine lv_iconst (v := nI 4) hx hb dL_law_1425 (by decide) ?_
  refine nv_iadd hx hb dL_law_1426 ?_
  refine nv_sld C hL hS (j := i + 4) (by omega) dL_law_1427 ?_
  refine lv_aload_n hx hb dL_law_1428 rfl (lv_at hl 3 rfl) ?_
  refine lv_iload_n hx hb dL_law_1429 rfl (lv_at hl 0 rfl) ?_
  refine lv_iconst (v := nI 5) hx hb dL_law_1430 (by decide) ?_
  refine nv_iadd hx hb dL_law_1431 ?_
  refine nv_sld C hL hS (j := i + 5) (by omega) dL_law_1432 ?_
  refine lw_cN (X2 := (p_copy X (xs (i + 1)) (xs (i + 2)) (xs (i + 3)) (xs (i + 4)) (xs (i + 5))).2) (v := .int (p_copy X (xs (i + 1)) (xs (i + 2)) (xs (i + 3)) (xs (i + 4)) (xs (i + 5))).1) (n := 5) (As := [.int (xs (i + 1)), .int (xs (i + 2)), .int (xs (i + 3)), .int (xs (i + 4)), .int (xs (i + 5))]) (rest := [.int (p_copy X (xs (i + 1)) (xs (i + 2)) (xs (i + 3)) (xs (i + 4)) (xs (i + 5))).1]) C hA hP hN (fun kn kr q0 q1 q2 q3 q4 q5 iw y0 y1 y2 y3 y4 y5 y6 h1 h2 => c_X4_copy l D ci am X kr q0 q1 q2 q3 q4 q5 iw kn y0 y1 y2 y3 y4 y5 y6 hA.2.1 (xs (i + 1)) (xs (i + 2)) (xs (i + 3)) (xs (i + 4)) (xs (i + 5)) hWX h2) gL_law_X4_copy rfl ⟨rfl, rfl⟩ (by decide +kernel) rfl ⟨(Nat.le_of_ble_eq_true rfl), (Nat.le_of_ble_eq_true rfl)⟩ hE_T trivial hl.1 rfl (Nat.le_of_ble_eq_true rfl) dL_law_1433 hf hS (fun H locs hP hN hS => ?_)
  refine lv_icmp_eq (tgt := 1572) hx hb dL_law_1436 (by decide) (fun _ => ?_) (fun h => absurd rfl h)
  exact kk _ H locs (wf_copy hWX (xs (i + 1)) (xs (i + 2)) (xs (i + 3)) (xs (i + 4)) (xs (i + 5))) hP hN hS

set_option maxHeartbeats 4000000 in
set_option maxRecDepth 100000 in
/-- case 42: load -/
theorem lc_42 {p : Program} {l : Launch} {e : Env} {s : State} {m : MethodId} {below : List Frame} {meth : Method} {c : Code} {H : Heap} {locs : List Loc} {cells slots : Nat} {Q : State → Prop} {b L : Nat} {xs : Nat → Int32} {D : va_G} {ci : Nat → ClassId} {ka : Nat} {adK adV : Nat → Nat} {fx : Nat} {ad am : Nat → Nat} {X : AS} {ls : Array Slot} (C : LC p s m c b L xs D ci ka adK adV fx) (hA : LA s ad am) (hL : L ≤ 3072) {i : Nat} (hi : i + 6 ≤ L) (hWX : WFX X) (hP : LX D ci ad X H) (hN : LN D ci am adK X H) (hS : va_S (lG s) s.heap H locs) (hl : lv_has ls 4 [(3, .int (nI i)), (2, .ref (am 0)), (1, .ref (ad 0)), (0, .ref b)]) (hf : cells ≤ room_1.cells ∧ slots ≤ room_1.slots)
    (kk : ∀ (X : AS) (H : Heap) (locs : List Loc), WFX X → LX D ci ad X H → LN D ci am adK X H → va_S (lG s) s.heap H locs → W p l e room_1 s m #[Value.ref b] below meth c H locs cells slots Q (F0 m 1572 ls [])) : W p l e room_1 s m #[Value.ref b] below meth c H locs cells slots Q (F0 m 1441 ls []) := by
  obtain ⟨hx, hb, hml, hown, hts, hX, hbl, hK, hsS, hsW⟩ := id C
  refine lv_aload_n hx hb dL_law_1441 rfl (lv_at hl 2 rfl) ?_
  refine lv_aload_n hx hb dL_law_1442 rfl (lv_at hl 3 rfl) ?_
  refine lv_iload_n hx hb dL_law_1443 rfl (lv_at hl 0 rfl) ?_
  refine lv_iconst (v := nI 1) hx hb dL_law_1444 (by decide) ?_
  refine nv_iadd hx hb dL_law_1445 ?_
  refine nv_sld C hL hS (j := i + 1) (by omega) dL_law_1446 ?_
  refine lw_cX (X2 := (p_load X (xs (i + 1))).2) (v := .int (p_load X (xs (i + 1))).1) (n := 1) (As := [.int (xs (i + 1))]) (rest := []) C hA hP hN (fun T tq la tt z => c_X3_load l D ci (lG s) ka ad X T tq la tt z hA.1 hA.2.2.1 (xs (i + 1)) hWX) gL_law_X3_load rfl ⟨rfl, rfl⟩ (by decide +kernel) rfl ⟨(Nat.le_of_ble_eq_true rfl), (Nat.le_of_ble_eq_true rfl)⟩ (hE_en D (ci 0) (lG s) ka) (C.e3 hS) hl.1 rfl (Nat.le_of_ble_eq_true rfl) dL_law_1447 hf hS (fun H locs hP hN hS => ?_)
  refine lv_aload_n hx hb dL_law_1450 rfl (lv_at hl 1 rfl) ?_
  refine lv_aload_n hx hb dL_law_1451 rfl (lv_at hl 3 rfl) ?_
  refine lv_iload_n hx hb dL_law_1452 rfl (lv_at hl 0 rfl) ?_
  refine lv_iconst (v := nI 1) hx hb dL_law_1453 (by decide) ?_
  refine nv_iadd hx hb dL_law_1454 ?_
  refine nv_sld C hL hS (j := i + 1) (by omega) dL_law_1455 ?_
  refine lw_cN (X2 := (p_load X (xs (i + 1))).2) (v := .int (p_load X (xs (i + 1))).1) (n := 1) (As := [.int (xs (i + 1))]) (rest := [.int (p_load X (xs (i + 1))).1]) C hA hP hN (fun kn kr q0 q1 q2 q3 q4 q5 iw y0 y1 y2 y3 y4 y5 y6 h1 h2 => c_X4_load l D ci am X kr q0 q1 q2 q3 q4 q5 iw kn y0 y1 y2 y3 y4 y5 y6 hA.2.1 (xs (i + 1)) hWX h2) gL_law_X4_load rfl ⟨rfl, rfl⟩ (by decide +kernel) rfl ⟨(Nat.le_of_ble_eq_true rfl), (Nat.le_of_ble_eq_true rfl)⟩ hE_T trivial hl.1 rfl (Nat.le_of_ble_eq_true rfl) dL_law_1456 hf hS (fun H locs hP hN hS => ?_)
  refine lv_icmp_eq (tgt := 1572) hx hb dL_law_1459 (by decide) (fun _ => ?_) (fun h => absurd rfl h)
  exact kk _ H locs (wf_load hWX (xs (i + 1))) hP hN hS

set_option maxHeartbeats 4000000 in
set_option maxRecDepth 100000 in
/-- case 43: judge -/
theorem lc_43 {p : Program} {l : Launch} {e : Env} {s : State} {m : MethodId} {below : List Frame} {meth : Method} {c : Code} {H : Heap} {locs : List Loc} {cells slots : Nat} {Q : State → Prop} {b L : Nat} {xs : Nat → Int32} {D : va_G} {ci : Nat → ClassId} {ka : Nat} {adK adV : Nat → Nat} {fx : Nat} {ad am : Nat → Nat} {X : AS} {ls : Array Slot} (C : LC p s m c b L xs D ci ka adK adV fx) (hA : LA s ad am) (hL : L ≤ 3072) {i : Nat} (hi : i + 6 ≤ L) (hWX : WFX X) (hP : LX D ci ad X H) (hN : LN D ci am adK X H) (hS : va_S (lG s) s.heap H locs) (hl : lv_has ls 4 [(3, .int (nI i)), (2, .ref (am 0)), (1, .ref (ad 0)), (0, .ref b)]) (hf : cells ≤ room_1.cells ∧ slots ≤ room_1.slots)
    (kk : ∀ (X : AS) (H : Heap) (locs : List Loc), WFX X → LX D ci ad X H → LN D ci am adK X H → va_S (lG s) s.heap H locs → W p l e room_1 s m #[Value.ref b] below meth c H locs cells slots Q (F0 m 1572 ls [])) : W p l e room_1 s m #[Value.ref b] below meth c H locs cells slots Q (F0 m 1464 ls []) := by
  obtain ⟨hx, hb, hml, hown, hts, hX, hbl, hK, hsS, hsW⟩ := id C
  refine lv_aload_n hx hb dL_law_1464 rfl (lv_at hl 2 rfl) ?_
  refine lv_aload_n hx hb dL_law_1465 rfl (lv_at hl 3 rfl) ?_
  refine lv_iload_n hx hb dL_law_1466 rfl (lv_at hl 0 rfl) ?_
  refine lv_iconst (v := nI 1) hx hb dL_law_1467 (by decide) ?_
  refine nv_iadd hx hb dL_law_1468 ?_
  refine nv_sld C hL hS (j := i + 1) (by omega) dL_law_1469 ?_
  refine lw_cX (X2 := (p_judge X (xs (i + 1))).2) (v := .int (p_judge X (xs (i + 1))).1) (n := 1) (As := [.int (xs (i + 1))]) (rest := []) C hA hP hN (fun T tq la tt z => c_X3_judge l D ci (lG s) ka ad X T tq la tt z hA.1 hA.2.2.1 (xs (i + 1)) hWX) gL_law_X3_judge rfl ⟨rfl, rfl⟩ (by decide +kernel) rfl ⟨(Nat.le_of_ble_eq_true rfl), (Nat.le_of_ble_eq_true rfl)⟩ (hE_en D (ci 0) (lG s) ka) (C.e3 hS) hl.1 rfl (Nat.le_of_ble_eq_true rfl) dL_law_1470 hf hS (fun H locs hP hN hS => ?_)
  refine lv_aload_n hx hb dL_law_1473 rfl (lv_at hl 1 rfl) ?_
  refine lv_aload_n hx hb dL_law_1474 rfl (lv_at hl 3 rfl) ?_
  refine lv_iload_n hx hb dL_law_1475 rfl (lv_at hl 0 rfl) ?_
  refine lv_iconst (v := nI 1) hx hb dL_law_1476 (by decide) ?_
  refine nv_iadd hx hb dL_law_1477 ?_
  refine nv_sld C hL hS (j := i + 1) (by omega) dL_law_1478 ?_
  refine lw_cN (X2 := (p_judge X (xs (i + 1))).2) (v := .int (p_judge X (xs (i + 1))).1) (n := 1) (As := [.int (xs (i + 1))]) (rest := [.int (p_judge X (xs (i + 1))).1]) C hA hP hN (fun kn kr q0 q1 q2 q3 q4 q5 iw y0 y1 y2 y3 y4 y5 y6 h1 h2 => c_X4_judge l D ci am X kr q0 q1 q2 q3 q4 q5 iw kn y0 y1 y2 y3 y4 y5 y6 hA.2.1 (xs (i + 1)) hWX h2) gL_law_X4_judge rfl ⟨rfl, rfl⟩ (by decide +kernel) rfl ⟨(Nat.le_of_ble_eq_true rfl), (Nat.le_of_ble_eq_true rfl)⟩ hE_T trivial hl.1 rfl (Nat.le_of_ble_eq_true rfl) dL_law_1479 hf hS (fun H locs hP hN hS => ?_)
  refine lv_icmp_eq (tgt := 1572) hx hb dL_law_1482 (by decide) (fun _ => ?_) (fun h => absurd rfl h)
  exact kk _ H locs (wf_judge hWX (xs (i + 1))) hP hN hS

set_option maxHeartbeats 4000000 in
set_option maxRecDepth 100000 in
/-- case 44: image -/
theorem lc_44 {p : Program} {l : Launch} {e : Env} {s : State} {m : MethodId} {below : List Frame} {meth : Method} {c : Code} {H : Heap} {locs : List Loc} {cells slots : Nat} {Q : State → Prop} {b L : Nat} {xs : Nat → Int32} {D : va_G} {ci : Nat → ClassId} {ka : Nat} {adK adV : Nat → Nat} {fx : Nat} {ad am : Nat → Nat} {X : AS} {ls : Array Slot} (C : LC p s m c b L xs D ci ka adK adV fx) (hA : LA s ad am) (hL : L ≤ 3072) {i : Nat} (hi : i + 6 ≤ L) (hWX : WFX X) (hP : LX D ci ad X H) (hN : LN D ci am adK X H) (hS : va_S (lG s) s.heap H locs) (hl : lv_has ls 4 [(3, .int (nI i)), (2, .ref (am 0)), (1, .ref (ad 0)), (0, .ref b)]) (hf : cells ≤ room_1.cells ∧ slots ≤ room_1.slots)
    (kk : ∀ (X : AS) (H : Heap) (locs : List Loc), WFX X → LX D ci ad X H → LN D ci am adK X H → va_S (lG s) s.heap H locs → W p l e room_1 s m #[Value.ref b] below meth c H locs cells slots Q (F0 m 1572 ls [])) : W p l e room_1 s m #[Value.ref b] below meth c H locs cells slots Q (F0 m 1487 ls []) := by
  obtain ⟨hx, hb, hml, hown, hts, hX, hbl, hK, hsS, hsW⟩ := id C
  refine lv_aload_n hx hb dL_law_1487 rfl (lv_at hl 2 rfl) ?_
  refine lw_cX (X2 := (p_image X).2) (v := .int (p_image X).1) (n := 0) (As := []) (rest := []) C hA hP hN (fun T tq la tt z => c_X3_image l D ci (lG s) ka ad X T tq la tt z hA.1 hA.2.2.1 hWX) gL_law_X3_image rfl ⟨rfl, rfl⟩ (by decide +kernel) rfl ⟨(Nat.le_of_ble_eq_true rfl), (Nat.le_of_ble_eq_true rfl)⟩ (hE_en D (ci 0) (lG s) ka) (C.e3 hS) hl.1 rfl (Nat.le_of_ble_eq_true rfl) dL_law_1488 hf hS (fun H locs hP hN hS => ?_)
  refine lv_aload_n hx hb dL_law_1491 rfl (lv_at hl 1 rfl) ?_
  refine lw_cN (X2 := (p_image X).2) (v := .int (p_image X).1) (n := 0) (As := []) (rest := [.int (p_image X).1]) C hA hP hN (fun kn kr q0 q1 q2 q3 q4 q5 iw y0 y1 y2 y3 y4 y5 y6 h1 h2 => c_X4_image l D ci am X kr q0 q1 q2 q3 q4 q5 iw kn y0 y1 y2 y3 y4 y5 y6 hA.2.1 hWX h2) gL_law_X4_image rfl ⟨rfl, rfl⟩ (by decide +kernel) rfl ⟨(Nat.le_of_ble_eq_true rfl), (Nat.le_of_ble_eq_true rfl)⟩ hE_T trivial hl.1 rfl (Nat.le_of_ble_eq_true rfl) dL_law_1492 hf hS (fun H locs hP hN hS => ?_)
  refine lv_icmp_eq (tgt := 1572) hx hb dL_law_1495 (by decide) (fun _ => ?_) (fun h => absurd rfl h)
  exact kk _ H locs (wf_image hWX) hP hN hS

set_option maxHeartbeats 4000000 in
set_option maxRecDepth 100000 in
/-- case 45: undo -/
theorem lc_45 {p : Program} {l : Launch} {e : Env} {s : State} {m : MethodId} {below : List Frame} {meth : Method} {c : Code} {H : Heap} {locs : List Loc} {cells slots : Nat} {Q : State → Prop} {b L : Nat} {xs : Nat → Int32} {D : va_G} {ci : Nat → ClassId} {ka : Nat} {adK adV : Nat → Nat} {fx : Nat} {ad am : Nat → Nat} {X : AS} {ls : Array Slot} (C : LC p s m c b L xs D ci ka adK adV fx) (hA : LA s ad am) (hL : L ≤ 3072) {i : Nat} (hi : i + 6 ≤ L) (hWX : WFX X) (hP : LX D ci ad X H) (hN : LN D ci am adK X H) (hS : va_S (lG s) s.heap H locs) (hl : lv_has ls 4 [(3, .int (nI i)), (2, .ref (am 0)), (1, .ref (ad 0)), (0, .ref b)]) (hf : cells ≤ room_1.cells ∧ slots ≤ room_1.slots)
    (kk : ∀ (X : AS) (H : Heap) (locs : List Loc), WFX X → LX D ci ad X H → LN D ci am adK X H → va_S (lG s) s.heap H locs → W p l e room_1 s m #[Value.ref b] below meth c H locs cells slots Q (F0 m 1572 ls [])) : W p l e room_1 s m #[Value.ref b] below meth c H locs cells slots Q (F0 m 1500 ls []) := by
  obtain ⟨hx, hb, hml, hown, hts, hX, hbl, hK, hsS, hsW⟩ := id C
  refine lv_aload_n hx hb dL_law_1500 rfl (lv_at hl 2 rfl) ?_
  refine lw_cX (X2 := (p_undo X).2) (v := .int (p_undo X).1) (n := 0) (As := []) (rest := []) C hA hP hN (fun T tq la tt z => c_X3_undo l D ci (lG s) ka ad X T tq la tt z hA.1 hA.2.2.1 hWX) gL_law_X3_undo rfl ⟨rfl, rfl⟩ (by decide +kernel) rfl ⟨(Nat.le_of_ble_eq_true rfl), (Nat.le_of_ble_eq_true rfl)⟩ (hE_en D (ci 0) (lG s) ka) (C.e3 hS) hl.1 rfl (Nat.le_of_ble_eq_true rfl) dL_law_1501 hf hS (fun H locs hP hN hS => ?_)
  refine lv_aload_n hx hb dL_law_1504 rfl (lv_at hl 1 rfl) ?_
  refine lw_cN (X2 := (p_undo X).2) (v := .int (p_undo X).1) (n := 0) (As := []) (rest := [.int (p_undo X).1]) C hA hP hN (fun kn kr q0 q1 q2 q3 q4 q5 iw y0 y1 y2 y3 y4 y5 y6 h1 h2 => c_X4_undo l D ci am X kr q0 q1 q2 q3 q4 q5 iw kn y0 y1 y2 y3 y4 y5 y6 hA.2.1 hWX h2) gL_law_X4_undo rfl ⟨rfl, rfl⟩ (by decide +kernel) rfl ⟨(Nat.le_of_ble_eq_true rfl), (Nat.le_of_ble_eq_true rfl)⟩ hE_T trivial hl.1 rfl (Nat.le_of_ble_eq_true rfl) dL_law_1505 hf hS (fun H locs hP hN hS => ?_)
  refine lv_icmp_eq (tgt := 1572) hx hb dL_law_1508 (by decide) (fun _ => ?_) (fun h => absurd rfl h)
  exact kk _ H locs (wf_undo hWX) hP hN hS

set_option maxHeartbeats 4000000 in
set_option maxRecDepth 100000 in
/-- case 46: tear -/
theorem lc_46 {p : Program} {l : Launch} {e : Env} {s : State} {m : MethodId} {below : List Frame} {meth : Method} {c : Code} {H : Heap} {locs : List Loc} {cells slots : Nat} {Q : State → Prop} {b L : Nat} {xs : Nat → Int32} {D : va_G} {ci : Nat → ClassId} {ka : Nat} {adK adV : Nat → Nat} {fx : Nat} {ad am : Nat → Nat} {X : AS} {ls : Array Slot} (C : LC p s m c b L xs D ci ka adK adV fx) (hA : LA s ad am) (hL : L ≤ 3072) {i : Nat} (hi : i + 6 ≤ L) (hWX : WFX X) (hP : LX D ci ad X H) (hN : LN D ci am adK X H) (hS : va_S (lG s) s.heap H locs) (hl : lv_has ls 4 [(3, .int (nI i)), (2, .ref (am 0)), (1, .ref (ad 0)), (0, .ref b)]) (hf : cells ≤ room_1.cells ∧ slots ≤ room_1.slots)
    (kk : ∀ (X : AS) (H : Heap) (locs : List Loc), WFX X → LX D ci ad X H → LN D ci am adK X H → va_S (lG s) s.heap H locs → W p l e room_1 s m #[Value.ref b] below meth c H locs cells slots Q (F0 m 1572 ls [])) : W p l e room_1 s m #[Value.ref b] below meth c H locs cells slots Q (F0 m 1513 ls []) := by
  obtain ⟨hx, hb, hml, hown, hts, hX, hbl, hK, hsS, hsW⟩ := id C
  refine lv_aload_n hx hb dL_law_1513 rfl (lv_at hl 2 rfl) ?_
  refine lw_cX (X2 := (p_tear X).2) (v := .int (p_tear X).1) (n := 0) (As := []) (rest := []) C hA hP hN (fun T tq la tt z => c_X3_tear l D ci (lG s) ka ad X T tq la tt z hA.1 hA.2.2.1 hWX) gL_law_X3_tear rfl ⟨rfl, rfl⟩ (by decide +kernel) rfl ⟨(Nat.le_of_ble_eq_true rfl), (Nat.le_of_ble_eq_true rfl)⟩ (hE_en D (ci 0) (lG s) ka) (C.e3 hS) hl.1 rfl (Nat.le_of_ble_eq_true rfl) dL_law_1514 hf hS (fun H locs hP hN hS => ?_)
  refine lv_aload_n hx hb dL_law_1517 rfl (lv_at hl 1 rfl) ?_
  refine lw_cN (X2 := (p_tear X).2) (v := .int (p_tear X).1) (n := 0) (As := []) (rest := [.int (p_tear X).1]) C hA hP hN (fun kn kr q0 q1 q2 q3 q4 q5 iw y0 y1 y2 y3 y4 y5 y6 h1 h2 => c_X4_tear l D ci am X kr q0 q1 q2 q3 q4 q5 iw kn y0 y1 y2 y3 y4 y5 y6 hA.2.1 hWX h2) gL_law_X4_tear rfl ⟨rfl, rfl⟩ (by decide +kernel) rfl ⟨(Nat.le_of_ble_eq_true rfl), (Nat.le_of_ble_eq_true rfl)⟩ hE_T trivial hl.1 rfl (Nat.le_of_ble_eq_true rfl) dL_law_1518 hf hS (fun H locs hP hN hS => ?_)
  refine lv_icmp_eq (tgt := 1572) hx hb dL_law_1521 (by decide) (fun _ => ?_) (fun h => absurd rfl h)
  exact kk _ H locs (wf_tear hWX) hP hN hS

set_option maxHeartbeats 4000000 in
set_option maxRecDepth 100000 in
/-- case 47: count -/
theorem lc_47 {p : Program} {l : Launch} {e : Env} {s : State} {m : MethodId} {below : List Frame} {meth : Method} {c : Code} {H : Heap} {locs : List Loc} {cells slots : Nat} {Q : State → Prop} {b L : Nat} {xs : Nat → Int32} {D : va_G} {ci : Nat → ClassId} {ka : Nat} {adK adV : Nat → Nat} {fx : Nat} {ad am : Nat → Nat} {X : AS} {ls : Array Slot} (C : LC p s m c b L xs D ci ka adK adV fx) (hA : LA s ad am) (hL : L ≤ 3072) {i : Nat} (hi : i + 6 ≤ L) (hWX : WFX X) (hP : LX D ci ad X H) (hN : LN D ci am adK X H) (hS : va_S (lG s) s.heap H locs) (hl : lv_has ls 4 [(3, .int (nI i)), (2, .ref (am 0)), (1, .ref (ad 0)), (0, .ref b)]) (hf : cells ≤ room_1.cells ∧ slots ≤ room_1.slots)
    (kk : ∀ (X : AS) (H : Heap) (locs : List Loc), WFX X → LX D ci ad X H → LN D ci am adK X H → va_S (lG s) s.heap H locs → W p l e room_1 s m #[Value.ref b] below meth c H locs cells slots Q (F0 m 1572 ls [])) : W p l e room_1 s m #[Value.ref b] below meth c H locs cells slots Q (F0 m 1526 ls []) := by
  obtain ⟨hx, hb, hml, hown, hts, hX, hbl, hK, hsS, hsW⟩ := id C
  refine lv_aload_n hx hb dL_law_1526 rfl (lv_at hl 2 rfl) ?_
  refine lv_aload_n hx hb dL_law_1527 rfl (lv_at hl 3 rfl) ?_
  refine lv_iload_n hx hb dL_law_1528 rfl (lv_at hl 0 rfl) ?_
  refine lv_iconst (v := nI 1) hx hb dL_law_1529 (by decide) ?_
  refine nv_iadd hx hb dL_law_1530 ?_
  refine nv_sld C hL hS (j := i + 1) (by omega) dL_law_1531 ?_
  refine lw_cX (X2 := (p_count X (xs (i + 1))).2) (v := .int (p_count X (xs (i + 1))).1) (n := 1) (As := [.int (xs (i + 1))]) (rest := []) C hA hP hN (fun T tq la tt z => c_X3_count l D ci (lG s) ka ad X T tq la tt z hA.1 hA.2.2.1 (xs (i + 1)) hWX) gL_law_X3_count rfl ⟨rfl, rfl⟩ (by decide +kernel) rfl ⟨(Nat.le_of_ble_eq_true rfl), (Nat.le_of_ble_eq_true rfl)⟩ (hE_en D (ci 0) (lG s) ka) (C.e3 hS) hl.1 rfl (Nat.le_of_ble_eq_true rfl) dL_law_1532 hf hS (fun H locs hP hN hS => ?_)
  refine lv_aload_n hx hb dL_law_1535 rfl (lv_at hl 1 rfl) ?_
  refine lv_aload_n hx hb dL_law_1536 rfl (lv_at hl 3 rfl) ?_
  refine lv_iload_n hx hb dL_law_1537 rfl (lv_at hl 0 rfl) ?_
  refine lv_iconst (v := nI 1) hx hb dL_law_1538 (by decide) ?_
  refine nv_iadd hx hb dL_law_1539 ?_
  refine nv_sld C hL hS (j := i + 1) (by omega) dL_law_1540 ?_
  refine lw_cN (X2 := (p_count X (xs (i + 1))).2) (v := .int (p_count X (xs (i + 1))).1) (n := 1) (As := [.int (xs (i + 1))]) (rest := [.int (p_count X (xs (i + 1))).1]) C hA hP hN (fun kn kr q0 q1 q2 q3 q4 q5 iw y0 y1 y2 y3 y4 y5 y6 h1 h2 => c_X4_count l D ci am X kr q0 q1 q2 q3 q4 q5 iw kn y0 y1 y2 y3 y4 y5 y6 hA.2.1 (xs (i + 1)) hWX h2) gL_law_X4_count rfl ⟨rfl, rfl⟩ (by decide +kernel) rfl ⟨(Nat.le_of_ble_eq_true rfl), (Nat.le_of_ble_eq_true rfl)⟩ hE_T trivial hl.1 rfl (Nat.le_of_ble_eq_true rfl) dL_law_1541 hf hS (fun H locs hP hN hS => ?_)
  refine lv_icmp_eq (tgt := 1572) hx hb dL_law_1544 (by decide) (fun _ => ?_) (fun h => absurd rfl h)
  exact kk _ H locs (wf_count hWX (xs (i + 1))) hP hN hS

set_option maxHeartbeats 4000000 in
set_option maxRecDepth 100000 in
/-- case 48: status -/
theorem lc_48 {p : Program} {l : Launch} {e : Env} {s : State} {m : MethodId} {below : List Frame} {meth : Method} {c : Code} {H : Heap} {locs : List Loc} {cells slots : Nat} {Q : State → Prop} {b L : Nat} {xs : Nat → Int32} {D : va_G} {ci : Nat → ClassId} {ka : Nat} {adK adV : Nat → Nat} {fx : Nat} {ad am : Nat → Nat} {X : AS} {ls : Array Slot} (C : LC p s m c b L xs D ci ka adK adV fx) (hA : LA s ad am) (hL : L ≤ 3072) {i : Nat} (hi : i + 6 ≤ L) (hWX : WFX X) (hP : LX D ci ad X H) (hN : LN D ci am adK X H) (hS : va_S (lG s) s.heap H locs) (hl : lv_has ls 4 [(3, .int (nI i)), (2, .ref (am 0)), (1, .ref (ad 0)), (0, .ref b)]) (hf : cells ≤ room_1.cells ∧ slots ≤ room_1.slots)
    (kk : ∀ (X : AS) (H : Heap) (locs : List Loc), WFX X → LX D ci ad X H → LN D ci am adK X H → va_S (lG s) s.heap H locs → W p l e room_1 s m #[Value.ref b] below meth c H locs cells slots Q (F0 m 1572 ls [])) : W p l e room_1 s m #[Value.ref b] below meth c H locs cells slots Q (F0 m 1549 ls []) := by
  obtain ⟨hx, hb, hml, hown, hts, hX, hbl, hK, hsS, hsW⟩ := id C
  refine lv_aload_n hx hb dL_law_1549 rfl (lv_at hl 2 rfl) ?_
  refine lv_aload_n hx hb dL_law_1550 rfl (lv_at hl 3 rfl) ?_
  refine lv_iload_n hx hb dL_law_1551 rfl (lv_at hl 0 rfl) ?_
  refine lv_iconst (v := nI 1) hx hb dL_law_1552 (by decide) ?_
  refine nv_iadd hx hb dL_law_1553 ?_
  refine nv_sld C hL hS (j := i + 1) (by omega) dL_law_1554 ?_
  refine lw_cX (X2 := (p_status X (xs (i + 1))).2) (v := .int (p_status X (xs (i + 1))).1) (n := 1) (As := [.int (xs (i + 1))]) (rest := []) C hA hP hN (fun T tq la tt z => c_X3_status l D ci (lG s) ka ad X T tq la tt z hA.1 hA.2.2.1 (xs (i + 1)) hWX) gL_law_X3_status rfl ⟨rfl, rfl⟩ (by decide +kernel) rfl ⟨(Nat.le_of_ble_eq_true rfl), (Nat.le_of_ble_eq_true rfl)⟩ (hE_en D (ci 0) (lG s) ka) (C.e3 hS) hl.1 rfl (Nat.le_of_ble_eq_true rfl) dL_law_1555 hf hS (fun H locs hP hN hS => ?_)
  refine lv_aload_n hx hb dL_law_1558 rfl (lv_at hl 1 rfl) ?_
  refine lv_aload_n hx hb dL_law_1559 rfl (lv_at hl 3 rfl) ?_
  refine lv_iload_n hx hb dL_law_1560 rfl (lv_at hl 0 rfl) ?_
  refine lv_iconst (v := nI 1) hx hb dL_law_1561 (by decide) ?_
  refine nv_iadd hx hb dL_law_1562 ?_
  refine nv_sld C hL hS (j := i + 1) (by omega) dL_law_1563 ?_
  refine lw_cN (X2 := (p_status X (xs (i + 1))).2) (v := .int (p_status X (xs (i + 1))).1) (n := 1) (As := [.int (xs (i + 1))]) (rest := [.int (p_status X (xs (i + 1))).1]) C hA hP hN (fun kn kr q0 q1 q2 q3 q4 q5 iw y0 y1 y2 y3 y4 y5 y6 h1 h2 => c_X4_status l D ci am X kr q0 q1 q2 q3 q4 q5 iw kn y0 y1 y2 y3 y4 y5 y6 hA.2.1 (xs (i + 1)) hWX h2) gL_law_X4_status rfl ⟨rfl, rfl⟩ (by decide +kernel) rfl ⟨(Nat.le_of_ble_eq_true rfl), (Nat.le_of_ble_eq_true rfl)⟩ hE_T trivial hl.1 rfl (Nat.le_of_ble_eq_true rfl) dL_law_1564 hf hS (fun H locs hP hN hS => ?_)
  refine lv_icmp_eq (tgt := 1572) hx hb dL_law_1567 (by decide) (fun _ => ?_) (fun h => absurd rfl h)
  exact kk _ H locs (wf_status hWX (xs (i + 1))) hP hN hS
