/-! walks laid by program -/
set_option maxHeartbeats 4000000 in
set_option maxRecDepth 100000 in
/-- J6_bitCount_0f7a4 -/
theorem c_J6_bitCount_0f7a4 (l : Launch) (D : va_G) (ci : Nat → ClassId) (wc : va_W) (E : State → Heap → Prop) (x : Nat) (h_x : x < 4096) : Met l yJ6_bitCount_0f7a4 wsJ6_bitCount_0f7a4 ({ frames := 0, cells := 0, slots := 0, locals := 0 } : Room) (va_Pc [.int (nI x)] (ro_B D (tyL ci) wc (E))) (ro_Q (some (.int (nI (pop x))))) 0 0 (fun _ => False) := by
  refine ro_Met (cc := cJ6_bitCount_0f7a4) (maxL := 1) (ret := (some .int)) [(0, .int (nI x))] (by decide) rfl (Nat.le_of_ble_eq_true rfl) rfl ?_
  intro p e s m below meth c hx hb hml hr hlocks hts hown hP hK hs ls hl
  have hown : s.vm.findClass RJ6 = some m.cls := hown
  refine lv_iload_n hx hb dJ6_bitCount_0f7a4_0 rfl (lv_at hl 0 rfl) ?_
  refine lv_iload_n hx hb dJ6_bitCount_0f7a4_1 rfl (lv_at hl 0 rfl) ?_
  refine lv_iconst (v := nI (1)) hx hb dJ6_bitCount_0f7a4_2 (by decide) ?_
  refine nv_iushr hx hb (by omega) dJ6_bitCount_0f7a4_3 ?_
  refine lv_ldcw (v := nI (1431655765)) hx hb hown (hts (.constant RJ6 265 (1431655765)) (List.mem_of_getElem? (i := 1) rfl)) dJ6_bitCount_0f7a4_4 ?_
  refine nv_iand hx hb dJ6_bitCount_0f7a4_7 ?_
  have f1 : ((x % 4294967296 / 2 ^ (1)) &&& 1431655765) ≤ 1431655765 := Nat.and_le_right
  have f2 : ((x % 4294967296 / 2 ^ (1)) &&& 1431655765) ≤ (x % 4294967296 / 2 ^ (1)) := Nat.and_le_left
  refine nv_isub hx hb (by omega) dJ6_bitCount_0f7a4_8 ?_
  refine nv_cv (show nI ((x - ((x % 4294967296 / 2 ^ (1)) &&& 1431655765))) = nI (bc1 x) from rfl) ?_
  refine lv_istore_n (lv' := [(0, .int (nI (bc1 x)))]) hx hb dJ6_bitCount_0f7a4_9 rfl hl (by decide) rfl (fun ls hl => ?_)
  refine lv_iload_n hx hb dJ6_bitCount_0f7a4_10 rfl (lv_at hl 0 rfl) ?_
  refine lv_ldcw (v := nI (858993459)) hx hb hown (hts (.constant RJ6 266 (858993459)) (List.mem_of_getElem? (i := 2) rfl)) dJ6_bitCount_0f7a4_11 ?_
  refine nv_iand hx hb dJ6_bitCount_0f7a4_14 ?_
  have f3 : (bc1 x &&& 858993459) ≤ 858993459 := Nat.and_le_right
  have f4 : (bc1 x &&& 858993459) ≤ bc1 x := Nat.and_le_left
  refine lv_iload_n hx hb dJ6_bitCount_0f7a4_15 rfl (lv_at hl 0 rfl) ?_
  refine lv_iconst (v := nI (2)) hx hb dJ6_bitCount_0f7a4_16 (by decide) ?_
  refine nv_iushr hx hb (by omega) dJ6_bitCount_0f7a4_17 ?_
  refine lv_ldcw (v := nI (858993459)) hx hb hown (hts (.constant RJ6 266 (858993459)) (List.mem_of_getElem? (i := 2) rfl)) dJ6_bitCount_0f7a4_18 ?_
  refine nv_iand hx hb dJ6_bitCount_0f7a4_21 ?_
  have f5 : ((bc1 x % 4294967296 / 2 ^ (2)) &&& 858993459) ≤ 858993459 := Nat.and_le_right
  have f6 : ((bc1 x % 4294967296 / 2 ^ (2)) &&& 858993459) ≤ (bc1 x % 4294967296 / 2 ^ (2)) := Nat.and_le_left
  refine nv_iadd hx hb dJ6_bitCount_0f7a4_22 ?_
  refine nv_cv (show nI (((bc1 x &&& 858993459) + ((bc1 x % 4294967296 / 2 ^ (2)) &&& 858993459))) = nI (bc2 (bc1 x)) from rfl) ?_
  refine lv_istore_n (lv' := [(0, .int (nI (bc2 (bc1 x))))]) hx hb dJ6_bitCount_0f7a4_23 rfl hl (by decide) rfl (fun ls hl => ?_)
  refine lv_iload_n hx hb dJ6_bitCount_0f7a4_24 rfl (lv_at hl 0 rfl) ?_
  refine lv_iload_n hx hb dJ6_bitCount_0f7a4_25 rfl (lv_at hl 0 rfl) ?_
  refine lv_iconst (v := nI (4)) hx hb dJ6_bitCount_0f7a4_26 (by decide) ?_
  refine nv_iushr hx hb (by omega) dJ6_bitCount_0f7a4_27 ?_
  refine nv_iadd hx hb dJ6_bitCount_0f7a4_28 ?_
  refine lv_ldcw (v := nI (252645135)) hx hb hown (hts (.constant RJ6 267 (252645135)) (List.mem_of_getElem? (i := 3) rfl)) dJ6_bitCount_0f7a4_29 ?_
  refine nv_iand hx hb dJ6_bitCount_0f7a4_32 ?_
  have f7 : ((bc2 (bc1 x) + (bc2 (bc1 x) % 4294967296 / 2 ^ (4))) &&& 252645135) ≤ 252645135 := Nat.and_le_right
  have f8 : ((bc2 (bc1 x) + (bc2 (bc1 x) % 4294967296 / 2 ^ (4))) &&& 252645135) ≤ (bc2 (bc1 x) + (bc2 (bc1 x) % 4294967296 / 2 ^ (4))) := Nat.and_le_left
  refine nv_cv (show nI (((bc2 (bc1 x) + (bc2 (bc1 x) % 4294967296 / 2 ^ (4))) &&& 252645135)) = nI (bc3 (bc2 (bc1 x))) from rfl) ?_
  refine lv_istore_n (lv' := [(0, .int (nI (bc3 (bc2 (bc1 x)))))]) hx hb dJ6_bitCount_0f7a4_33 rfl hl (by decide) rfl (fun ls hl => ?_)
  refine lv_iload_n hx hb dJ6_bitCount_0f7a4_34 rfl (lv_at hl 0 rfl) ?_
  refine lv_iload_n hx hb dJ6_bitCount_0f7a4_35 rfl (lv_at hl 0 rfl) ?_
  refine lv_bipush (v := nI (8)) hx hb dJ6_bitCount_0f7a4_36 (by decide) ?_
  refine nv_iushr hx hb (by omega) dJ6_bitCount_0f7a4_38 ?_
  refine nv_iadd hx hb dJ6_bitCount_0f7a4_39 ?_
  refine nv_cv (show nI ((bc3 (bc2 (bc1 x)) + (bc3 (bc2 (bc1 x)) % 4294967296 / 2 ^ (8)))) = nI (bc4 (bc3 (bc2 (bc1 x)))) from rfl) ?_
  refine lv_istore_n (lv' := [(0, .int (nI (bc4 (bc3 (bc2 (bc1 x))))))]) hx hb dJ6_bitCount_0f7a4_40 rfl hl (by decide) rfl (fun ls hl => ?_)
  refine lv_iload_n hx hb dJ6_bitCount_0f7a4_41 rfl (lv_at hl 0 rfl) ?_
  refine lv_iload_n hx hb dJ6_bitCount_0f7a4_42 rfl (lv_at hl 0 rfl) ?_
  refine lv_bipush (v := nI (16)) hx hb dJ6_bitCount_0f7a4_43 (by decide) ?_
  refine nv_iushr hx hb (by omega) dJ6_bitCount_0f7a4_45 ?_
  refine nv_iadd hx hb dJ6_bitCount_0f7a4_46 ?_
  refine nv_cv (show nI ((bc4 (bc3 (bc2 (bc1 x))) + (bc4 (bc3 (bc2 (bc1 x))) % 4294967296 / 2 ^ (16)))) = nI (bc5 (bc4 (bc3 (bc2 (bc1 x))))) from rfl) ?_
  refine lv_istore_n (lv' := [(0, .int (nI (bc5 (bc4 (bc3 (bc2 (bc1 x)))))))]) hx hb dJ6_bitCount_0f7a4_47 rfl hl (by decide) rfl (fun ls hl => ?_)
  refine lv_iload_n hx hb dJ6_bitCount_0f7a4_48 rfl (lv_at hl 0 rfl) ?_
  refine lv_bipush (v := nI (63)) hx hb dJ6_bitCount_0f7a4_49 (by decide) ?_
  refine nv_iand hx hb dJ6_bitCount_0f7a4_51 ?_
  have f9 : (bc5 (bc4 (bc3 (bc2 (bc1 x)))) &&& 63) ≤ 63 := Nat.and_le_right
  have f10 : (bc5 (bc4 (bc3 (bc2 (bc1 x)))) &&& 63) ≤ bc5 (bc4 (bc3 (bc2 (bc1 x)))) := Nat.and_le_left
  refine nv_cv (show nI ((bc5 (bc4 (bc3 (bc2 (bc1 x)))) &&& 63)) = nI (pop x) from nv_e (popJ x h_x)) ?_
  exact ro_iret hx hb hr hlocks dJ6_bitCount_0f7a4_52
