/-! words of texts: the literals, length() and charAt() -/
def wdL : List (List Nat) := [[112, 108, 97, 121, 101, 114], [108, 97, 116, 101], [100, 111, 117, 98, 108, 105, 110, 103], [109, 97, 114, 114, 105, 101, 100], [101, 120, 116, 114, 97], [100, 101, 97, 102], [115, 108, 101, 101, 112, 101, 114], [98, 97, 114], [111, 110], [112, 97, 114, 116], [108, 111, 117, 100], [110, 101, 114, 118, 101]]
def wd (i : Nat) : List Nat := wdL.getD i []
def lenW : List Nat := [6, 4, 8, 7, 5, 4, 7, 3, 2, 4, 4, 5]
def bytW : List (List Int32) := [[112, 108, 97, 121, 101, 114], [108, 97, 116, 101], [100, 111, 117, 98, 108, 105, 110, 103], [109, 97, 114, 114, 105, 101, 100], [101, 120, 116, 114, 97], [100, 101, 97, 102], [115, 108, 101, 101, 112, 101, 114], [98, 97, 114], [111, 110], [112, 97, 114, 116], [108, 111, 117, 100], [110, 101, 114, 118, 101]]
theorem wd_len : ∀ i, i < 12 → lenW.getD i 0 = (wd i).length ∧ (wd i).length < 9 := by decide +kernel
theorem wd_byt : ∀ i, i < 12 → ∀ k, k < 9 → k < (wd i).length → (bytW.getD i []).getD k 0 = nI ((wd i).getD k 0) ∧ (wd i).getD k 0 < 128 := by decide +kernel
/-- class, place in its pool, text, which of the words -/
def rfW : List (String × Nat × String × Nat) := [("OneShort$Tape", 38, "bar", 7), ("OneShort$Tape", 60, "on", 8), ("OneShort$Tape", 69, "part", 9), ("OneShort$Tape", 73, "loud", 10), ("OneShort$Tape", 77, "nerve", 11), ("OneShort$Tape", 92, "late", 1), ("OneShort$Tape", 94, "doubling", 2), ("OneShort$Tape", 96, "married", 3), ("OneShort$Tape", 98, "extra", 4), ("OneShort$Tape", 100, "deaf", 5), ("OneShort$Tape", 102, "sleeper", 6), ("OneShort$Tape", 104, "player", 0)]
def rfM : List (String × Nat × String × Nat) := [("OneShortModel", 39, "player", 0), ("OneShortModel", 41, "late", 1), ("OneShortModel", 43, "doubling", 2), ("OneShortModel", 45, "married", 3), ("OneShortModel", 47, "extra", 4), ("OneShortModel", 49, "deaf", 5), ("OneShortModel", 51, "sleeper", 6)]
/-- the formatter of Preconditions: null (0), or the object with the number below -/
def fxV : Nat → Value
  | 0 => .null
  | k + 1 => .ref k
def enW (G : Nat → Prop) (adK adV : Nat → Nat) (fx : Nat) (rf : List (String × Nat × String × Nat)) (U : State) (H : Heap) : Prop := vk_S 12 lenW bytW adK adV G U H ∧ va_Z "java/lang/String" "COMPACT_STRINGS" "Z" (.int 1) G U H ∧ va_Z "jdk/internal/util/Preconditions" "SIOOBE_FORMATTER" "Ljava/util/function/BiFunction;" (fxV fx) G U H ∧ ∀ x ∈ rf, vk_R x.1 x.2.1 x.2.2.1 (adK x.2.2.2) U
theorem hE_W (G : Nat → Prop) (adK adV : Nat → Nat) (fx : Nat) (rf : List (String × Nat × String × Nat)) : EW (enW G adK adV fx rf) := by
  refine ⟨fun s U H hW h => ⟨h.1.moved hW.alike, va_Z.moved hW.alike h.2.1, va_Z.moved hW.alike h.2.2.1, fun x hx => (h.2.2.2 x hx).warm hW⟩, fun U g mk a H h => ⟨vk_S.moved (u := U) (U := U.calling g mk a) (Vm.Alike.refl U.vm) h.1, va_Z.moved (u := U) (U := U.calling g mk a) (Vm.Alike.refl U.vm) h.2.1, va_Z.moved (u := U) (U := U.calling g mk a) (Vm.Alike.refl U.vm) h.2.2.1, fun x hx => vk_R.same (u := U) (U := U.calling g mk a) rfl (h.2.2.2 x hx)⟩⟩
theorem enW_K (G : Nat → Prop) (adK adV : Nat → Nat) (fx : Nat) (rf : List (String × Nat × String × Nat)) : EK G (enW G adK adV fx rf) := fun s H H1 h h1 => ⟨h1.1.kept h, va_Z.kept h1.2.1 h, va_Z.kept h1.2.2.1 h, h1.2.2.2⟩
theorem enW_S {G A : Nat → Prop} {adK adV : Nat → Nat} {fx : Nat} {rf : List (String × Nat × String × Nat)} {s : State} {H0 H : Heap} {locs : List Loc} (hG : ∀ q, A q → G q) (h : enW G adK adV fx rf s H0) (hS : va_S A H0 H locs) : enW G adK adV fx rf s H := enW_K G adK adV fx rf s H0 H (fun q h1 h2 => hS.2.1 q h1 (fun z => h2 (hG q z))) h
section STR
variable {p : Program} {l : Launch} {e : Env} {R : Room} {s : State} {m : MethodId} {args : Array Value} {below : List Frame} {meth : Method} {c : Code} {H : Heap} {locs : List Loc} {cells slots : Nat} {Q : State → Prop}
  {Ts ws ws' : List Cond} {cc bytes : ByteArray} {nL maxL index n : Nat} {own C : String} {y : MethodName} {ret : Option FieldType} {rm : Room} {D : va_G} {tys : List (ClassId × FieldType)} {wc : va_W} {E : State → Heap → Prop}
  {b : Addr} {As rest st0 : List Value} {pc : Nat} {ls : Array Slot}
/-- a call that only reads, of an object that is no cell of the world -/
theorem ro_VO {v : Value} (S : CallFix p m c cc nL s args Ts own) (hM : Met l y ws rm (va_Pc (.ref b :: As) (ro_B D tys wc E)) (ro_Q (some v)) 0 0 (fun _ => False)) (hG : GoodIn Ts (wsV own index C y ws)) (hw : ws = Cond.code y bytes maxL ret :: ws') (hrm : rm.cells = 0 ∧ rm.slots = 0)
    (hd : y.cls = C ∧ y.cls ≠ "java/lang/invoke/MethodHandle" ∧ y.cls ≠ "java/lang/invoke/VarHandle" ∧ (parseMethodDescriptor y.desc).map (fun d => d.parameters.length) = some n) (hn : As.length = n) (hR : rm.frames + 1 ≤ R.frames ∧ 8 + (maxL + 11) + rm.locals ≤ R.locals)
    (hE : EW E) (hs : E s H) (hK : va_K D vwCl tys s) (hP : va_P D vwCl wc H) (hrec : ∃ cell : Cell, H[b]? = some cell ∧ cell.vm.isStatics = false ∧ s.vm.findClass C = some cell.cls)
    (hsz : ls.size = nL) (hst : st0 = As.reverse ++ .ref b :: rest) (hro : (rest.map fun v => v.category).sum ≤ 8) (hdg : decode cc pc = .ok (.invokevirtual index, 3)) (hf : cells ≤ R.cells ∧ slots ≤ R.slots)
    (kk : W p l e R s m args below meth c H locs cells slots Q (F0 m (pc + 3) ls (v :: rest))) : W p l e R s m args below meth c H locs cells slots Q (F0 m pc ls st0) :=
  ro_call (va_runV S hM (cwV n S.2.2.2.2 hG hw hrm.1 hrm.2 hd hR) ⟨ro_blind hE, hrec, fun U hU hW => ⟨rfl, by rw [hU]; exact hP, va_K.moved hW.alike hK, by rw [hU]; exact hE.1 s U H hW hs⟩⟩ rfl hn hsz hst (lv_room (ls := ls) (rest := st0) (m := m) (pc := pc) hro) hdg hf) kk
theorem ro_SV (S : CallFix p m c cc nL s args Ts own) (hM : Met l y ws rm (va_Pc As (ro_B D tys wc E)) (ro_Q none) 0 0 (fun _ => False)) (hG : GoodIn Ts (va_wsS own index y ws)) (hw : ws = Cond.code y bytes maxL ret :: ws') (hrm : rm.cells = 0 ∧ rm.slots = 0)
    (hd : y.cls ≠ "java/lang/invoke/MethodHandle" ∧ y.cls ≠ "java/lang/invoke/VarHandle" ∧ (parseMethodDescriptor y.desc).map (fun d => d.parameters.length) = some n) (hn : As.length = n) (hR : rm.frames + 1 ≤ R.frames ∧ 8 + (maxL + 11) + rm.locals ≤ R.locals)
    (hE : EW E) (hs : E s H) (hK : va_K D vwCl tys s) (hP : va_P D vwCl wc H)
    (hsz : ls.size = nL) (hst : st0 = As.reverse ++ rest) (hro : (rest.map fun v => v.category).sum ≤ 8) (hdg : decode cc pc = .ok (.invokestatic index, 3)) (hf : cells ≤ R.cells ∧ slots ≤ R.slots)
    (kk : W p l e R s m args below meth c H locs cells slots Q (F0 m (pc + 3) ls rest)) : W p l e R s m args below meth c H locs cells slots Q (F0 m pc ls st0) :=
  ro_call (va_runS S hM (va_cwS n S.2.2.2.2 hG hw hrm.1 hrm.2 hd hR) ⟨ro_blind hE, fun U hU hW => ⟨rfl, by rw [hU]; exact hP, va_K.moved hW.alike hK, by rw [hU]; exact hE.1 s U H hW hs⟩⟩ rfl hn hsz hst (lv_room (ls := ls) (rest := st0) (m := m) (pc := pc) hro) hdg hf) kk
theorem ro_kret {v : Int32} {ty : FieldType} (hx : p.tables.exec = Jvm.exec) (hb : c.code = cc) (hr : meth.sig.returnType = some ty) (hn : narrow ty (.int v) = .int v) (hlocks : meth.locks = false) (hdg : decode cc pc = .ok (.ireturn, 1)) : W p l e R s m args below meth c s.heap [] 0 0 (MQ below (ro_Q (some (.int v))) args s 0 0 (fun _ => False)) (F0 m pc ls [.int v]) := W.zret hx hb hr hn (fun _ ht _ => ⟨rfl, ht⟩) (fun _ h => by cases h) hdg hlocks
theorem ro_vret (hx : p.tables.exec = Jvm.exec) (hb : c.code = cc) (hr : meth.sig.returnType = none) (hlocks : meth.locks = false) (hdg : decode cc pc = .ok (.return_, 1)) : W p l e R s m args below meth c s.heap [] 0 0 (MQ below (ro_Q none) args s 0 0 (fun _ => False)) (F0 m pc ls []) := W.vret hx hb hr (fun _ ht _ => ⟨rfl, ht⟩) (fun _ h => by cases h) hdg hlocks
end STR
section JS
variable (l : Launch) (D : va_G) (ci : Nat → ClassId) (wc : va_W) (G : Nat → Prop) (adK adV : Nat → Nat) (fx : Nat) (rf : List (String × Nat × String × Nat))
theorem c_J0_coder {i : Nat} (hi : i < 12) : Met l yJ0_coder_7d493 wsJ0_coder_7d493 ({ frames := 0, cells := 0, slots := 0, locals := 0 } : Room) (va_Pc [.ref (adK i)] (ro_B D (tyL ci) wc (enW G adK adV fx rf))) (ro_Q (some (.int 0))) 0 0 (fun _ => False) := by
  refine ro_Met (cc := cJ0_coder_7d493) (maxL := 1) (ret := (some .byte)) [(0, .ref (adK i))] (by decide) rfl (Nat.le_of_ble_eq_true rfl) rfl ?_
  intro p e s m below meth c hx hb hml hr hlocks hts hown hP hK hs ls hl
  have hown : s.vm.findClass RJ0 = some m.cls := hown
  refine va_gets (v := .int 1) hx hb hs.2.1 va_S.rf hown (hts (.fieldLink RJ0 38 "java/lang/String" "COMPACT_STRINGS" "Z") (by decide +kernel)) (fun _ h9 => h9) dJ0_coder_7d493_0 ?_
  refine lv_if_eq (tgt := 13) hx hb dJ0_coder_7d493_3 (by decide) (fun h => absurd h (by decide)) (fun _ => ?_)
  refine lv_aload_n hx hb dJ0_coder_7d493_6 rfl (lv_at hl 0 rfl) ?_
  refine vk_getf (v := .int 0) hx hb (hs.1.1 i hi).2.1 va_S.rf hown (hts (.fieldLink RJ0 15 "java/lang/String" "coder" "B") (by decide +kernel)) (fun _ h9 => h9) dJ0_coder_7d493_7 ?_
  refine lv_goto (tgt := 14) hx hb dJ0_coder_7d493_10 (by decide) ?_
  exact ro_kret hx hb hr (by decide) hlocks dJ0_coder_7d493_14
theorem c_J0_isLatin1 {i : Nat} (hi : i < 12) : Met l yJ0_isLatin1_aae02 wsJ0_isLatin1_aae02 ({ frames := 0, cells := 0, slots := 0, locals := 0 } : Room) (va_Pc [.ref (adK i)] (ro_B D (tyL ci) wc (enW G adK adV fx rf))) (ro_Q (some (.int (nI 1)))) 0 0 (fun _ => False) := by
  refine ro_Met (cc := cJ0_isLatin1_aae02) (maxL := 1) (ret := (some .boolean)) [(0, .ref (adK i))] (by decide) rfl (Nat.le_of_ble_eq_true rfl) rfl ?_
  intro p e s m below meth c hx hb hml hr hlocks hts hown hP hK hs ls hl
  have hown : s.vm.findClass RJ0 = some m.cls := hown
  refine va_gets (v := .int 1) hx hb hs.2.1 va_S.rf hown (hts (.fieldLink RJ0 38 "java/lang/String" "COMPACT_STRINGS" "Z") (by decide +kernel)) (fun _ h9 => h9) dJ0_isLatin1_aae02_0 ?_
  refine lv_if_eq (tgt := 17) hx hb dJ0_isLatin1_aae02_3 (by decide) (fun h => absurd h (by decide)) (fun _ => ?_)
  refine lv_aload_n hx hb dJ0_isLatin1_aae02_6 rfl (lv_at hl 0 rfl) ?_
  refine vk_getf (v := .int 0) hx hb (hs.1.1 i hi).2.1 va_S.rf hown (hts (.fieldLink RJ0 15 "java/lang/String" "coder" "B") (by decide +kernel)) (fun _ h9 => h9) dJ0_isLatin1_aae02_7 ?_
  refine lv_if_ne (tgt := 17) hx hb dJ0_isLatin1_aae02_10 (by decide) (fun h => absurd rfl h) (fun _ => ?_)
  refine lv_iconst (v := nI 1) hx hb dJ0_isLatin1_aae02_13 (by decide) ?_
  refine lv_goto (tgt := 18) hx hb dJ0_isLatin1_aae02_14 (by decide) ?_
  exact ro_kret hx hb hr (by decide) hlocks dJ0_isLatin1_aae02_18
theorem c_J0_length {i : Nat} (hi : i < 12) : Met l yJ0_length_8abf5 wsJ0_length_8abf5 ({ frames := 1, cells := 0, slots := 0, locals := 20 } : Room) (va_Pc [.ref (adK i)] (ro_B D (tyL ci) wc (enW G adK adV fx rf))) (ro_Q (some (.int (nI (wd i).length)))) 0 0 (fun _ => False) := by
  refine ro_Met (cc := cJ0_length_8abf5) (maxL := 1) (ret := (some .int)) [(0, .ref (adK i))] (by decide) rfl (Nat.le_of_ble_eq_true rfl) rfl ?_
  intro p e s m below meth c hx hb hml hr hlocks hts hown hP hK hs ls hl
  have hown : s.vm.findClass RJ0 = some m.cls := hown
  obtain ⟨hl1, hl2⟩ := wd_len i hi
  refine lv_aload_n hx hb dJ0_length_8abf5_0 rfl (lv_at hl 0 rfl) ?_
  refine vk_getf (v := .ref (adV i)) hx hb (hs.1.1 i hi).2.2.1 va_S.rf hown (hts (.fieldLink RJ0 9 "java/lang/String" "value" "[B") (by decide +kernel)) (fun _ h9 => h9) dJ0_length_8abf5_1 ?_
  refine va_tlen (v := nI (wd i).length) hx hb (hs.1.1 i hi).2.2.2 va_S.rf (by rw [hl1]; rfl) dJ0_length_8abf5_4 ?_
  refine lv_aload_n hx hb dJ0_length_8abf5_5 rfl (lv_at hl 0 rfl) ?_
  refine ro_VO (n := 0) (As := []) (rest := [.int (nI (wd i).length)]) ⟨hx, hb, hml, hown, hts⟩ (c_J0_coder l D ci wc G adK adV fx rf hi) gJ0_length_8abf5_J0_coder_7d493 rfl ⟨rfl, rfl⟩ (by decide +kernel) rfl ⟨Nat.le_of_ble_eq_true rfl, Nat.le_of_ble_eq_true rfl⟩ (hE_W G adK adV fx rf) hs hK hP (vk_recv hs.1 hi va_S.rf) hl.1 rfl (Nat.le_of_ble_eq_true rfl) dJ0_length_8abf5_6 ⟨Nat.zero_le _, Nat.zero_le _⟩ ?_
  refine lv_ishr hx hb dJ0_length_8abf5_9 ?_
  refine nv_cv (y := nI (wd i).length) ?_ (ro_iret hx hb hr hlocks dJ0_length_8abf5_10)
  have h9 := nI_shr (a := (wd i).length) (k := 0) (by omega) (by decide)
  rw [Nat.pow_zero, Nat.div_one] at h9
  exact h9
theorem c_J3_checkIndex_n {k n : Nat} (hk : k < n) (hn : n < 1000) : Met l yJ3_checkIndex_8e157 wsJ3_checkIndex_8e157 ({ frames := 0, cells := 0, slots := 0, locals := 0 } : Room) (va_Pc [.int (nI k), .int (nI n), .null] (ro_B D (tyL ci) wc (enW G adK adV fx rf))) (ro_Q (some (.int (nI k)))) 0 0 (fun _ => False) := by
  refine ro_Met (cc := cJ3_checkIndex_8e157) (maxL := 3) (ret := (some .int)) [(0, .int (nI k)), (1, .int (nI n)), (2, .null)] (by decide) rfl (Nat.le_of_ble_eq_true rfl) rfl ?_
  intro p e s m below meth c hx hb hml hr hlocks hts hown hP hK hs ls hl
  refine lv_iload_n hx hb dJ3_checkIndex_8e157_0 rfl (lv_at hl 0 rfl) ?_
  refine nv_iflt (tgt := 9) hx hb (by omega) dJ3_checkIndex_8e157_1 (by decide) ?_
  refine lv_iload_n hx hb dJ3_checkIndex_8e157_4 rfl (lv_at hl 0 rfl) ?_
  refine lv_iload_n hx hb dJ3_checkIndex_8e157_5 rfl (lv_at hl 1 rfl) ?_
  refine nv_icmp_lt (tgt := 16) hx hb (by omega) (by omega) dJ3_checkIndex_8e157_6 (by decide) (fun _ => ?_) (fun h => absurd hk (by omega))
  refine lv_iload_n hx hb dJ3_checkIndex_8e157_16 rfl (lv_at hl 0 rfl) ?_
  exact ro_iret hx hb hr hlocks dJ3_checkIndex_8e157_17
theorem c_J3_checkIndex_r {ax : Nat} {k n : Nat} (hk : k < n) (hn : n < 1000) : Met l yJ3_checkIndex_8e157 wsJ3_checkIndex_8e157 ({ frames := 0, cells := 0, slots := 0, locals := 0 } : Room) (va_Pc [.int (nI k), .int (nI n), .ref ax] (ro_B D (tyL ci) wc (enW G adK adV fx rf))) (ro_Q (some (.int (nI k)))) 0 0 (fun _ => False) := by
  refine ro_Met (cc := cJ3_checkIndex_8e157) (maxL := 3) (ret := (some .int)) [(0, .int (nI k)), (1, .int (nI n)), (2, .ref ax)] (by decide) rfl (Nat.le_of_ble_eq_true rfl) rfl ?_
  intro p e s m below meth c hx hb hml hr hlocks hts hown hP hK hs ls hl
  refine lv_iload_n hx hb dJ3_checkIndex_8e157_0 rfl (lv_at hl 0 rfl) ?_
  refine nv_iflt (tgt := 9) hx hb (by omega) dJ3_checkIndex_8e157_1 (by decide) ?_
  refine lv_iload_n hx hb dJ3_checkIndex_8e157_4 rfl (lv_at hl 0 rfl) ?_
  refine lv_iload_n hx hb dJ3_checkIndex_8e157_5 rfl (lv_at hl 1 rfl) ?_
  refine nv_icmp_lt (tgt := 16) hx hb (by omega) (by omega) dJ3_checkIndex_8e157_6 (by decide) (fun _ => ?_) (fun h => absurd hk (by omega))
  refine lv_iload_n hx hb dJ3_checkIndex_8e157_16 rfl (lv_at hl 0 rfl) ?_
  exact ro_iret hx hb hr hlocks dJ3_checkIndex_8e157_17
theorem c_J0_checkIndex {k n : Nat} (hk : k < n) (hn : n < 1000) : Met l yJ0_checkIndex_df160 wsJ0_checkIndex_df160 ({ frames := 1, cells := 0, slots := 0, locals := 22 } : Room) (va_Pc [.int (nI k), .int (nI n)] (ro_B D (tyL ci) wc (enW G adK adV fx rf))) (ro_Q none) 0 0 (fun _ => False) := by
  rcases fx with _ | ax
  · refine ro_Met (cc := cJ0_checkIndex_df160) (maxL := 2) (ret := none) [(0, .int (nI k)), (1, .int (nI n))] (by decide) rfl (Nat.le_of_ble_eq_true rfl) rfl ?_
    intro p e s m below meth c hx hb hml hr hlocks hts hown hP hK hs ls hl
    have hown : s.vm.findClass RJ0 = some m.cls := hown
    refine lv_iload_n hx hb dJ0_checkIndex_df160_0 rfl (lv_at hl 0 rfl) ?_
    refine lv_iload_n hx hb dJ0_checkIndex_df160_1 rfl (lv_at hl 1 rfl) ?_
    refine va_gets (v := .null) hx hb hs.2.2.1 va_S.rf hown (hts (.fieldLink RJ0 1053 "jdk/internal/util/Preconditions" "SIOOBE_FORMATTER" "Ljava/util/function/BiFunction;") (by decide +kernel)) (fun _ h9 => h9) dJ0_checkIndex_df160_2 ?_
    refine ro_S (n := 3) (As := [.int (nI k), .int (nI n), .null]) (rest := []) ⟨hx, hb, hml, hown, hts⟩ (c_J3_checkIndex_n l D ci wc G adK adV 0 rf hk hn) gJ0_checkIndex_df160_J3_checkIndex_8e157 rfl ⟨rfl, rfl⟩ (by decide +kernel) rfl ⟨Nat.le_of_ble_eq_true rfl, Nat.le_of_ble_eq_true rfl⟩ (hE_W G adK adV 0 rf) hs hK hP hl.1 rfl (Nat.le_of_ble_eq_true rfl) dJ0_checkIndex_df160_5 ⟨Nat.zero_le _, Nat.zero_le _⟩ ?_
    refine lv_pop hx hb dJ0_checkIndex_df160_8 rfl ?_
    exact ro_vret hx hb hr hlocks dJ0_checkIndex_df160_9
  · refine ro_Met (cc := cJ0_checkIndex_df160) (maxL := 2) (ret := none) [(0, .int (nI k)), (1, .int (nI n))] (by decide) rfl (Nat.le_of_ble_eq_true rfl) rfl ?_
    intro p e s m below meth c hx hb hml hr hlocks hts hown hP hK hs ls hl
    have hown : s.vm.findClass RJ0 = some m.cls := hown
    refine lv_iload_n hx hb dJ0_checkIndex_df160_0 rfl (lv_at hl 0 rfl) ?_
    refine lv_iload_n hx hb dJ0_checkIndex_df160_1 rfl (lv_at hl 1 rfl) ?_
    refine va_gets (v := .ref ax) hx hb hs.2.2.1 va_S.rf hown (hts (.fieldLink RJ0 1053 "jdk/internal/util/Preconditions" "SIOOBE_FORMATTER" "Ljava/util/function/BiFunction;") (by decide +kernel)) (fun _ h9 => h9) dJ0_checkIndex_df160_2 ?_
    refine ro_S (n := 3) (As := [.int (nI k), .int (nI n), .ref ax]) (rest := []) ⟨hx, hb, hml, hown, hts⟩ (c_J3_checkIndex_r (ax := ax) l D ci wc G adK adV (ax + 1) rf hk hn) gJ0_checkIndex_df160_J3_checkIndex_8e157 rfl ⟨rfl, rfl⟩ (by decide +kernel) rfl ⟨Nat.le_of_ble_eq_true rfl, Nat.le_of_ble_eq_true rfl⟩ (hE_W G adK adV (ax + 1) rf) hs hK hP hl.1 rfl (Nat.le_of_ble_eq_true rfl) dJ0_checkIndex_df160_5 ⟨Nat.zero_le _, Nat.zero_le _⟩ ?_
    refine lv_pop hx hb dJ0_checkIndex_df160_8 rfl ?_
    exact ro_vret hx hb hr hlocks dJ0_checkIndex_df160_9
theorem ch_and : ∀ b, b < 128 → b &&& 255 = b := by decide +kernel
theorem ch_u : ∀ b, b < 128 → ((nI b).toUInt32 % 65536).toInt32 = nI b := by decide +kernel
theorem ch_n : ∀ b, b < 128 → narrow .char (.int (nI b)) = .int (nI b) := by decide +kernel
theorem c_J1_charAt {i k : Nat} (hi : i < 12) (hk : k < (wd i).length) : Met l yJ1_charAt_3b067 wsJ1_charAt_3b067 ({ frames := 2, cells := 0, slots := 0, locals := 43 } : Room) (va_Pc [.ref (adV i), .int (nI k)] (ro_B D (tyL ci) wc (enW G adK adV fx rf))) (ro_Q (some (.int (nI ((wd i).getD k 0))))) 0 0 (fun _ => False) := by
  refine ro_Met (cc := cJ1_charAt_3b067) (maxL := 2) (ret := (some .char)) [(0, .ref (adV i)), (1, .int (nI k))] (by decide) rfl (Nat.le_of_ble_eq_true rfl) rfl ?_
  intro p e s m below meth c hx hb hml hr hlocks hts hown hP hK hs ls hl
  have hown : s.vm.findClass RJ1 = some m.cls := hown
  obtain ⟨hl1, hl2⟩ := wd_len i hi
  obtain ⟨hb1, hb2⟩ := wd_byt i hi k (by omega) hk
  refine lv_iload_n hx hb dJ1_charAt_3b067_0 rfl (lv_at hl 1 rfl) ?_
  refine lv_aload_n hx hb dJ1_charAt_3b067_1 rfl (lv_at hl 0 rfl) ?_
  refine va_tlen (v := nI (wd i).length) hx hb (hs.1.1 i hi).2.2.2 va_S.rf (by rw [hl1]; rfl) dJ1_charAt_3b067_2 ?_
  refine ro_SV (n := 2) (As := [.int (nI k), .int (nI (wd i).length)]) (rest := []) ⟨hx, hb, hml, hown, hts⟩ (c_J0_checkIndex l D ci wc G adK adV fx rf hk (by omega)) gJ1_charAt_3b067_J0_checkIndex_df160 rfl ⟨rfl, rfl⟩ (by decide +kernel) rfl ⟨Nat.le_of_ble_eq_true rfl, Nat.le_of_ble_eq_true rfl⟩ (hE_W G adK adV fx rf) hs hK hP hl.1 rfl (Nat.le_of_ble_eq_true rfl) dJ1_charAt_3b067_3 ⟨Nat.zero_le _, Nat.zero_le _⟩ ?_
  refine lv_aload_n hx hb dJ1_charAt_3b067_6 rfl (lv_at hl 0 rfl) ?_
  refine lv_iload_n hx hb dJ1_charAt_3b067_7 rfl (lv_at hl 1 rfl) ?_
  refine va_tb (v := .int (nI ((wd i).getD k 0))) hx hb (hs.1.1 i hi).2.2.2 va_S.rf (by rw [hl1]; exact vp_in_nI hk (by omega)) (by rw [nI_clamp (by omega)]; exact congrArg Value.int hb1) dJ1_charAt_3b067_8 ?_
  refine lv_sipush (v := nI 255) hx hb dJ1_charAt_3b067_9 (by decide) ?_
  refine nv_iand hx hb dJ1_charAt_3b067_12 ?_
  refine nv_cv (congrArg nI (ch_and _ hb2)) ?_
  refine lv_i2c hx hb dJ1_charAt_3b067_13 (ch_u _ hb2) ?_
  exact ro_kret hx hb hr (ch_n _ hb2) hlocks dJ1_charAt_3b067_14
theorem c_J0_charAt {i k : Nat} (hi : i < 12) (hk : k < (wd i).length) : Met l yJ0_charAt_5068e wsJ0_charAt_5068e ({ frames := 3, cells := 0, slots := 0, locals := 64 } : Room) (va_Pc [.ref (adK i), .int (nI k)] (ro_B D (tyL ci) wc (enW G adK adV fx rf))) (ro_Q (some (.int (nI ((wd i).getD k 0))))) 0 0 (fun _ => False) := by
  refine ro_Met (cc := cJ0_charAt_5068e) (maxL := 2) (ret := (some .char)) [(0, .ref (adK i)), (1, .int (nI k))] (by decide) rfl (Nat.le_of_ble_eq_true rfl) rfl ?_
  intro p e s m below meth c hx hb hml hr hlocks hts hown hP hK hs ls hl
  have hown : s.vm.findClass RJ0 = some m.cls := hown
  obtain ⟨hl1, hl2⟩ := wd_len i hi
  obtain ⟨hb1, hb2⟩ := wd_byt i hi k (by omega) hk
  refine lv_aload_n hx hb dJ0_charAt_5068e_0 rfl (lv_at hl 0 rfl) ?_
  refine ro_VO (n := 0) (As := []) (rest := []) ⟨hx, hb, hml, hown, hts⟩ (c_J0_isLatin1 l D ci wc G adK adV fx rf hi) gJ0_charAt_5068e_J0_isLatin1_aae02 rfl ⟨rfl, rfl⟩ (by decide +kernel) rfl ⟨Nat.le_of_ble_eq_true rfl, Nat.le_of_ble_eq_true rfl⟩ (hE_W G adK adV fx rf) hs hK hP (vk_recv hs.1 hi va_S.rf) hl.1 rfl (Nat.le_of_ble_eq_true rfl) dJ0_charAt_5068e_1 ⟨Nat.zero_le _, Nat.zero_le _⟩ ?_
  refine lv_if_eq (tgt := 16) hx hb dJ0_charAt_5068e_4 (by decide) (fun h => absurd h (by decide)) (fun _ => ?_)
  refine lv_aload_n hx hb dJ0_charAt_5068e_7 rfl (lv_at hl 0 rfl) ?_
  refine vk_getf (v := .ref (adV i)) hx hb (hs.1.1 i hi).2.2.1 va_S.rf hown (hts (.fieldLink RJ0 9 "java/lang/String" "value" "[B") (by decide +kernel)) (fun _ h9 => h9) dJ0_charAt_5068e_8 ?_
  refine lv_iload_n hx hb dJ0_charAt_5068e_11 rfl (lv_at hl 1 rfl) ?_
  refine ro_S (n := 2) (As := [.ref (adV i), .int (nI k)]) (rest := []) ⟨hx, hb, hml, hown, hts⟩ (c_J1_charAt l D ci wc G adK adV fx rf hi hk) gJ0_charAt_5068e_J1_charAt_3b067 rfl ⟨rfl, rfl⟩ (by decide +kernel) rfl ⟨Nat.le_of_ble_eq_true rfl, Nat.le_of_ble_eq_true rfl⟩ (hE_W G adK adV fx rf) hs hK hP hl.1 rfl (Nat.le_of_ble_eq_true rfl) dJ0_charAt_5068e_12 ⟨Nat.zero_le _, Nat.zero_le _⟩ ?_
  exact ro_kret hx hb hr (ch_n _ hb2) hlocks dJ0_charAt_5068e_15
end JS
