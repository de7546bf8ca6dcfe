/-! the law's own rows -/
theorem lg_cmp_self (x : Int64) : lg_cmp x x = 0 := by
  unfold lg_cmp
  rw [if_neg Int64.lt_irrefl, if_pos rfl]
def lG (s : State) : Nat → Prop := fun q => s.heap.size ≤ q
/-- what the law stands on -/
def LC (p : Program) (s : State) (m : MethodId) (c : Code) (b L : Nat) (xs : Nat → Int32) (D : va_G) (ci : Nat → ClassId) (ka : Nat) (adK adV : Nat → Nat) (fx : Nat) : Prop :=
  p.tables.exec = Jvm.exec ∧ c.code = cL_law ∧ c.maxLocals = 4 ∧ s.vm.findClass RL = some m.cls ∧ (∀ w ∈ wsL_law, w.before #[Value.ref b] s = true) ∧ va_X b L xs s s.heap ∧ b < s.heap.size ∧ va_K D vwCl (tyL ci) s ∧ enS D (ci 0) (lG s) ka adK adV fx s s.heap ∧ enW (lG s) adK adV fx rfX s s.heap
def LA (s : State) (ad am : Nat → Nat) : Prop := injA ad 48 ∧ injA am 16 ∧ (∀ k, k < 48 → lG s (ad k)) ∧ (∀ k, k < 16 → lG s (am k)) ∧ ∀ i j, i < 48 → j < 16 → ad i ≠ am j
def LX (D : va_G) (ci : Nat → ClassId) (ad : Nat → Nat) (X : AS) (H : Heap) : Prop := ∃ T tq la tt z, va_P D vwCl (wX ci ad X T tq la tt z) H
def LN (D : va_G) (ci : Nat → ClassId) (am adK : Nat → Nat) (X : AS) (H : Heap) : Prop := ∃ (kn : Nat → Option Nat) (kr : Nat → Int32) (q0 : Int32) (q1 : Int32) (q2 : Int32) (q3 : Int32) (q4 : Int32) (q5 : Int32) (iw : Bool) (y0 : Nat → Int32) (y1 : Nat → Int32) (y2 : Nat → Int32) (y3 : Nat → Int32) (y4 : Nat → Int32) (y5 : Nat → Int32) (y6 : Nat → Int32), (∀ j, j < 7 → kn j = some (adK j)) ∧ kOK X kr ∧ va_P D vwCl (wN ci am X kr q0 q1 q2 q3 q4 q5 iw kn y0 y1 y2 y3 y4 y5 y6) H
section LAWR
variable {p : Program} {l : Launch} {e : Env} {R : Room} {s : State} {m : MethodId} {args : Array Value} {below : List Frame} {meth : Method} {c : Code} {H : Heap} {locs : List Loc} {cells slots : Nat} {Q : State → Prop} {b L : Nat} {xs : Nat → Int32} {D : va_G} {ci : Nat → ClassId} {ka : Nat} {adK adV : Nat → Nat} {fx : Nat} {ad am : Nat → Nat} {X X2 : AS}
  {y : MethodName} {bytes : ByteArray} {maxL index n pc : Nat} {ret : Option FieldType} {ws ws' : List Cond} {rm : Room} {E : State → Heap → Prop} {As rest st0 : List Value} {ls : Array Slot} {v : Value}
theorem LN_kept (hA : LA s ad am) (hN : LN D ci am adK X H) {H1 : Heap} (hf : ∀ q : Nat, q < H.size → ¬ aX ad q → H1[q]? = H[q]?) : LN D ci am adK X H1 := by
  obtain ⟨kn, kr, q0, q1, q2, q3, q4, q5, iw, y0, y1, y2, y3, y4, y5, y6, h1, h2, h3⟩ := hN
  refine ⟨kn, kr, q0, q1, q2, q3, q4, q5, iw, y0, y1, y2, y3, y4, y5, y6, h1, h2, va_Pf h3 hf (fun k q hk z => ?_)⟩
  obtain ⟨j, hj, ej⟩ := (wN_D hA.2.1).2 k q hk
  obtain ⟨i, hi, ei⟩ := z
  exact hA.2.2.2.2 i j hi hj (ei.symm.trans ej)
theorem LX_kept (hA : LA s ad am) (hP : LX D ci ad X H) {H1 : Heap} (hf : ∀ q : Nat, q < H.size → ¬ aM am q → H1[q]? = H[q]?) : LX D ci ad X H1 := by
  obtain ⟨T, tq, la, tt, z, h3⟩ := hP
  refine ⟨T, tq, la, tt, z, va_Pf h3 hf (fun k q hk z => ?_)⟩
  obtain ⟨i, hi, ei⟩ := (wX_D hA.1).2 k q hk
  obtain ⟨j, hj, ej⟩ := z
  exact hA.2.2.2.2 i j hi hj (ei.symm.trans ej)
/-- a call of the class -/
theorem lw_cX (C : LC p s m c b L xs D ci ka adK adV fx) (hA : LA s ad am) (hP : LX D ci ad X H) (hN : LN D ci am adK X H)
    (hM : ∀ T tq la tt z, Met l y ws rm (va_Pc (.ref (ad 0) :: As) (ro_B D (tyL ci) (wX ci ad X T tq la tt z) E)) (mu_Q (aX ad) (some v) (fun H => ∃ T tq la tt z, va_P D vwCl (wX ci ad X2 T tq la tt z) H)) 0 0 (aX ad))
    (hG : GoodIn wsL_law (wsV RL index RX3 y ws)) (hw : ws = Cond.code y bytes maxL ret :: ws') (hrm : rm.cells = 0 ∧ rm.slots = 0)
    (hd : y.cls = RX3 ∧ y.cls ≠ "java/lang/invoke/MethodHandle" ∧ y.cls ≠ "java/lang/invoke/VarHandle" ∧ (parseMethodDescriptor y.desc).map (fun d => d.parameters.length) = some n) (hn : As.length = n) (hR : rm.frames + 1 ≤ R.frames ∧ 8 + (maxL + 11) + rm.locals ≤ R.locals)
    (hE : EW E) (hs : E s H) (hsz : ls.size = 4) (hst : st0 = As.reverse ++ .ref (ad 0) :: rest) (hro : (rest.map fun v => v.category).sum ≤ 8) (hdg : decode cL_law pc = .ok (.invokevirtual index, 3)) (hf : cells ≤ R.cells ∧ slots ≤ R.slots) (hS : va_S (lG s) s.heap H locs)
    (kk : ∀ (H1 : Heap) (locs1 : List Loc), LX D ci ad X2 H1 → LN D ci am adK X H1 → va_S (lG s) s.heap H1 locs1 → W p l e R s m #[Value.ref b] below meth c H1 locs1 cells slots Q (F0 m (pc + 3) ls (v :: rest))) : W p l e R s m #[Value.ref b] below meth c H locs cells slots Q (F0 m pc ls st0) := by
  obtain ⟨hx, hb, hml, hown, hts, -, -, hK, -, -⟩ := C
  obtain ⟨T, tq, la, tt, z, hP⟩ := hP
  exact mu_V ⟨hx, hb, hml, hown, hts⟩ (hM T tq la tt z) hG hw hrm hd hn hR hE hs hK hP (ci := 3) (q0 := 0) rfl rfl hsz hst hro hdg hf hS (fun q ⟨k, h1, h2⟩ => h2 ▸ hA.2.2.1 k h1) (fun H1 locs1 _ hfr hB hS1 => kk H1 locs1 hB (LN_kept hA hN hfr) hS1)
/-- a call of the model -/
theorem lw_cN (C : LC p s m c b L xs D ci ka adK adV fx) (hA : LA s ad am) {X0 : AS} (hP : LX D ci ad X0 H) (hN : LN D ci am adK X H)
    (hM : ∀ (kn : Nat → Option Nat) (kr : Nat → Int32) (q0 : Int32) (q1 : Int32) (q2 : Int32) (q3 : Int32) (q4 : Int32) (q5 : Int32) (iw : Bool) (y0 : Nat → Int32) (y1 : Nat → Int32) (y2 : Nat → Int32) (y3 : Nat → Int32) (y4 : Nat → Int32) (y5 : Nat → Int32) (y6 : Nat → Int32), (∀ j, j < 7 → kn j = some (adK j)) → kOK X kr → Met l y ws rm (va_Pc (.ref (am 0) :: As) (ro_B D (tyL ci) (wN ci am X kr q0 q1 q2 q3 q4 q5 iw kn y0 y1 y2 y3 y4 y5 y6) E)) (mu_Q (aM am) (some v) (fun H => ∃ (kr : Nat → Int32) (q0 : Int32) (q1 : Int32) (q2 : Int32) (q3 : Int32) (q4 : Int32) (q5 : Int32) (iw : Bool) (y0 : Nat → Int32) (y1 : Nat → Int32) (y2 : Nat → Int32) (y3 : Nat → Int32) (y4 : Nat → Int32) (y5 : Nat → Int32) (y6 : Nat → Int32), kOK X2 kr ∧ va_P D vwCl (wN ci am X2 kr q0 q1 q2 q3 q4 q5 iw kn y0 y1 y2 y3 y4 y5 y6) H)) 0 0 (aM am))
    (hG : GoodIn wsL_law (wsV RL index RX4 y ws)) (hw : ws = Cond.code y bytes maxL ret :: ws') (hrm : rm.cells = 0 ∧ rm.slots = 0)
    (hd : y.cls = RX4 ∧ y.cls ≠ "java/lang/invoke/MethodHandle" ∧ y.cls ≠ "java/lang/invoke/VarHandle" ∧ (parseMethodDescriptor y.desc).map (fun d => d.parameters.length) = some n) (hn : As.length = n) (hR : rm.frames + 1 ≤ R.frames ∧ 8 + (maxL + 11) + rm.locals ≤ R.locals)
    (hE : EW E) (hs : E s H) (hsz : ls.size = 4) (hst : st0 = As.reverse ++ .ref (am 0) :: rest) (hro : (rest.map fun v => v.category).sum ≤ 8) (hdg : decode cL_law pc = .ok (.invokevirtual index, 3)) (hf : cells ≤ R.cells ∧ slots ≤ R.slots) (hS : va_S (lG s) s.heap H locs)
    (kk : ∀ (H1 : Heap) (locs1 : List Loc), LX D ci ad X0 H1 → LN D ci am adK X2 H1 → va_S (lG s) s.heap H1 locs1 → W p l e R s m #[Value.ref b] below meth c H1 locs1 cells slots Q (F0 m (pc + 3) ls (v :: rest))) : W p l e R s m #[Value.ref b] below meth c H locs cells slots Q (F0 m pc ls st0) := by
  obtain ⟨hx, hb, hml, hown, hts, -, -, hK, -, -⟩ := C
  obtain ⟨kn, kr, q0, q1, q2, q3, q4, q5, iw, y0, y1, y2, y3, y4, y5, y6, h1, h2, h3⟩ := hN
  refine mu_V ⟨hx, hb, hml, hown, hts⟩ (hM kn kr q0 q1 q2 q3 q4 q5 iw y0 y1 y2 y3 y4 y5 y6 h1 h2) hG hw hrm hd hn hR hE hs hK h3 (ci := 4) (q0 := 0) rfl rfl hsz hst hro hdg hf hS (fun q ⟨k, h1, h2⟩ => h2 ▸ hA.2.2.2.1 k h1) (fun H1 locs1 _ hfr hB hS1 => kk H1 locs1 (LX_kept hA hP hfr) ?_ hS1)
  obtain ⟨kr, q0, q1, q2, q3, q4, q5, iw, y0, y1, y2, y3, y4, y5, y6, h2, h3⟩ := hB
  exact ⟨kn, kr, q0, q1, q2, q3, q4, q5, iw, y0, y1, y2, y3, y4, y5, y6, h1, h2, h3⟩
/-- an int of the script -/
theorem nv_sld (C : LC p s m c b L xs D ci ka adK adV fx) (hL : L ≤ 3072) (hS : va_S (lG s) s.heap H locs) {j : Nat} (hj : j < L) (hdg : decode cL_law pc = .ok (.iaload, 1)) (kk : W p l e R s m #[Value.ref b] below meth c H locs cells slots Q (F0 m (pc + 1) ls (.int (xs j) :: rest))) : W p l e R s m #[Value.ref b] below meth c H locs cells slots Q (F0 m pc ls (.int (nI j) :: .ref b :: rest)) := by
  obtain ⟨hx, hb, -, -, -, hX, hbl, -, -, -⟩ := C
  refine va_sld hx hb hX hbl (Nat.not_le.mpr hbl) hS (vp_in_nI hj (by omega)) hdg ?_
  rw [nI_clamp (by omega)]
  exact kk
theorem nv_slen (C : LC p s m c b L xs D ci ka adK adV fx) (hS : va_S (lG s) s.heap H locs) (hdg : decode cL_law pc = .ok (.arraylength, 1)) (kk : W p l e R s m #[Value.ref b] below meth c H locs cells slots Q (F0 m (pc + 1) ls (.int (nI L) :: rest))) : W p l e R s m #[Value.ref b] below meth c H locs cells slots Q (F0 m pc ls (.ref b :: rest)) := by
  obtain ⟨hx, hb, -, -, -, hX, hbl, -, -, -⟩ := C
  exact va_slen hx hb hX hbl (Nat.not_le.mpr hbl) hS hdg kk
theorem LC.e3 (C : LC p s m c b L xs D ci ka adK adV fx) (hS : va_S (lG s) s.heap H locs) : en D (ci 0) (lG s) ka s H := en_S (fun _ h => h) C.2.2.2.2.2.2.2.2.1.1 hS
theorem LC.eS (C : LC p s m c b L xs D ci ka adK adV fx) (hS : va_S (lG s) s.heap H locs) : enS D (ci 0) (lG s) ka adK adV fx s H := enS_S (fun _ h => h) C.2.2.2.2.2.2.2.2.1 hS
theorem LC.eX (C : LC p s m c b L xs D ci ka adK adV fx) (hS : va_S (lG s) s.heap H locs) : enW (lG s) adK adV fx rfX s H := enW_S (fun _ h => h) C.2.2.2.2.2.2.2.2.2 hS
end LAWR
theorem li_le {i L : Nat} (hi : i ≤ 4000) (hL : L ≤ 3072) (h : ¬ nI L - nI 6 < nI i) : i + 6 ≤ L := by
  rw [Int32.lt_iff_toInt_lt, Int32.toInt_sub, nI_toInt (by omega), nI_toInt (by omega), nI_toInt (by omega), Int.bmod_def] at h
  omega
theorem and63 (x : Int32) : ∃ k : Nat, k < 64 ∧ x &&& nI 63 = nI k := by
  obtain ⟨j, h1, h2⟩ := pk_andE x (m := nI 63) 6 (by decide)
  exact ⟨j, h1, h2⟩
