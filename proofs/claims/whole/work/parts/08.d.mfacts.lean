/-! facts for the model's walks, on -/
theorem pop_dec_all : (List.range 4096).all (fun x => x == 0 || pop (x &&& (x - 1)) + 1 == pop x) = true := by decide +kernel
theorem pop_dec {x : Nat} (h0 : x ≠ 0) (h : x < 4096) : pop (x &&& (x - 1)) + 1 = pop x := by
  have := List.all_eq_true.mp pop_dec_all x (List.mem_range.mpr h)
  simpa [h0] using this
theorem cw_D {ci : Nat → ClassId} {c0 c1 : Nat} {f g : Nat → Int32} (h : c0 ≠ c1) : va_D (fun q => q = c0 ∨ q = c1) [(c0, .inl (ci 0, 65, .inl f)), (c1, .inl (ci 0, 65, .inl g))] := by
  refine ⟨fun i j p q hp hq e => ?_, fun k q hk => ?_⟩
  · match i, j, hp, hq with
    | 0, 0, _, _ => rfl
    | 1, 1, _, _ => rfl
    | 0, 1, hp, hq => cases hp; cases hq; exact absurd e h
    | 1, 0, hp, hq => cases hp; cases hq; exact absurd e.symm h
    | i + 2, _, hp, _ => simp at hp
    | 0, j + 2, _, hq => simp at hq
    | 1, j + 2, _, hq => simp at hq
  · match k, hk with
    | 0, hk => cases hk; exact Or.inl rfl
    | 1, hk => cases hk; exact Or.inr rfl
    | k + 2, hk => simp at hk
theorem cw_end {D : va_G} {ci : Nat → ClassId} {c0 c1 : Nat} {f r : Nat → Int32} {H : Heap} (hr : ∀ j, j < 65 → r j = f j) (h : va_P D vwCl [(c0, .inl (ci 0, 65, .inl f)), (c1, .inl (ci 0, 65, .inl r))] H) : va_P D vwCl [(c0, .inl (ci 0, 65, .inl f)), (c1, .inl (ci 0, 65, .inl f))] H := fun i q hq => by
  match i, hq with
  | 0, hq => cases hq; exact h 0 _ rfl
  | 1, hq => cases hq; exact va_P1c hr (h 1 _ rfl)
theorem am_ne {am : Nat → Nat} (hI : injA am 16) {i j : Nat} (hi : i < 16) (hj : j < 16) (h : i ≠ j) : am i ≠ am j := fun e => h (hI i j hi hj e)
theorem two_pos (n : Nat) : 0 < 1 * 2 ^ n := by rw [Nat.one_mul]; exact Nat.two_pow_pos n
theorem sndO_lt {S : OS} (h : WF S) (q se bb : Nat) : sndO S q se bb < 10 := by
  unfold sndO
  split
  · exact loudn_lt h q se
  · decide
theorem pku_zI (S : OS) (v : Int32) : upd (pk S) 2 v = pk (st S 9 0 v.toBitVec.toNat) := by
  have h := pku_z S (v := v.toBitVec.toNat)
  rw [nI_bv] at h
  exact h
theorem setTo_or0 {P : Nat → Bool} {k : Nat} (h : P k = false) : (setTo P k ||| 0) = setTo P (k + 1) := setTo_f0 h
theorem hearP_lt (S : OS) (q bb : Nat) (h : S 7 0 ≤ 8) : reachS S q &&& playIn S bb < 256 := by
  rw [← hear_set]; exact setTo_le (n := 8) h
section MUS
variable {p : Program} {l : Launch} {e : Env} {R : Room} {s : State} {m : MethodId} {args : Array Value} {below : List Frame} {meth : Method} {c : Code} {H : Heap} {locs : List Loc} {cells slots : Nat} {Q : State → Prop}
  {Ts ws ws' : List Cond} {cc bytes : ByteArray} {nL maxL index n : Nat} {own : String} {y : MethodName} {ret : Option FieldType} {rm : Room} {D : va_G} {tys : List (ClassId × FieldType)} {wc : va_W} {E : State → Heap → Prop}
  {As rest st0 : List Value} {pc : Nat} {ls : Array Slot} {r : Option Value} {A A0 : Nat → Prop} {H0 : Heap} {P1 : Heap → Prop}
/-- a call of a static method that changes cells -/
theorem mu_S (S : CallFix p m c cc nL s args Ts own) (hM : Met l y ws rm (va_Pc As (ro_B D tys wc E)) (mu_Q A r P1) 0 0 A) (hG : GoodIn Ts (va_wsS own index y ws)) (hw : ws = Cond.code y bytes maxL ret :: ws') (hrm : rm.cells = 0 ∧ rm.slots = 0)
    (hd : y.cls ≠ "java/lang/invoke/MethodHandle" ∧ y.cls ≠ "java/lang/invoke/VarHandle" ∧ (parseMethodDescriptor y.desc).map (fun d => d.parameters.length) = some n) (hn : As.length = n) (hR : rm.frames + 1 ≤ R.frames ∧ 8 + (maxL + 11) + rm.locals ≤ R.locals)
    (hE : EW E) (hs : E s H) (hK : va_K D vwCl tys s) (hP : va_P D vwCl wc H)
    (hsz : ls.size = nL) (hst : st0 = As.reverse ++ rest) (hro : (rest.map fun v => v.category).sum ≤ 8) (hdg : decode cc pc = .ok (.invokestatic index, 3)) (hf : cells ≤ R.cells ∧ slots ≤ R.slots) (hS : va_S A0 H0 H locs) (hA : ∀ q, A q → A0 q)
    (kk : ∀ (H1 : Heap) (locs1 : List Loc), H.size ≤ H1.size → (∀ q : Nat, q < H.size → ¬ A q → H1[q]? = H[q]?) → P1 H1 → va_S A0 H0 H1 locs1 → W p l e R s m args below meth c H1 locs1 cells slots Q (F0 m (pc + 3) ls (r.toList ++ rest))) : W p l e R s m args below meth c H locs cells slots Q (F0 m pc ls st0) :=
  mu_call (va_runS S hM (va_cwS n S.2.2.2.2 hG hw hrm.1 hrm.2 hd hR) ⟨ro_blind hE, fun U hU hW => ⟨rfl, by rw [hU]; exact hP, va_K.moved hW.alike hK, by rw [hU]; exact hE.1 s U H hW hs⟩⟩ rfl hn hsz hst (lv_room (ls := ls) (rest := st0) (m := m) (pc := pc) hro) hdg hf) hS hA kk
end MUS
