/-! own rows: copies of whole rows, two orchestras -/
section MU2
variable {p : Program} {l : Launch} {e : Env} {R : Room} {s : State} {m : MethodId} {args : Array Value} {below : List Frame} {meth : Method} {c : Code} {H : Heap} {locs : List Loc} {cells slots : Nat} {Q : State → Prop}
  {Ts ws ws' : List Cond} {cc bytes : ByteArray} {nL maxL index n : Nat} {own C : String} {y : MethodName} {ret : Option FieldType} {rm : Room} {D : va_G} {tys : List (ClassId × FieldType)} {wc wx : va_W} {E : State → Heap → Prop}
  {b : Addr} {As rest st0 : List Value} {a : Array Value} {pc : Nat} {ls : Array Slot} {r : Option Value} {A A0 G : Nat → Prop} {H0 : Heap} {P1 : Heap → Prop}
/-- System.arraycopy of a whole int array -/
theorem nv_copyF (hx : p.tables.exec = Jvm.exec) (hb : c.code = cc) (hml : c.maxLocals = ls.size) (hown : s.vm.findClass own = some m.cls) (hlink : (Cond.methodLink own index arraycopyName).before args s = true) (hnat : (Cond.native arraycopyName).before args s = true) (hstat : (Cond.static arraycopyName).before args s = true) (hini : (Cond.initialized "java/lang/System").before args s = true)
    (hK : va_K D vwCl tys s) (hP : va_P D vwCl wc H) (hD : va_D A wc) (hS : va_S A H0 H locs) (q0 q1 t0 : Nat) {a0 a1 n0 : Nat} {cA : ClassId} {f g : Nat → Int32} (ha0 : wc[q0]? = some (a0, .inl (cA, n0, .inl f))) (ha1 : wc[q1]? = some (a1, .inl (cA, n0, .inl g))) (ht : tys[t0]? = some (cA, .int)) (hn0 : n0 < 2147483648)
    (hframes : 1 ≤ R.frames) (hlocals : (rest.map fun v => v.category).sum + (nativeFrameWords "java/lang/System" "arraycopy" 5 + 11) ≤ R.locals) (hdg : decode cc pc = .ok (.invokestatic index, 3))
    (kk : ∀ (H1 : Heap) (locs1 : List Loc), va_P D vwCl (wc.set q1 (a1, .inl (cA, n0, .inl f))) H1 → va_D A (wc.set q1 (a1, .inl (cA, n0, .inl f))) → va_S A H0 H1 locs1 → W p l e R s m args below meth c H1 locs1 cells slots Q (F0 m (pc + 3) ls rest)) : W p l e R s m args below meth c H locs cells slots Q (F0 m pc ls (.int (nI n0) :: .int (nI 0) :: .ref a1 :: .int (nI 0) :: .ref a0 :: rest)) := by
  refine nv_copy hx hb hml hown hlink hnat hstat hini hK hP hD hS q0 q1 t0 ha0 ha1 ht (by omega) (by omega) hn0 hn0 hframes hlocals hdg (fun H1 locs1 h1 h2 h3 => kk H1 locs1 ?_ (hD.set ha1) h3)
  intro k q hk
  by_cases e : k = q1
  · subst e
    have hl : k < wc.length := (List.getElem?_eq_some_iff.mp ha1).1
    rw [List.getElem?_set_self hl] at hk
    cases hk
    have h4 := h1 k (a1, .inl (cA, n0, .inl (va_cpy f g 0 0 n0))) (List.getElem?_set_self hl)
    show H1[a1]? = some (vp_cell cA (n0, .inl f))
    rw [← cell_cong (f := va_cpy f g 0 0 n0) (g := f) (fun j hj => by simp [va_cpy, hj])]
    exact h4
  · rw [List.getElem?_set_ne (fun q => e q.symm)] at hk
    exact h1 k q (by rw [List.getElem?_set_ne (fun q => e q.symm)]; exact hk)
/-- an element of an array of references, at a natural place -/
theorem nv_aald (hx : p.tables.exec = Jvm.exec) (hb : c.code = cc) (hK : va_K D vwCl tys s) (hP : va_P D vwCl wc H) (q0 t0 : Nat) {cA : ClassId} {C : String} {n j : Nat} {f : Nat → Option Nat} {a : Nat} (ha : wc[q0]? = some (a, .inl (cA, n, .inr (.inr (.inr (.inr f)))))) (ht : tys[t0]? = some (cA, .object C)) {v : Value} (hj : j < n) (hn : n < 2147483648) (hv : va_rf (f j) = v) (hdg : decode cc pc = .ok (.aaload, 1)) (k : W p l e R s m args below meth c H locs cells slots Q (F0 m (pc + 1) ls (v :: rest))) : W p l e R s m args below meth c H locs cells slots Q (F0 m pc ls (.int (nI j) :: .ref a :: rest)) :=
  va_aldq hx hb hK hP q0 t0 ha ht (vp_in_nI hj hn) hdg (by rw [nI_clamp (Nat.lt_trans hj hn), hv]; exact k)
theorem nI_bv (x : Int32) : nI x.toBitVec.toNat = x := by
  apply Int32.toBitVec_inj.mp
  show BitVec.ofNat 32 x.toBitVec.toNat = x.toBitVec
  simp
theorem bI_fit (q : Bool) : fits .boolean (.int (bI q)) = true := by cases q <;> rfl
end MU2
/-! two orchestras -/
def cpR (S S2 : OS) (i : Nat) : OS := fun a b => if a = i then S2 a b else S a b
def aO2 (a a2 : Nat → Nat) : Nat → Prop := fun q => aO a q ∨ aO a2 q
theorem wO2_D {cI : ClassId} {a a2 : Nat → Nat} (hI : injA a 11) (hI2 : injA a2 11) (hd : ∀ i j, i < 11 → j < 11 → a i ≠ a2 j) (S : OS) (w r nb : Nat → Int32) (S2 : OS) (w2 r2 nb2 : Nat → Int32) : va_D (aO2 a a2) (wO cI a S w r nb ++ wO cI a2 S2 w2 r2 nb2) :=
  va_D.app ((wO_D hI S w r nb).weaken (fun _ _ _ h => Or.inl h)) ((wO_D hI2 S2 w2 r2 nb2).weaken (fun _ _ _ h => Or.inr h)) (fun i j x y hx hy hxy => by
    obtain ⟨h1, h2⟩ := wO_adr _ _ _ _ _ _ i x hx
    obtain ⟨h3, h4⟩ := wO_adr _ _ _ _ _ _ j y hy
    exact hd i j h1 h3 (by rw [← h2, ← h4]; exact hxy))
theorem aO2_G {a a2 : Nat → Nat} {G : Nat → Prop} (hG : ∀ k, k < 11 → G (a k)) (hG2 : ∀ k, k < 11 → G (a2 k)) : ∀ q, aO2 a a2 q → G q := fun q h => h.elim (aO_G hG q) (aO_G hG2 q)
