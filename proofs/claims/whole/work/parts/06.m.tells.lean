/-! tells, feed -/
def anyPr (F : Nat → Nat → Bool) (N : Nat) : Bool := anyTo (fun a => anyTo (fun k => F a (a + 1 + k)) (N - (a + 1))) N
def p_tells (X : AS) : Int32 × AS := bk X (!anyTo (fun a => anyTo (fun k => (bPlay X.1 a ^^^ bPlay X.1 (a + 1 + k)) == 0) (X.1 7 0 - (a + 1))) (X.1 7 0)) 3 (nI (ltb (fun t => !anyTo (fun a => anyTo (fun k => (t &&& (bPlay X.1 a ^^^ bPlay X.1 (a + 1 + k))) == 0) (X.1 7 0 - (a + 1))) (X.1 7 0)) 4096).1, X)
theorem xor_lt9 (S : OS) (a b : Nat) : bPlay S a ^^^ bPlay S b < 4096 := Nat.xor_lt_two_pow (n := 12) (bPlay_lt S a) (bPlay_lt S b)
theorem tl_lt {N i k : Nat} (hN : N ≤ 8) (h : i + 1 + k < N) : sumTo (fun a => N - (a + 1)) i + k < 28 := by
  have hi : i < 7 := by omega
  rcases (show i = 0 ∨ i = 1 ∨ i = 2 ∨ i = 3 ∨ i = 4 ∨ i = 5 ∨ i = 6 by omega) with rfl | rfl | rfl | rfl | rfl | rfl | rfl <;> simp only [sumTo] <;> omega
theorem tl_cnt {N i : Nat} (hN : N ≤ 8) (h : i ≤ N) : sumTo (fun a => N - (a + 1)) i ≤ 28 := by
  rcases (show i = 0 ∨ i = 1 ∨ i = 2 ∨ i = 3 ∨ i = 4 ∨ i = 5 ∨ i = 6 ∨ i = 7 ∨ i = 8 by omega) with rfl | rfl | rfl | rfl | rfl | rfl | rfl | rfl | rfl <;> simp only [sumTo] <;> omega
theorem tl_next {t m k : Nat} {tl : Nat → Nat} {A : Bool} {F : Nat → Nat} (h : anyTo (fun i => (t &&& tl i) == 0) m = (A || anyTo (fun k => (t &&& F k) == 0) k)) : anyTo (fun i => (t &&& updF tl m (F k) i) == 0) (m + 1) = (A || anyTo (fun k => (t &&& F k) == 0) (k + 1)) := by
  rw [anyTo, anyTo, updF_s, ← Bool.or_assoc, ← h, any_cong (P := fun j => (t &&& updF tl m (F k) j) == 0) (Q := fun j => (t &&& tl j) == 0) m (fun j hj => by simp only [updF_n (show j ≠ m by omega)])]
theorem tl_bad {X : AS} {i k : Nat} (hi : i < X.1 7 0) (hk : i + 1 + k < X.1 7 0) (h : bPlay X.1 i ^^^ bPlay X.1 (i + 1 + k) = 0) : (!anyTo (fun a => anyTo (fun k => (bPlay X.1 a ^^^ bPlay X.1 (a + 1 + k)) == 0) (X.1 7 0 - (a + 1))) (X.1 7 0)) = false := by
  have e : anyTo (fun a => anyTo (fun k => (bPlay X.1 a ^^^ bPlay X.1 (a + 1 + k)) == 0) (X.1 7 0 - (a + 1))) (X.1 7 0) = true := (anyTo_iff _ _).mpr ⟨i, hi, (anyTo_iff _ _).mpr ⟨k, by omega, by simpa using h⟩⟩
  rw [e]
  rfl
section TP
variable (ci : Nat → ClassId) (a : Nat → Nat) (tl : Nat) (tb : Nat → Nat) (tq : Nat → Int32) (j v : Nat)
theorem wTp_l : (wTp ci a tl tb tq).set 0 (a 0, .inr (2, ([.int (nI tl), .ref (a 1), .int (tq 0), .int (tq 1), .int (tq 2), .int (tq 3)] : List Value).set 0 (.int (nI v)))) = wTp ci a v tb tq := rfl
theorem wTp_b : (wTp ci a tl tb tq).set 1 (a 1, .inl (ci 0, 120, .inl (upd (fun k => nI (tb k)) j (nI v)))) = wTp ci a tl (updF tb j v) tq := by
  rw [upd_nI tb j v (updF tb j v) (fun k => rfl)]
  rfl
end TP
theorem wTp_D {ci : Nat → ClassId} {a : Nat → Nat} (hI : injA a 2) {tl : Nat} {tb : Nat → Nat} {tq : Nat → Int32} : va_D (aT a) (wTp ci a tl tb tq) := by
  have key : ∀ (k : Nat) (q : Nat × va_E), (wTp ci a tl tb tq)[k]? = some q → k < 2 ∧ q.1 = a k := fun k q h => by
    match k, h with
    | 0, h => cases h; exact ⟨by decide, rfl⟩
    | 1, h => cases h; exact ⟨by decide, rfl⟩
    | k + 2, h => simp [wTp] at h
  refine ⟨fun i j p q hp hq h => ?_, fun k q hk => ?_⟩
  · obtain ⟨h1, h2⟩ := key i p hp
    obtain ⟨h3, h4⟩ := key j q hq
    exact hI i j h1 h3 (by rw [← h2, ← h4]; exact h)
  · obtain ⟨h1, h2⟩ := key k q hk
    exact ⟨k, h1, h2⟩
theorem wX_j38 {D : va_G} {ci : Nat → ClassId} {ad : Nat → Nat} {X : AS} {T : OS} {tq la tt : Nat → Int32} {z : Nat → Nat → Int32} {H H1 : Heap} (hI : injA ad 48) (h : va_P D vwCl (wX ci ad X T tq la tt z) H) (hf : ∀ q : Nat, q < H.size → ¬ aT (sh ad 38) q → H1[q]? = H[q]?) {tl : Nat} {tb : Nat → Nat} {tq' : Nat → Int32} (h2 : va_P D vwCl (wTp ci (sh ad 38) tl tb tq') H1) : va_P D vwCl (wX ci ad (toB X tl tb) T tq' la tt z) H1 := by
  have hf' : ∀ q : Nat, q < H.size → ¬ aR ad 38 40 q → H1[q]? = H[q]? := fun q a b => hf q a (fun c => b (aT_sh q c))
  have h5 := va_Pr h
  have h16 := va_Pr h5
  have h27 := va_Pr h16
  have h38 := va_Pr h27
  have h40 := va_Pr h38
  exact va_P.app (va_Pf (va_Pl h) hf' (adrs_no hI (adrs_main _ _) (by decide) (by decide) (Or.inl (by decide)))) (va_P.app (va_Pf (va_Pl h5) hf' (adrs_no hI (adrs_O _ 5 _ _ _ _) (by decide) (by decide) (Or.inl (by decide)))) (va_P.app (va_Pf (va_Pl h16) hf' (adrs_no hI (adrs_O _ 16 _ _ _ _) (by decide) (by decide) (Or.inl (by decide)))) (va_P.app (va_Pf (va_Pl h27) hf' (adrs_no hI (adrs_O _ 27 _ _ _ _) (by decide) (by decide) (Or.inl (by decide)))) (va_P.app h2 (va_Pf h40 hf' (adrs_no (lo := 40) (hi := 48) hI (adrs_app (adrs_sh 40 _ _ _) (adrs_app (adrs_sh 42 _ _ _) (adrs_app (adrs_sh 44 _ _ _) (adrs_sh 46 _ _ _) (by decide) (by decide)) (by decide) (by decide)) (by decide) (by decide)) (by decide) (by decide) (Or.inr (by decide))))))))
def byteN (x : Int32) (i : Nat) : Nat := (x >>> (nI (8 * i) &&& 31)).toBitVec.toNat % 2 ^ 8
theorem byteN_eq (x : Int32) (i : Nat) : (x >>> (nI (8 * i) &&& 31)) &&& nI 255 = nI (byteN x i) := pk_and _ 8 (by decide)
theorem byteN_lt (x : Int32) (i : Nat) : byteN x i < 256 := Nat.mod_lt _ (by decide)
def fdB (tb : Nat → Nat) (l : Nat) (x : Int32) (n : Nat) : Nat → Nat → Nat
  | 0 => tb
  | k + 1 => updF (fdB tb l x n k) (l + k) (byteN x (n - 1 - k))
def p_feed (X : AS) (x n : Int32) : Int32 × AS := bk X (inR n 1 4) 0 (bk X (decide (X.2.2.2.2.1 + tn n ≤ 120)) 1 (nI (X.2.2.2.2.1 + tn n), toB X (X.2.2.2.2.1 + tn n) (fdB X.2.2.2.2.2.1 X.2.2.2.2.1 x (tn n) (tn n))))
section MU5
variable {p : Program} {l : Launch} {e : Env} {R : Room} {s : State} {m : MethodId} {args : Array Value} {below : List Frame} {meth : Method} {c : Code} {H : Heap} {locs : List Loc} {cells slots : Nat} {Q : State → Prop} {cc : ByteArray} {rest : List Value} {pc : Nat} {ls : Array Slot} {nL : Nat}
theorem nv_iincm1 (hx : p.tables.exec = Jvm.exec) (hb : c.code = cc) {i j k : Nat} {lv lv' : List (Nat × Value)} (hdg : decode cc pc = .ok (.iinc i (-1), 3)) (h : lv_has ls nL lv) (hk : lv[k]? = some (i, .int (nI j))) (hn : i < nL) (hl : (i, Value.int (nI j - nI 1)) :: lv.filter (fun q => !(q.1 == i) && !(q.1 + 1 == i && q.2.category == 2)) = lv')
    (kk : ∀ ls' : Array Slot, lv_has ls' nL lv' → W p l e R s m args below meth c H locs cells slots Q (F0 m (pc + 3) ls' rest)) : W p l e R s m args below meth c H locs cells slots Q (F0 m pc ls rest) := by
  refine lv_iinc hx hb hdg h hk ?_ hn hl kk
  rcases j with _ | j
  · decide
  · rw [show nI (j + 1) - nI 1 = nI j from nI_pred j]
    exact pk_m1 j
end MU5
