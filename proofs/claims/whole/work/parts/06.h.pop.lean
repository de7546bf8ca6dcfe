/-! how many bits -/
def pop (x : Nat) : Nat := cntTo (fun k => x.testBit k) 12
def bc1 (x : Nat) : Nat := x - (x % 4294967296 / 2 ^ 1 &&& 1431655765)
def bc2 (x : Nat) : Nat := (x &&& 858993459) + (x % 4294967296 / 2 ^ 2 &&& 858993459)
def bc3 (x : Nat) : Nat := (x + x % 4294967296 / 2 ^ 4) &&& 252645135
def bc4 (x : Nat) : Nat := x + x % 4294967296 / 2 ^ 8
def bc5 (x : Nat) : Nat := x + x % 4294967296 / 2 ^ 16
set_option maxRecDepth 100000 in
theorem popJ_all : (List.range 4096).all (fun x => (bc5 (bc4 (bc3 (bc2 (bc1 x)))) &&& 63) == pop x) = true := by decide +kernel
theorem popJ (x : Nat) (h : x < 4096) : (bc5 (bc4 (bc3 (bc2 (bc1 x)))) &&& 63) = pop x := by
  have := List.all_eq_true.mp popJ_all x (List.mem_range.mpr h)
  simpa using this
theorem cntTo_le (P : Nat → Bool) : ∀ k, cntTo P k ≤ k
  | 0 => Nat.le_refl 0
  | k + 1 => by
    have := cntTo_le P k
    rw [cntTo]
    split <;> omega
theorem pop_le (x : Nat) : pop x ≤ 12 := cntTo_le _ 12
theorem setTo_pop (P : Nat → Bool) : ∀ n k, n ≤ k → cntTo (fun j => (setTo P n).testBit j) k = cntTo P n
  | n, 0, h => by
    rw [show n = 0 by omega]
    rfl
  | n, k + 1, h => by
    rw [cntTo]
    rcases Nat.lt_or_ge k n with q | q
    · have hn : n = k + 1 := by omega
      subst hn
      have e : cntTo (fun j => (setTo P (k + 1)).testBit j) k = cntTo P k := by
        have h1 : ∀ i, i ≤ k → cntTo (fun j => (setTo P (k + 1)).testBit j) i = cntTo P i := by
          intro i
          induction i with
          | zero => intro _; rfl
          | succ i ih =>
            intro hi
            rw [cntTo, cntTo, ih (by omega), setTo_bit]
            simp [show i < k + 1 by omega]
        exact h1 k (Nat.le_refl k)
      rw [e, cntTo, setTo_bit]
      simp
    · rw [setTo_pop P n k q, if_neg]
      rw [setTo_bit]
      simp [show ¬ k < n by omega]
/-- as many as there are, at most -/
theorem playIn_lt2 (S : OS) (bb : Nat) : pop (playIn S bb) ≤ S 7 0 ∨ 12 < S 7 0 := by
  rcases Nat.lt_or_ge 12 (S 7 0) with h | h
  · exact Or.inr h
  · refine Or.inl ?_
    rw [pop, playIn, setTo_pop _ _ _ h]
    exact cntTo_le _ _
theorem pop_n {a n : Nat} (h : a ≤ n ∨ 12 < n) : a ≤ n ∨ 12 < n := h
def hlv (S : OS) (bb : Nat) : Nat := min (pop (playIn S bb)) (S 7 0 - pop (playIn S bb))
theorem hlv_lt {S : OS} (h : WF S) (bb : Nat) : hlv S bb < 9 := by
  have := h.n
  unfold hlv
  omega
def nrst (S : OS) (x y : Nat) : Nat → Nat := fun v => pop (bHear (st S 2 x v) x y)
def p_nearest (X : AS) (x y : Int32) : Int32 × AS := bk X (pairB X x y) 0 (nI (argTo (nrst X.1 (tn x) (tn y)) 16).1, X)
def p_halves (X : AS) : Int32 × AS := (nI (argTo (hlv X.1) 12).1, X)
def p_count (X : AS) (w : Int32) : Int32 × AS := bk X (inN w 8) 0 (match tn w with | 0 => nI (X.1 8 0) | 1 => nI (X.1 7 0) | 2 => nI (pop (unner X.1)) | 3 => nI (sLoud X.1) | 4 => nI (sNerve X.1) | 5 => nI X.2.2.2.2.1 | 6 => nI (X.1 9 0) | _ => nI (spotsT X.1), X)
theorem unner_lt {S : OS} (h : WF S) : unner S < 256 := setTo_le (n := 8) h.n
