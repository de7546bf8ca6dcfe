/-! sheets and nerve as told -/
def nT (S : OS) (q : Nat) : Nat → OS
  | 0 => S
  | k + 1 => st S 2 q k
theorem st_st (S : OS) (f q u v : Nat) : st (st S f q u) f q v = st S f q v := by
  funext a b
  simp only [st]
  split <;> simp_all
theorem nT_st (S : OS) (q k v : Nat) : st (nT S q k) 2 q v = st S 2 q v := by
  cases k with
  | zero => rfl
  | succ k => exact st_st S 2 q k v
theorem nI_m1 {k : Nat} (h : k < 2147483648) : nI k ≠ -1 := by
  intro e
  have := nI_pos h
  rw [e] at this
  exact this (by decide)
def lackN (X : AS) (x : Int32) : Nat := if inN x 4 then (if X.2.2.2.2.2.2.1 (tn x) = 0 then 5 else 7) else 0
def lk (k : Nat) : Int32 := if k = 7 then -1 else nI k
theorem lackN_le (X : AS) (x : Int32) : lackN X x ≤ 7 := by unfold lackN; (repeat' split) <;> omega
theorem lk_eq {X : AS} {x : Int32} (h : lk (lackN X x) = -1) : lackN X x = 7 := by
  have h1 := lackN_le X x
  unfold lk at h
  split at h
  · assumption
  · exact absurd h (nI_m1 (by omega))
theorem lk_ne {X : AS} {x : Int32} (h : lk (lackN X x) ≠ -1) : lackN X x ≠ 7 := fun e => h (by rw [lk, if_pos e])
theorem lk_nI {k : Nat} (h : k ≠ 7) : lk k = nI k := by rw [lk, if_neg h]
theorem lack_lt {X : AS} {x : Int32} (h : lackN X x ≠ 7) : lackN X x < 7 := by
  have := lackN_le X x
  omega
theorem lack_ok {X : AS} {x : Int32} (h : lackN X x = 7) : ∃ k, k < 4 ∧ X.2.2.2.2.2.2.1 k ≠ 0 ∧ x = nI k := by
  unfold lackN at h
  split at h
  · rename_i h1
    obtain ⟨k, hk, rfl⟩ := in_ex h1 (by decide)
    rw [tn_nI (by omega)] at h
    split at h
    · omega
    · rename_i h2
      exact ⟨k, hk, h2, rfl⟩
  · omega
theorem sb_lt {X : AS} (h : WFX X) (k : Nat) : X.2.2.2.2.2.2.1 k < 64 := by
  rcases h.sb k with q | q | q | q <;> omega
def badA (T : OS) (f : Nat → Int32) (q : Nat) : Nat → Bool := fun i => f i != -1 && f i != nI (evCn T i 5 q)
def goA (T : OS) (n : Nat) (f : Nat → Int32) (q : Nat) : Bool := !anyTo (badA T f q) n
theorem badA_1 {T : OS} {f : Nat → Int32} {q i : Nat} (h : f i = -1) : badA T f q i = false := by simp [badA, h]
theorem badA_2 {T : OS} {f : Nat → Int32} {q i : Nat} (h : f i = nI (evCn T i 5 q)) : badA T f q i = false := by simp [badA, h]
theorem badA_t {T : OS} {f : Nat → Int32} {q i : Nat} (h : f i ≠ -1) (h2 : f i ≠ nI (evCn T i 5 q)) : badA T f q i = true := by simp [badA, h, h2]
theorem goA_f {T : OS} {n : Nat} {f : Nat → Int32} {q i : Nat} (hi : i < n) (h : badA T f q i = true) : goA T n f q = false := by
  rw [goA, (anyTo_iff _ n).mpr ⟨i, hi, h⟩]
  rfl
theorem goA_t {T : OS} {n : Nat} {f : Nat → Int32} {q : Nat} (h : ∀ j, j < n → badA T f q j = false) : goA T n f q = true := by
  rw [goA, any_no h]
  rfl
def p_fitg (f e : Nat) (X : AS) (x q : Int32) : Int32 × AS := if lackN X x = 7 then bk X (inP X q) 0 (nI (setTo (fun v => goA (st X.1 f (tn q) v) (X.2.2.2.2.2.2.2.1 (tn x)) (X.2.2.2.2.2.2.2.2 (tn x)) (tn q)) e), X) else fl X (lackN X x)
def p_fits (X : AS) (x q : Int32) : Int32 × AS := p_fitg 3 6 X x q
def p_kinds (X : AS) (x q : Int32) : Int32 × AS := p_fitg 1 7 X x q
def p_sheet (X : AS) (x b n : Int32) : Int32 × AS := bk X (inN x 4 && (b == nI 0 || b == nI 8 || b == nI 16 || b == nI 32)) 0 (bk X (decide (0 ≤ n)) 6 (bk X (inN n 41) 0 (nI (if tn b = 0 then 0 else tn n), toH X (updF X.2.2.2.2.2.2.1 (tn x) (tn b)) (updF X.2.2.2.2.2.2.2.1 (tn x) (if tn b = 0 then 0 else tn n)) (updF X.2.2.2.2.2.2.2.2 (tn x) (fun _ => 0)))))
def p_write (X : AS) (x i v : Int32) : Int32 × AS := if lackN X x = 7 then bk X (inN i (X.2.2.2.2.2.2.2.1 (tn x))) 0 (nI 1, toH X (updF X.2.2.2.2.2.2.1 (tn x) (X.2.2.2.2.2.2.1 (tn x))) (updF X.2.2.2.2.2.2.2.1 (tn x) (X.2.2.2.2.2.2.2.1 (tn x))) (updF X.2.2.2.2.2.2.2.2 (tn x) (upd (X.2.2.2.2.2.2.2.2 (tn x)) (tn i) (cutN (X.2.2.2.2.2.2.1 (tn x)) v)))) else fl X (lackN X x)
