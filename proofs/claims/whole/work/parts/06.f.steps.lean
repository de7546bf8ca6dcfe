/-! what each call answers, and what it leaves -/
def frst (P : Nat → Bool) : Nat → Nat
  | 0 => 0
  | k + 1 => if anyTo P k then frst P k else if P k then k else k + 1
theorem frst_lt {P : Nat → Bool} : ∀ {n}, anyTo P n = true → frst P n < n ∧ P (frst P n) = true ∧ ∀ j, j < frst P n → P j = false
  | 0, h => by simp [anyTo] at h
  | n + 1, h => by
    rw [frst]
    cases q : anyTo P n with
    | true =>
      obtain ⟨a, b, c⟩ := frst_lt q
      simp only [if_true]
      exact ⟨by omega, b, c⟩
    | false =>
      rw [anyTo, q, Bool.false_or] at h
      simp only [h, if_true]
      refine ⟨by simp, h, fun j hj => ?_⟩
      have hj' : j < n := by simpa using hj
      cases r : P j with
      | false => rfl
      | true => exact absurd ((anyTo_iff P n).mpr ⟨j, hj', r⟩) (by rw [q]; decide)
theorem frst_eq {P : Nat → Bool} {n k : Nat} (hk : k < n) (h : P k = true) (h2 : ∀ j, j < k → P j = false) : anyTo P n = true ∧ frst P n = k := by
  have h3 : anyTo P n = true := (anyTo_iff P n).mpr ⟨k, hk, h⟩
  refine ⟨h3, ?_⟩
  obtain ⟨a, b, c⟩ := frst_lt h3
  rcases Nat.lt_trichotomy (frst P n) k with q | q | q
  · rw [h2 _ q] at b; cases b
  · exact q
  · rw [c _ q] at h; cases h
theorem any_no {P : Nat → Bool} {n : Nat} (h : ∀ j, j < n → P j = false) : anyTo P n = false := by
  cases q : anyTo P n with
  | false => rfl
  | true =>
    obtain ⟨j, a, b⟩ := (anyTo_iff P n).mp q
    rw [h j a] at b
    cases b
/-- the first of those below n with most, and one more than what it has -/
def argTo (f : Nat → Nat) : Nat → Nat × Nat
  | 0 => (0, 0)
  | k + 1 => if (argTo f k).2 < f k + 1 then (k, f k + 1) else argTo f k
def bk (X : AS) (c : Bool) (k : Nat) (r : Int32 × AS) : Int32 × AS := if c then r else fl X k
def inR (x : Int32) (lo hi : Nat) : Bool := decide ((lo : Int) ≤ x.toInt ∧ x.toInt ≤ (hi : Int))
def p_bar (X : AS) (b p : Int32) : Int32 × AS := bk X (inN b 12 && inN p 64) 0 (nI (X.1 0 (tn b)), toS X (st X.1 0 (tn b) (tn p)))
def p_barOf (X : AS) (b w : Int32) : Int32 × AS := bk X (inN b 12 && inN w 3) 0 (match tn w with | 0 => nI (X.1 0 (tn b)) | 1 => nI (playIn X.1 (tn b)) | _ => nI (reachd X.1 (tn b)), X)
def p_player (X : AS) (k s : Int32) : Int32 × AS := bk X (inN k 7 && inN s 16) 0 (bk X (decide (X.1 7 0 < 8)) 1 (nI (X.1 7 0), toS X (engS X.1 (tn k) (tn s))))
def p_of (X : AS) (q w : Int32) : Int32 × AS := bk X (inP X q && inN w 7) 0 (match tn w with | 0 => nI (X.1 1 (tn q)) | 1 => nI (X.1 2 (tn q)) | 2 => nI (X.1 3 (tn q)) | 3 => nI (X.1 4 (tn q)) | 4 => nI (X.1 5 (tn q)) | 5 => nI (bPlay X.1 (tn q)) | _ => nI (bAlone X.1 (tn q)), X)
def lim : Nat → Nat
  | 0 => 7
  | 1 => 16
  | 2 => 6
  | 3 => 10
  | _ => 100
def p_change (X : AS) (q w v : Int32) : Int32 × AS := bk X (inP X q && inN w 5 && inN v (lim (tn w))) 0 (nI (X.1 (tn w + 1) (tn q)), toS X (st X.1 (tn w + 1) (tn q) (tn v)))
def swS (S : OS) (q o : Nat) : OS := st (st S 2 q (S 2 o)) 2 o (S 2 q)
def p_swap (X : AS) (x y : Int32) : Int32 × AS := bk X (pairB X x y) 0 (if X.1 2 (tn x) = X.1 2 (tn y) then (nI 0, X) else (nI 1, toS X (swS X.1 (tn x) (tn y))))
def p_sound (X : AS) (q s b : Int32) : Int32 × AS := bk X (inP X q && inN s 16 && inN b 12) 0 (if plays X.1 (tn q) (tn b) then nI (loudn X.1 (tn q) (tn s)) else nI 0, X)
def p_heard (X : AS) (s b : Int32) : Int32 × AS := bk X (inN s 16 && inN b 12) 0 (nI (great X.1 (tn s) (playIn X.1 (tn b))), X)
def p_hears (X : AS) (x y : Int32) : Int32 × AS := bk X (pairB X x y) 0 (nI (bHear X.1 (tn x) (tn y)), X)
def p_hearing (X : AS) (q b : Int32) : Int32 × AS := bk X (inP X q && inN b 12) 0 (nI (reachS X.1 (tn q) &&& playIn X.1 (tn b)), X)
def sNerve (S : OS) : Nat := sumTo (fun q => S 5 q) (S 7 0)
def sLoud (S : OS) : Nat := sumTo (fun q => S 4 q) (S 7 0)
def p_go (X : AS) (n : Int32) : Int32 × AS := bk X (inR n 1 20) 0 (bk X (decide (X.1 8 0 + tn n ≤ 99999)) 4 (nI (sNerve (evCn X.1 (tn n))), toS X (evCn X.1 (tn n))))
def p_now (X : AS) (w : Int32) : Int32 × AS := bk X (inN w 5) 0 (match tn w with | 0 => nI (X.1 8 0) | 1 => nI (sNerve X.1) | 2 => nI (unner X.1) | 3 => nI (sLoud X.1) | _ => nI (heardAll X.1), X)
def p_ahead (X : AS) (q n : Int32) : Int32 × AS := bk X (inP X q && inN n 41) 0 (nI (evCn X.1 (tn n) 5 (tn q)), X)
def brk (S : OS) (q : Nat) : Nat → Bool := fun k => evCn S k 5 q == 0
def p_broken (X : AS) (q : Int32) : Int32 × AS := bk X (inP X q) 0 (bk X (anyTo (brk X.1 (tn q)) 41) 3 (nI (frst (brk X.1 (tn q)) 41), X))
def stl (S : OS) : Nat → Bool := fun k => !chg (evCn S k)
def p_settles (X : AS) : Int32 × AS := bk X (anyTo (stl X.1) 41) 3 (nI (frst (stl X.1) 41), X)
def brave (S : OS) (f q n : Nat) : Nat → Nat := fun v => evCn (st S f q v) n 5 q
def p_kindFor (X : AS) (q n : Int32) : Int32 × AS := bk X (inP X q && inN n 21) 0 (nI (argTo (brave X.1 1 (tn q) (tn n)) 7).1, X)
def p_seatFor (X : AS) (q n : Int32) : Int32 × AS := bk X (inP X q && inN n 21) 0 (nI (argTo (brave X.1 2 (tn q) (tn n)) 16).1, X)
def p_parts (X : AS) (x y : Int32) : Int32 × AS := bk X (pairB X x y) 0 (nI (bPlay X.1 (tn x) ^^^ bPlay X.1 (tn y)), X)
def p_who (X : AS) (b : Int32) : Int32 × AS := bk X (inN b 4096) 0 (nI (setTo (fun q => bPlay X.1 q == tn b) (X.1 7 0)), X)
def p_links (X : AS) : Int32 × AS := (nI (links X.1), X)
def p_loudFor (X : AS) (q s b : Int32) : Int32 × AS := bk X (inP X q && inN s 16 && inN b 12) 0 (bk X (decide (dist (X.1 2 (tn q)) (tn s) + 1 ≤ 9) && plays X.1 (tn q) (tn b)) 3 (nI (dist (X.1 2 (tn q)) (tn s) + 1), X))
def p_seed (X : AS) (v : Int32) : Int32 × AS := (nI (X.1 9 0), toS X (st X.1 9 0 v.toBitVec.toNat))
def p_wipe (X : AS) : Int32 × AS := (nI X.2.2.2.2.1, toL X 0)
def p_hold (X : AS) (s q : Int32) : Int32 × AS := bk X (inN s 10 && (q == -1 || inP X q)) 0 (nI 1, toS X (st X.1 6 (tn s) (if q = -1 then 0 else tn q + 1)))
def p_as (X : AS) (s k : Int32) : Int32 × AS := bk X (inN s 10 && inN k 7) 0 (bk X (decide (0 < X.1 6 (tn s))) 5 (bk X (isK (X.1 1 (X.1 6 (tn s) - 1)) (tn k)) 2 (nI (X.1 6 (tn s) - 1), X)))
def p_image (X : AS) : Int32 × AS := (nI 1, toK X X.1 true)
def p_undo (X : AS) : Int32 × AS := bk X X.2.2.1 3 (nI (X.2.1 8 0), toS X X.2.1)
def p_tear (X : AS) : Int32 × AS := (if X.2.2.1 then nI 1 else nI 0, toK X X.2.1 false)
def p_status (X : AS) (w : Int32) : Int32 × AS := if w = -1 then (nI (sumTo X.2.2.2.1 7), X) else bk X (inN w 7) 0 (nI (X.2.2.2.1 (tn w)), X)
theorem bk_t {X : AS} {c : Bool} {k : Nat} {r : Int32 × AS} (h : c = true) : bk X c k r = r := by rw [bk, h]; rfl
theorem bk_f {X : AS} {c : Bool} {k : Nat} {r : Int32 × AS} (h : c = false) : bk X c k r = fl X k := by rw [bk, h]; rfl
theorem fl_eq (X : AS) (k : Nat) : fl X k = (fnd k, toF X (inc X.2.2.2.1 k)) := rfl
