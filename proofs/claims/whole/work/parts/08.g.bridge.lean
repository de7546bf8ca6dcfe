/-! what the class and the model find by other ways is the same -/
theorem maxTo_ge (f : Nat → Nat) : ∀ k j, j < k → f j ≤ maxTo f k
  | 0, _, h => absurd h (Nat.not_lt_zero _)
  | k + 1, j, h => by
    rw [maxTo]
    rcases Nat.lt_or_ge j k with g | g
    · exact Nat.le_trans (maxTo_ge f k j g) (Nat.le_max_left _ _)
    · rw [show j = k by omega]; exact Nat.le_max_right _ _
theorem maxTo_ex (f : Nat → Nat) : ∀ k, 0 < maxTo f k → ∃ j, j < k ∧ f j = maxTo f k
  | 0, h => absurd h (Nat.lt_irrefl 0)
  | k + 1, h => by
    rw [maxTo] at h ⊢
    rcases Nat.le_total (maxTo f k) (f k) with g | g
    · exact ⟨k, by omega, (Nat.max_eq_right g).symm⟩
    · rw [Nat.max_eq_left g] at h ⊢
      obtain ⟨j, h1, h2⟩ := maxTo_ex f k h
      exact ⟨j, by omega, h2⟩
theorem maxTo_lt {f : Nat → Nat} {m : Nat} (hm : 0 < m) : ∀ k, (∀ j, j < k → f j < m) → maxTo f k < m
  | 0, _ => hm
  | k + 1, h => by
    rw [maxTo]
    have a := maxTo_lt hm k (fun j hj => h j (by omega))
    have b := h k (by omega)
    exact Nat.max_lt.mpr ⟨a, b⟩
theorem bit_ex {x : Nat} (h : x ≠ 0) : ∃ i, x.testBit i = true := by
  rcases Classical.em (∃ i, x.testBit i = true) with g | g
  · exact g
  · exfalso
    apply h
    apply Nat.eq_of_testBit_eq
    intro i
    rw [Nat.zero_testBit]
    cases e : x.testBit i
    · rfl
    · exact absurd ⟨i, e⟩ g
theorem and_zero_iff {x t : Nat} : x &&& t = 0 ↔ ∀ i, x.testBit i = true → t.testBit i = false := by
  constructor
  · intro h i hi
    have : (x &&& t).testBit i = false := by rw [h, Nat.zero_testBit]
    rw [Nat.testBit_and, hi, Bool.true_and] at this
    exact this
  · intro h
    apply Nat.eq_of_testBit_eq
    intro i
    rw [Nat.testBit_and, Nat.zero_testBit]
    cases e : x.testBit i
    · rfl
    · rw [h i e]; rfl
theorem loudst_bit (S : OS) (se P i : Nat) : (loudst S se P).testBit i = (decide (i < S 7 0) && (decide (0 < great S se P) && P.testBit i && loudn S i se == great S se P)) := by
  rw [loudst, setTo_bit]
/-- less is heard of those of t alone just where all the loudest are not of t -/
theorem hit (S : OS) (se P t : Nat) : great S se (t &&& P) < great S se P ↔ (loudst S se P ≠ 0 ∧ loudst S se P &&& t = 0) := by
  constructor
  · intro h
    have h0 : 0 < great S se P := by omega
    refine ⟨?_, and_zero_iff.mpr ?_⟩
    · obtain ⟨j, h1, h2⟩ := maxTo_ex _ _ (show 0 < maxTo (fun q => if P.testBit q then loudn S q se else 0) (S 7 0) from h0)
      have hb : P.testBit j = true := by
        cases e : P.testBit j
        · simp only [e] at h2
          rw [if_neg (by decide)] at h2
          rw [great, ← h2] at h0
          exact absurd h0 (Nat.lt_irrefl 0)
        · rfl
      simp only [hb, if_true] at h2
      intro e
      have g := loudst_bit S se P j
      rw [e, Nat.zero_testBit, decide_eq_true h1, decide_eq_true h0, hb, show loudn S j se = great S se P from h2] at g
      simp at g
    · intro i hi
      rw [loudst_bit] at hi
      simp only [Bool.and_eq_true, decide_eq_true_eq, beq_iff_eq] at hi
      obtain ⟨hi1, ⟨_, hi3⟩, hi4⟩ := hi
      cases e : t.testBit i
      · rfl
      · exfalso
        have g := maxTo_ge (fun q => if (t &&& P).testBit q then loudn S q se else 0) (S 7 0) i hi1
        simp only [Nat.testBit_and, e, hi3, Bool.and_self, if_true] at g
        have g2 : great S se (t &&& P) = maxTo (fun q => if (t.testBit q && P.testBit q) = true then loudn S q se else 0) (S 7 0) := by
          rw [great]
          congr 1
          funext q
          rw [Nat.testBit_and]
        rw [← g2, hi4] at g
        omega
  · rintro ⟨h1, h2⟩
    obtain ⟨j, hj⟩ := bit_ex h1
    rw [loudst_bit] at hj
    simp only [Bool.and_eq_true, decide_eq_true_eq, beq_iff_eq] at hj
    obtain ⟨_, ⟨h0, _⟩, _⟩ := hj
    refine maxTo_lt h0 _ (fun i hi => ?_)
    simp only [Nat.testBit_and]
    by_cases e : (t.testBit i && P.testBit i) = true
    · rw [if_pos e]
      simp only [Bool.and_eq_true] at e
      have g := maxTo_ge (fun q => if P.testBit q then loudn S q se else 0) (S 7 0) i hi
      simp only [e.2, if_true] at g
      rcases Nat.lt_or_ge (loudn S i se) (great S se P) with g2 | g2
      · exact g2
      · exfalso
        have e3 : loudn S i se = great S se P := Nat.le_antisymm g g2
        have b : (loudst S se P).testBit i = true := by
          rw [loudst_bit, decide_eq_true hi, decide_eq_true h0, e.2, e3]; simp
        have := and_zero_iff.mp h2 i b
        rw [e.1] at this
        cases this
    · rw [if_neg e]; exact h0
def lessN (S : OS) (t : Nat) : Nat := sumTo (fun b => cntTo (fun s => decide (great S s (t &&& playIn S b) < great S s (playIn S b))) 16) 12
theorem sumTo_cong {f g : Nat → Nat} : ∀ k, (∀ j, j < k → f j = g j) → sumTo f k = sumTo g k
  | 0, _ => rfl
  | k + 1, h => by rw [sumTo, sumTo, sumTo_cong k (fun j hj => h j (by omega)), h k (by omega)]
theorem cntTo_cong {P Q : Nat → Bool} : ∀ k, (∀ j, j < k → P j = Q j) → cntTo P k = cntTo Q k
  | 0, _ => rfl
  | k + 1, h => by rw [cntTo, cntTo, cntTo_cong k (fun j hj => h j (by omega)), h k (by omega)]
theorem sumTo_add (f g : Nat → Nat) : ∀ k, sumTo (fun j => f j + g j) k = sumTo f k + sumTo g k
  | 0 => rfl
  | k + 1 => by rw [sumTo, sumTo, sumTo, sumTo_add f g k]; omega
theorem sumTo_0 {f : Nat → Nat} : ∀ k, (∀ j, j < k → f j = 0) → sumTo f k = 0
  | 0, _ => rfl
  | k + 1, h => by rw [sumTo, sumTo_0 k (fun j hj => h j (by omega)), h k (by omega)]
theorem sumTo_one {f : Nat → Nat} {v : Nat} : ∀ k, (∀ j, j < k → j ≠ v → f j = 0) → sumTo f k = if v < k then f v else 0
  | 0, _ => rfl
  | k + 1, h => by
    rw [sumTo, sumTo_one k (fun j hj hn => h j (by omega) hn)]
    by_cases e : k = v
    · subst e
      rw [if_neg (Nat.lt_irrefl k), if_pos (by omega)]
      omega
    · rw [h k (by omega) e]
      by_cases g : v < k
      · rw [if_pos g, if_pos (by omega)]; rfl
      · rw [if_neg g, if_neg (by omega)]
theorem cntTo_s (P : Nat → Bool) (k : Nat) : cntTo P (k + 1) = cntTo P k + (if P k then 1 else 0) := by
  rw [cntTo]
  split <;> rfl
theorem cls_cnt {Q : Nat → Bool} {f : Nat → Nat} {N : Nat} : ∀ m, (∀ s, s < m → f s < N) → sumTo (fun L => if Q L then cntTo (fun s => f s == L) m else 0) N = cntTo (fun s => Q (f s)) m
  | 0, _ => by
    rw [sumTo_0 N (fun j _ => by simp [cntTo])]
    rfl
  | m + 1, h => by
    rw [cntTo_s, ← cls_cnt m (fun s hs => h s (by omega))]
    rw [show (fun L => if Q L = true then cntTo (fun s => f s == L) (m + 1) else 0) = (fun L => (if Q L = true then cntTo (fun s => f s == L) m else 0) + (if Q L && f m == L then 1 else 0)) from funext (fun L => by
      rw [cntTo_s]
      cases Q L <;> simp), sumTo_add]
    congr 1
    rw [sumTo_one (v := f m) N (fun j _ hn => by rw [show (f m == j) = false from by simpa using Ne.symm hn, Bool.and_false]; rfl), if_pos (h m (by omega))]
    simp
theorem cls_sum {Q : Nat → Bool} {f : Nat → Nat → Nat} {N m : Nat} : ∀ n, (∀ b s, f b s < N) → sumTo (fun L => if Q L then sumTo (fun b => cntTo (fun s => f b s == L) m) n else 0) N = sumTo (fun b => cntTo (fun s => Q (f b s)) m) n
  | 0, _ => sumTo_0 N (fun j _ => by simp [sumTo])
  | n + 1, h => by
    rw [sumTo, ← cls_sum n h, ← cls_cnt (f := f n) (N := N) m (fun s _ => h n s), ← sumTo_add]
    congr 1
    funext L
    simp only [sumTo]
    cases Q L <;> simp
theorem lstN_eq {S : OS} (h : WF S) (pl : Nat) : lstN S pl = sumTo (fun b => cntTo (fun s => !(loudst S s (playIn S b) == 0) && (loudst S s (playIn S b) &&& (4095 ^^^ pl)) == 0) 16) 12 := by
  rw [lstN, ← cls_sum (Q := fun L => !(L == 0) && (L &&& (4095 ^^^ pl)) == 0) (f := fun b s => loudst S s (playIn S b)) (N := 256) 12 (fun b s => loudst_lt h s _)]
  congr 1
  funext L
  rw [lstF]
  by_cases h0 : L = 0
  · rw [if_pos h0, if_neg (by rw [h0]; simp)]
  · rw [if_neg h0]
    by_cases h1 : L &&& (4095 ^^^ pl) = 0
    · rw [if_pos h1, if_pos (by simp [h0, h1])]
      rfl
    · rw [if_neg h1, if_neg (by simp [h0, h1])]
theorem less_eq (S : OS) (t : Nat) : lessN S t = sumTo (fun b => cntTo (fun s => !(loudst S s (playIn S b) == 0) && (loudst S s (playIn S b) &&& t) == 0) 16) 12 := by
  rw [lessN]
  congr 1
  funext b
  congr 1
  funext s
  rw [Bool.eq_iff_iff, decide_eq_true_eq, hit]
  simp
theorem less_lst {S : OS} (h : WF S) (pl : Nat) : lessN S ((1 * 2 ^ S 7 0 - 1) &&& (4095 ^^^ pl)) = lstN S pl := by
  rw [less_eq, lstN_eq h]
  congr 1
  funext b
  congr 1
  funext s
  congr 2
  rw [← Nat.and_assoc]
  congr 1
  apply Nat.eq_of_testBit_eq
  intro i
  rw [Nat.testBit_and, evb_bit, loudst_bit]
  cases decide (i < S 7 0) <;> simp
theorem sub_one {L k : Nat} (h : L ≠ 0) (hL : L < 256) (hk : k < 8) (h2 : L &&& (4095 ^^^ (1 * 2 ^ k)) = 0) : L = 1 * 2 ^ k := by
  have g := and_zero_iff.mp h2
  have key : ∀ i, L.testBit i = true → i = k := by
    intro i hi
    have h12 : i < 12 := by
      rcases Nat.lt_or_ge i 12 with a | a
      · exact a
      · rw [Nat.testBit_lt_two_pow (Nat.lt_of_lt_of_le hL (show 256 ≤ 2 ^ i from Nat.le_trans (by decide : 256 ≤ 2 ^ 12) (Nat.pow_le_pow_right (by decide) a)))] at hi
        cases hi
    have a := g i hi
    rw [Nat.testBit_xor, bit4095 h12, Nat.one_mul, Nat.testBit_two_pow] at a
    simp at a
    exact a.symm
  obtain ⟨j, hj⟩ := bit_ex h
  have e := key j hj
  subst e
  apply Nat.eq_of_testBit_eq
  intro i
  rw [Nat.one_mul, Nat.testBit_two_pow]
  by_cases e : j = i
  · subst e; simp [hj]
  · rw [decide_eq_false e]
    cases b : L.testBit i
    · rfl
    · exact absurd (key i b).symm e
theorem lstN_one {S : OS} {k : Nat} (hk : k < 8) : lstN S (1 * 2 ^ k) = cLn S 12 (1 * 2 ^ k) := by
  have h1 := two_pos k
  have h2 := two_lt hk
  rw [lstN, sumTo_one (v := 1 * 2 ^ k) 256 (fun L hL hn => ?_), if_pos h2, lstF, if_neg (by omega), if_pos ?_]
  · apply and_zero_iff.mpr
    intro i hi
    rw [Nat.one_mul, Nat.testBit_two_pow] at hi
    have e : k = i := by simpa using hi
    subst e
    rw [Nat.testBit_xor, bit4095 (by omega), Nat.one_mul, Nat.testBit_two_pow_self]
    rfl
  · rw [lstF]
    by_cases h0 : L = 0
    · rw [if_pos h0]
    · rw [if_neg h0, if_neg (fun e => hn (sub_one h0 hL hk e))]
theorem less_one {S : OS} (h : WF S) {k : Nat} (hk : k < 8) : lessN S ((1 * 2 ^ S 7 0 - 1) &&& (4095 ^^^ (1 * 2 ^ k))) = cLn S 12 (1 * 2 ^ k) := by rw [less_lst h, lstN_one hk]
theorem arg_cong {f g : Nat → Nat} : ∀ k, (∀ j, j < k → f j = g j) → argTo f k = argTo g k
  | 0, _ => rfl
  | k + 1, h => by rw [argTo, argTo, arg_cong k (fun j hj => h j (by omega)), h k (by omega)]
theorem lessN_le (S : OS) (t : Nat) : lessN S t ≤ 192 := sumTo_le (b := 16) 12 (fun j _ => cntTo_le _ 16)
