/-! the fewest, found upwards and found downwards -/
def bst (P : Nat → Bool) (E b : Nat) : Prop := b ≤ E ∧ P b = true ∧ ∀ s, s ≤ E → P s = true → pop b < pop s ∨ (pop b = pop s ∧ b ≤ s)
theorem bst_u {P : Nat → Bool} {E b c : Nat} (hb : bst P E b) (hc : bst P E c) : b = c := by
  have h1 := hb.2.2 c hc.1 hc.2.1
  have h2 := hc.2.2 b hb.1 hb.2.1
  omega
theorem ltb_bst (P : Nat → Bool) : ∀ n, ((∀ s, s < n → P s = false) ∧ ltb P n = (0, 13)) ∨ ((ltb P n).1 < n ∧ P (ltb P n).1 = true ∧ (ltb P n).2 = pop (ltb P n).1 ∧ ∀ s, s < n → P s = true → pop (ltb P n).1 < pop s ∨ (pop (ltb P n).1 = pop s ∧ (ltb P n).1 ≤ s))
  | 0 => Or.inl ⟨fun s h => absurd h (Nat.not_lt_zero s), rfl⟩
  | k + 1 => by
    have hk := pop_le k
    rw [ltb]
    by_cases hP : P k = true
    · rcases ltb_bst P k with ⟨h1, h2⟩ | ⟨h1, h2, h3, h4⟩
      · rw [if_pos ⟨by rw [h2]; show pop k < 13; omega, hP⟩]
        refine Or.inr ⟨Nat.lt_succ_self k, hP, rfl, fun s hs hs2 => ?_⟩
        rcases Nat.lt_or_ge s k with g | g
        · rw [h1 s g] at hs2; cases hs2
        · rw [show s = k by omega]; exact Or.inr ⟨rfl, Nat.le_refl k⟩
      · by_cases hq : pop k < (ltb P k).2
        · rw [if_pos ⟨hq, hP⟩]
          refine Or.inr ⟨Nat.lt_succ_self k, hP, rfl, fun s hs hs2 => ?_⟩
          rcases Nat.lt_or_ge s k with g | g
          · have := h4 s g hs2
            rw [h3] at hq
            show pop k < pop s ∨ _
            omega
          · rw [show s = k by omega]; exact Or.inr ⟨rfl, Nat.le_refl k⟩
        · rw [if_neg (fun z => hq z.1)]
          refine Or.inr ⟨by omega, h2, h3, fun s hs hs2 => ?_⟩
          rcases Nat.lt_or_ge s k with g | g
          · exact h4 s g hs2
          · rw [show s = k by omega]
            rw [h3] at hq
            omega
    · rw [if_neg (fun z => hP z.2)]
      have hf : P k = false := by cases e : P k <;> simp_all
      rcases ltb_bst P k with ⟨h1, h2⟩ | ⟨h1, h2, h3, h4⟩
      · refine Or.inl ⟨fun s hs => ?_, h2⟩
        rcases Nat.lt_or_ge s k with g | g
        · exact h1 s g
        · rw [show s = k by omega]; exact hf
      · refine Or.inr ⟨by omega, h2, h3, fun s hs hs2 => ?_⟩
        rcases Nat.lt_or_ge s k with g | g
        · exact h4 s g hs2
        · rw [show s = k by omega, hf] at hs2; cases hs2
theorem ltb_is {P : Nat → Bool} {E s : Nat} (hs : s ≤ E) (h : P s = true) : bst P E (ltb P (E + 1)).1 := by
  rcases ltb_bst P (E + 1) with ⟨h1, _⟩ | ⟨h1, h2, _, h4⟩
  · rw [h1 s (by omega)] at h; cases h
  · exact ⟨by omega, h2, fun s hs hs2 => h4 s (by omega) hs2⟩
def dn (P : Nat → Bool) (E : Nat) : Nat → Nat
  | 0 => E
  | k + 1 => if pop (E - k) ≤ pop (dn P E k) ∧ P (E - k) = true then E - k else dn P E k
theorem dn_bst {P : Nat → Bool} {E : Nat} (hE : P E = true) : ∀ k, k ≤ E + 1 → dn P E k ≤ E ∧ P (dn P E k) = true ∧ ∀ s, s ≤ E → E < s + k → P s = true → pop (dn P E k) < pop s ∨ (pop (dn P E k) = pop s ∧ dn P E k ≤ s)
  | 0, _ => ⟨Nat.le_refl E, hE, fun s hs hs2 => absurd hs2 (by omega)⟩
  | k + 1, hk => by
    obtain ⟨h1, h2, h3⟩ := dn_bst hE k (by omega)
    rw [dn]
    split
    · rename_i h
      refine ⟨by omega, h.2, fun s hs hs2 hs3 => ?_⟩
      rcases Nat.lt_or_ge E (s + k) with g | g
      · have := h3 s hs g hs3
        omega
      · rw [show s = E - k by omega]; exact Or.inr ⟨rfl, Nat.le_refl _⟩
    · rename_i h
      refine ⟨h1, h2, fun s hs hs2 hs3 => ?_⟩
      rcases Nat.lt_or_ge E (s + k) with g | g
      · exact h3 s hs g hs3
      · have e : s = E - k := by omega
        rw [← e] at h
        rcases Nat.lt_or_ge (pop (dn P E k)) (pop s) with q | q
        · exact Or.inl q
        · exact absurd ⟨q, hs3⟩ h
theorem dn_le {P : Nat → Bool} {E : Nat} : ∀ k, dn P E k ≤ E
  | 0 => Nat.le_refl E
  | k + 1 => by
    have := dn_le (P := P) (E := E) k
    rw [dn]
    split <;> omega
theorem dn_ltb {P : Nat → Bool} {E : Nat} (hE : P E = true) : dn P E (E + 1) = (ltb P (E + 1)).1 := by
  obtain ⟨h1, h2, h3⟩ := dn_bst hE (E + 1) (Nat.le_refl _)
  exact bst_u ⟨h1, h2, fun s hs hs2 => h3 s hs (by omega) hs2⟩ (ltb_is (Nat.le_refl E) hE)
theorem dn_t {P : Nat → Bool} {E k s : Nat} (hs : s = E - k) (h : pop s ≤ pop (dn P E k)) (h2 : P s = true) : dn P E (k + 1) = s := by subst hs; rw [dn, if_pos ⟨h, h2⟩]
theorem dn_f1 {P : Nat → Bool} {E k s : Nat} (hs : s = E - k) (h : pop (dn P E k) < pop s) : dn P E (k + 1) = dn P E k := by subst hs; rw [dn, if_neg (fun z => by omega)]
theorem dn_f2 {P : Nat → Bool} {E k s : Nat} (hs : s = E - k) (h : P s = false) : dn P E (k + 1) = dn P E k := by subst hs; rw [dn, if_neg (fun z => by rw [h] at z; cases z.2)]
/-- the same, with nothing to begin with: one more than it, 0 is none -/
def mt (P : Nat → Bool) (M : Nat) : Nat → Nat
  | 0 => 0
  | k + 1 => if (mt P M k = 0 ∨ pop (M - k) ≤ pop (mt P M k - 1)) ∧ P (M - k) = true then M - k + 1 else mt P M k
theorem mt_bst {P : Nat → Bool} {M : Nat} : ∀ k, k ≤ M + 1 → (mt P M k = 0 ∧ ∀ s, s ≤ M → M < s + k → P s = false) ∨ (0 < mt P M k ∧ mt P M k - 1 ≤ M ∧ P (mt P M k - 1) = true ∧ ∀ s, s ≤ M → M < s + k → P s = true → pop (mt P M k - 1) < pop s ∨ (pop (mt P M k - 1) = pop s ∧ mt P M k - 1 ≤ s))
  | 0, _ => Or.inl ⟨rfl, fun s hs hs2 => absurd hs2 (by omega)⟩
  | k + 1, hk => by
    rw [mt]
    split
    · rename_i h
      refine Or.inr ⟨by omega, by omega, by rw [show M - k + 1 - 1 = M - k by omega]; exact h.2, fun s hs hs2 hs3 => ?_⟩
      rw [show M - k + 1 - 1 = M - k by omega]
      rcases Nat.lt_or_ge M (s + k) with g | g
      · rcases mt_bst (P := P) (M := M) k (by omega) with ⟨_, h2⟩ | ⟨h1, h2, h3, h4⟩
        · rw [h2 s hs g] at hs3; cases hs3
        · have := h4 s hs g hs3
          omega
      · rw [show s = M - k by omega]; exact Or.inr ⟨rfl, Nat.le_refl _⟩
    · rename_i h
      rcases mt_bst (P := P) (M := M) k (by omega) with ⟨h1, h2⟩ | ⟨h1, h2, h3, h4⟩
      · refine Or.inl ⟨h1, fun s hs hs2 => ?_⟩
        rcases Nat.lt_or_ge M (s + k) with g | g
        · exact h2 s hs g
        · have e : s = M - k := by omega
          rw [← e] at h
          cases q : P s
          · rfl
          · exact absurd ⟨Or.inl h1, q⟩ h
      · refine Or.inr ⟨h1, h2, h3, fun s hs hs2 hs3 => ?_⟩
        rcases Nat.lt_or_ge M (s + k) with g | g
        · exact h4 s hs g hs3
        · have e : s = M - k := by omega
          rw [← e] at h
          rcases Nat.lt_or_ge (pop (mt P M k - 1)) (pop s) with q | q
          · exact Or.inl q
          · exact absurd ⟨Or.inr q, hs3⟩ h
theorem mt_le {P : Nat → Bool} {M : Nat} : ∀ k, mt P M k ≤ M + 1
  | 0 => Nat.zero_le _
  | k + 1 => by
    have := mt_le (P := P) (M := M) k
    rw [mt]
    split <;> omega
theorem mt_some {P : Nat → Bool} {M s : Nat} (hs : s ≤ M) (h : P s = true) : 0 < mt P M (M + 1) ∧ mt P M (M + 1) - 1 = (ltb P (M + 1)).1 := by
  rcases mt_bst (P := P) (M := M) (M + 1) (Nat.le_refl _) with ⟨_, h2⟩ | ⟨h1, h2, h3, h4⟩
  · rw [h2 s hs (by omega)] at h; cases h
  · exact ⟨h1, bst_u ⟨h2, h3, fun s hs hs2 => h4 s hs (by omega) hs2⟩ (ltb_is hs h)⟩
theorem mt_none {P : Nat → Bool} {M : Nat} (h : ∀ s, s ≤ M → P s = false) : mt P M (M + 1) = 0 := by
  rcases mt_bst (P := P) (M := M) (M + 1) (Nat.le_refl _) with ⟨h1, _⟩ | ⟨_, h2, h3, _⟩
  · exact h1
  · rw [h _ h2] at h3; cases h3
theorem mt_t {P : Nat → Bool} {M k s : Nat} (hs : s = M - k) (h : mt P M k = 0 ∨ pop s ≤ pop (mt P M k - 1)) (h2 : P s = true) : mt P M (k + 1) = s + 1 := by subst hs; rw [mt, if_pos ⟨h, h2⟩]
theorem mt_f1 {P : Nat → Bool} {M k s : Nat} (hs : s = M - k) (h0 : mt P M k ≠ 0) (h : pop (mt P M k - 1) < pop s) : mt P M (k + 1) = mt P M k := by subst hs; rw [mt, if_neg (fun z => by omega)]
theorem mt_f2 {P : Nat → Bool} {M k s : Nat} (hs : s = M - k) (h : P s = false) : mt P M (k + 1) = mt P M k := by subst hs; rw [mt, if_neg (fun z => by rw [h] at z; cases z.2)]
theorem sum_any {f : Nat → Nat} {Q : Nat → Bool} (hq : ∀ L, Q L = decide (0 < f L)) : ∀ n, (sumTo f n == 0) = !anyTo Q n
  | 0 => rfl
  | n + 1 => by
    rw [sumTo, anyTo, Bool.not_or, ← sum_any hq n, hq n, Bool.eq_iff_iff]
    first | (simp; done) | (simp; omega)
theorem less_fw {S : OS} (h : WF S) (t : Nat) : (lessN S t == 0) = !anyTo (fun L => decide (0 < L) && decide (0 < cLn S 12 L) && (t &&& L) == 0) 256 := by
  rw [less_eq, ← cls_sum (Q := fun L => !(L == 0) && (L &&& t) == 0) (f := fun b s => loudst S s (playIn S b)) (N := 256) 12 (fun b s => loudst_lt h s _)]
  refine sum_any (fun L => ?_) 256
  rw [Nat.and_comm t L, show sumTo (fun b => cntTo (fun s => loudst S s (playIn S b) == L) 16) 12 = cLn S 12 L from rfl]
  rcases Nat.eq_zero_or_pos L with e | e
  · subst e; simp
  · by_cases g : L &&& t = 0
    · have hq : (!(L == 0) && (L &&& t) == 0) = true := by simp [g]; omega
      rw [if_pos hq]
      simp [g, e]
    · have hq : (!(L == 0) && (L &&& t) == 0) = false := by simp [g]
      rw [if_neg (by rw [hq]; decide)]
      simp [g]
theorem less_all (S : OS) : lessN S (1 * 2 ^ S 7 0 - 1) = 0 := by
  rw [lessN]
  refine sumTo_0 12 (fun b _ => ?_)
  rw [evb_and]
  have e : (fun s => decide (great S s (playIn S b) < great S s (playIn S b))) = fun _ => false := funext (fun s => decide_eq_false (Nat.lt_irrefl _))
  rw [e]
  have z : ∀ k, cntTo (fun _ => false) k = 0 := fun k => by
    induction k with
    | zero => rfl
    | succ k ih => rw [← cntTo_f rfl]; exact ih
  exact z 16
theorem fewest_eq {X : AS} (h : WF X.1) : p_fewest X = (nI (dn (fun t => lessN X.1 t == 0) (1 * 2 ^ X.1 7 0 - 1) (1 * 2 ^ X.1 7 0)), X) := by
  have h0 := two_pos (X.1 7 0)
  have e : 1 * 2 ^ X.1 7 0 = (1 * 2 ^ X.1 7 0 - 1) + 1 := by omega
  have e2 := dn_ltb (P := fun t => lessN X.1 t == 0) (E := 1 * 2 ^ X.1 7 0 - 1) (by show (lessN X.1 (1 * 2 ^ X.1 7 0 - 1) == 0) = true; rw [less_all]; rfl)
  rw [← e] at e2
  rw [p_fewest, e2, show (fun t => lessN X.1 t == 0) = (fun t => !anyTo (fun L => decide (0 < L) && decide (0 < cLn X.1 12 L) && (t &&& L) == 0) 256) from funext (fun t => less_fw h t)]
def apM (S : OS) (t : Nat) : Bool := !anyTo (fun a => anyTo (fun b => ((bPlay S a ^^^ bPlay S b) &&& t) == 0) a) (S 7 0)
theorem apM_eq (S : OS) (t : Nat) : apM S t = !anyTo (fun a => anyTo (fun k => (t &&& (bPlay S a ^^^ bPlay S (a + 1 + k))) == 0) (S 7 0 - (a + 1))) (S 7 0) := by
  rw [apM]
  congr 1
  rw [Bool.eq_iff_iff, anyTo_iff, anyTo_iff]
  constructor
  · rintro ⟨a, ha, h⟩
    obtain ⟨b, hb, h2⟩ := (anyTo_iff _ a).mp h
    refine ⟨b, by omega, (anyTo_iff _ _).mpr ⟨a - (b + 1), by omega, ?_⟩⟩
    rw [show b + 1 + (a - (b + 1)) = a by omega, Nat.and_comm, Nat.xor_comm]
    exact h2
  · rintro ⟨a, ha, h⟩
    obtain ⟨k, hk, h2⟩ := (anyTo_iff _ _).mp h
    refine ⟨a + 1 + k, by omega, (anyTo_iff _ _).mpr ⟨a, by omega, ?_⟩⟩
    rw [Nat.and_comm, Nat.xor_comm]
    exact h2
theorem and4095 {x : Nat} (h : x < 4096) : 4095 &&& x = x := by
  rw [Nat.and_comm, show (4095 : Nat) = 2 ^ 12 - 1 by decide, Nat.and_two_pow_sub_one_eq_mod]
  exact Nat.mod_eq_of_lt h
theorem ap_4095 (S : OS) : apM S 4095 = !anyTo (fun a => anyTo (fun k => (bPlay S a ^^^ bPlay S (a + 1 + k)) == 0) (S 7 0 - (a + 1))) (S 7 0) := by
  rw [apM_eq]
  congr 1
  refine any_cong _ (fun a _ => any_cong _ (fun k _ => ?_))
  rw [and4095 (xor_lt9 S a (a + 1 + k))]
theorem ap_none {S : OS} (h : apM S 4095 = false) (t : Nat) : apM S t = false := by
  rw [apM, Bool.not_eq_false', anyTo_iff] at h ⊢
  obtain ⟨a, ha, h2⟩ := h
  obtain ⟨b, hb, h3⟩ := (anyTo_iff _ a).mp h2
  refine ⟨a, ha, (anyTo_iff _ a).mpr ⟨b, hb, ?_⟩⟩
  have e : bPlay S a ^^^ bPlay S b = 0 := by
    have h4 : (bPlay S a ^^^ bPlay S b) &&& 4095 = 0 := by simpa using h3
    rw [Nat.and_comm, and4095 (xor_lt9 S a b)] at h4
    exact h4
  rw [e]
  simp
theorem tells_eq (X : AS) : p_tells X = bk X (decide (0 < mt (apM X.1) 4095 4096)) 3 (nI (mt (apM X.1) 4095 4096 - 1), X) := by
  rw [p_tells, ← ap_4095, show (fun t => !anyTo (fun a => anyTo (fun k => (t &&& (bPlay X.1 a ^^^ bPlay X.1 (a + 1 + k))) == 0) (X.1 7 0 - (a + 1))) (X.1 7 0)) = apM X.1 from funext (fun t => (apM_eq X.1 t).symm)]
  cases e : apM X.1 4095
  · rw [mt_none (M := 4095) (fun s _ => ap_none e s), bk_f rfl, bk_f (decide_eq_false (Nat.lt_irrefl 0))]
  · obtain ⟨h1, h2⟩ := mt_some (P := apM X.1) (M := 4095) (Nat.le_refl _) e
    rw [h2, decide_eq_true h1]
theorem ap_t {A : Bool} {P : Nat → Bool} {k : Nat} (h : (A && !anyTo P k) = true) (h2 : P k = false) : (A && !anyTo P (k + 1)) = true := by rw [anyTo, h2, Bool.or_false]; exact h
theorem ap_f0 {A : Bool} {P : Nat → Bool} {k : Nat} (h : (A && !anyTo P k) = false) : (A && !anyTo P (k + 1)) = false := by
  rw [anyTo]
  cases A <;> cases h2 : anyTo P k <;> simp_all
theorem ap_f1 {A : Bool} {P : Nat → Bool} {k : Nat} (h2 : P k = true) : (A && !anyTo P (k + 1)) = false := by rw [anyTo, h2, Bool.or_true]; simp
