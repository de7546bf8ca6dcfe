/-! the model's items and the class's steps are one -/
def apI (S : OS) (w i j k v : Nat) : OS := if w = 10 then st S 0 i j else comeS S w i j k v
def okI (S : OS) (w i j k v : Nat) : Prop := (w = 10 ∧ i < 12 ∧ j < 64 ∧ k = 0 ∧ v = 0) ∨ (w < 7 ∧ i < 16 ∧ j < 6 ∧ k < 10 ∧ v < 100 ∧ S 7 0 < 8)
theorem okI_WF {S : OS} {w i j k v : Nat} (h : WF S) (ho : okI S w i j k v) : WF (apI S w i j k v) := by
  unfold apI
  rcases ho with ⟨e, _, h2, _⟩ | ⟨h1, h2, h3, h4, h5, h6⟩
  · rw [if_pos e]; exact WF_st0 h _ h2
  · rw [if_neg (by omega)]; exact WF_comeS h h6 h1 h2 h3 h4 h5
section TXP
variable {tb : Nat → Nat} {tl : Nat}
theorem pR_a (i f mx u p : Nat) (S : OS) : aS tb tl i mx (false, p) = (!(pR tb tl i f mx u p S).1, (pR tb tl i f mx u p S).2.1) := by
  unfold aS pR mW mP
  cases h : isW tb tl p i
  · simp [h]
  · cases h2 : rNum tb tl (nxt tb tl p) mx <;> simp [h, h2]
theorem aS_w {i mx : Nat} {s : Bool × Nat} (h : s.1 = true) : aS tb tl i mx s = s := by
  unfold aS
  rw [h]; rfl
theorem pR_v {i f mx u p o : Nat} {S : OS} (h : (pR tb tl i f mx u p S).1 = true) (ho : o = S f u) (hb : o ≤ mx) : (pR tb tl i f mx u p S).2.2 = st S f u (aV tb tl i o (false, p)) ∧ aV tb tl i o (false, p) ≤ mx := by
  unfold pR at h ⊢
  unfold aV
  cases h1 : isW tb tl p i
  · simp only [h1, Bool.false_or, Bool.not_false, if_true]
    rw [if_neg (by decide), ho, st_self]
    exact ⟨rfl, ho ▸ hb⟩
  · cases h2 : rNum tb tl (nxt tb tl p) mx
    · rw [h1, if_pos rfl, h2, if_neg (by decide)] at h
      cases h
    · simp only [h1, Bool.false_or, Bool.not_true, if_true]
      rw [if_neg (by decide)]
      exact ⟨rfl, rNum_le h2⟩
theorem thn_a {i f mx u : Nat} {r : RS} {s : Bool × Nat} (hs : s = (!r.1, r.2.1)) : aS tb tl i mx s = (!(thn r (pR tb tl i f mx u)).1, (thn r (pR tb tl i f mx u)).2.1) := by
  unfold thn
  cases h : r.1
  · rw [if_neg (by decide), aS_w (by rw [hs, h]; rfl), hs, h]
  · rw [if_pos rfl, hs, h]
    exact pR_a i f mx u r.2.1 r.2.2
theorem thn_t {r : RS} {f : Nat → OS → RS} (h : (thn r f).1 = true) : r.1 = true := by
  unfold thn at h
  cases h1 : r.1
  · rw [h1, if_neg (by decide)] at h
    rw [h1] at h; cases h
  · rfl
theorem thn_v {i f mx u o : Nat} {r : RS} {s : Bool × Nat} (hs : s = (!r.1, r.2.1)) (h : (thn r (pR tb tl i f mx u)).1 = true) (ho : o = r.2.2 f u) (hb : o ≤ mx) : r.1 = true ∧ (thn r (pR tb tl i f mx u)).2.2 = st r.2.2 f u (aV tb tl i o s) ∧ aV tb tl i o s ≤ mx := by
  unfold thn at h ⊢
  cases h1 : r.1
  · rw [h1, if_neg (by decide)] at h
    rw [h1] at h; cases h
  · rw [h1, if_pos rfl] at h
    rw [if_pos rfl, hs, h1]
    exact ⟨rfl, pR_v h ho hb⟩
theorem eng_come (S : OS) (k v1 v2 v3 v4 : Nat) : st (st (st (st (engS S k 0) 2 (S 7 0) v1) 3 (S 7 0) v2) 4 (S 7 0) v3) 5 (S 7 0) v4 = comeS S k v1 v2 v3 v4 := by
  funext x y
  simp only [engS, comeS, st]
  by_cases h7 : x = 7
  · subst h7; simp
  · by_cases h5 : x = 5
    · subst h5; by_cases hy : y = S 7 0 <;> simp [hy]
    · by_cases h4 : x = 4
      · subst h4; by_cases hy : y = S 7 0 <;> simp [hy]
      · by_cases h3 : x = 3
        · subst h3; by_cases hy : y = S 7 0 <;> simp [hy]
        · by_cases h2 : x = 2
          · subst h2; by_cases hy : y = S 7 0 <;> simp [hy]
          · simp [h7, h5, h4, h3, h2]
/-- the five numbers of the item -/
def riW (tb : Nat → Nat) (tl p n5 : Nat) : Nat × Nat × Nat × Nat × Nat := if kT tb tl p ≠ 0 then (kT tb tl p - 1, aV tb tl 8 0 (rk0 tb tl n5 p), aV tb tl 9 0 (aS tb tl 8 15 (rk0 tb tl n5 p)), aV tb tl 10 5 (aS tb tl 9 5 (aS tb tl 8 15 (rk0 tb tl n5 p))), aV tb tl 11 50 (aS tb tl 10 9 (aS tb tl 9 5 (aS tb tl 8 15 (rk0 tb tl n5 p))))) else (10, vlu tb tl (rb0 tb tl p).2, vlu tb tl (rb1 tb tl 11 (rb0 tb tl p)).2, 0, 0)
theorem riY_W (y : Nat → Int32) (m p n5 : Nat) : riY tb tl y m p n5 = itU y m (nI (riW tb tl p n5).1) (nI (riW tb tl p n5).2.1) (nI (riW tb tl p n5).2.2.1) (nI (riW tb tl p n5).2.2.2.1) (nI (riW tb tl p n5).2.2.2.2) := by
  unfold riY riW
  split <;> rfl
theorem kR_rel {u p k : Nat} {S : OS} (hS : S 7 0 = u) : aS tb tl 11 99 (aS tb tl 10 9 (aS tb tl 9 5 (aS tb tl 8 15 (false, p)))) = (!(kR tb tl u p (engS S k 0)).1, (kR tb tl u p (engS S k 0)).2.1) ∧ ((kR tb tl u p (engS S k 0)).1 = true → (kR tb tl u p (engS S k 0)).2.2 = comeS S k (aV tb tl 8 0 (false, p)) (aV tb tl 9 0 (aS tb tl 8 15 (false, p))) (aV tb tl 10 5 (aS tb tl 9 5 (aS tb tl 8 15 (false, p)))) (aV tb tl 11 50 (aS tb tl 10 9 (aS tb tl 9 5 (aS tb tl 8 15 (false, p))))) ∧ aV tb tl 8 0 (false, p) ≤ 15 ∧ aV tb tl 9 0 (aS tb tl 8 15 (false, p)) ≤ 5 ∧ aV tb tl 10 5 (aS tb tl 9 5 (aS tb tl 8 15 (false, p))) ≤ 9 ∧ aV tb tl 11 50 (aS tb tl 10 9 (aS tb tl 9 5 (aS tb tl 8 15 (false, p)))) ≤ 99) := by
  have a1 := pR_a (tb := tb) (tl := tl) 8 2 15 u p (engS S k 0)
  have a2 := thn_a (tb := tb) (tl := tl) (i := 9) (f := 3) (mx := 5) (u := u) a1
  have a3 := thn_a (tb := tb) (tl := tl) (i := 10) (f := 4) (mx := 9) (u := u) a2
  have a4 := thn_a (tb := tb) (tl := tl) (i := 11) (f := 5) (mx := 99) (u := u) a3
  refine ⟨a4, fun h => ?_⟩
  have t3 := thn_t (show (thn (thn (thn (pR tb tl 8 2 15 u p (engS S k 0)) (pR tb tl 9 3 5 u)) (pR tb tl 10 4 9 u)) (pR tb tl 11 5 99 u)).1 = true from h)
  have t2 := thn_t t3
  have t1 := thn_t t2
  obtain ⟨v1, b1⟩ := pR_v (tb := tb) (tl := tl) (i := 8) (f := 2) (mx := 15) (u := u) (p := p) (o := 0) (S := engS S k 0) t1 (by rw [← hS]; simp [engS, st]) (by decide)
  obtain ⟨_, v2, b2⟩ := thn_v (tb := tb) (tl := tl) (i := 9) (f := 3) (mx := 5) (u := u) (o := 0) a1 t2 (by rw [v1, ← hS]; simp [engS, st]) (by decide)
  obtain ⟨_, v3, b3⟩ := thn_v (tb := tb) (tl := tl) (i := 10) (f := 4) (mx := 9) (u := u) (o := 5) a2 t3 (by rw [v2, v1, ← hS]; simp [engS, st]) (by decide)
  obtain ⟨_, v4, b4⟩ := thn_v (tb := tb) (tl := tl) (i := 11) (f := 5) (mx := 99) (u := u) (o := 50) a3 h (by rw [v3, v2, v1, ← hS]; simp [engS, st]) (by decide)
  refine ⟨?_, b1, b2, b3, b4⟩
  show (thn (thn (thn (pR tb tl 8 2 15 u p (engS S k 0)) (pR tb tl 9 3 5 u)) (pR tb tl 10 4 9 u)) (pR tb tl 11 5 99 u)).2.2 = _
  rw [v4, v3, v2, v1, ← hS]
  exact eng_come S k _ _ _ _
theorem isW_no {p k : Nat} (hk : k < 7) (h : isW tb tl p k = true) : isW tb tl p 7 = false := by
  cases e : isW tb tl p 7
  · rfl
  · have := isW_u (by omega) (by decide) h e
    omega
/-- what an item does, by the class and by the model -/
theorem ri_rel {p n5 : Nat} {S : OS} (hn : S 7 0 = n5) (h8 : n5 ≤ 8) : riS tb tl p n5 = (!(iR tb tl p S).1, (iR tb tl p S).2.1) ∧ ((iR tb tl p S).1 = true → (iR tb tl p S).2.2 = apI S (riW tb tl p n5).1 (riW tb tl p n5).2.1 (riW tb tl p n5).2.2.1 (riW tb tl p n5).2.2.2.1 (riW tb tl p n5).2.2.2.2 ∧ okI S (riW tb tl p n5).1 (riW tb tl p n5).2.1 (riW tb tl p n5).2.2.1 (riW tb tl p n5).2.2.2.1 (riW tb tl p n5).2.2.2.2 ∧ riN tb tl p n5 = (iR tb tl p S).2.2 7 0) := by
  rcases Nat.eq_zero_or_pos (kT tb tl p) with hk | hk
  · rw [riS_b hk]
    have eW : riW tb tl p n5 = (10, vlu tb tl (rb0 tb tl p).2, vlu tb tl (rb1 tb tl 11 (rb0 tb tl p)).2, 0, 0) := by rw [riW, if_neg (by omega)]
    have eN : riN tb tl p n5 = n5 := if_neg (by omega)
    rw [eW, eN]
    cases hb : isW tb tl p 7
    · rw [iR_0 hb (Or.inl hk)]
      refine ⟨by simp [rb0, rb1, mW, mP, hb], fun h => by cases h⟩
    · rw [iR_b hb]
      have e0 : rb0 tb tl p = (false, nxt tb tl p) := by simp [rb0, mW, mP, hb]
      rw [e0]
      cases h1 : rNum tb tl (nxt tb tl p) 11
      · have eB : bR tb tl p S = (false, nxt tb tl p, S) := by simp [bR, h1]
        rw [eB]
        exact ⟨by simp [rb1, mW, mP, h1], fun h => by cases h⟩
      · have e1 : rb1 tb tl 11 (false, nxt tb tl p) = (false, nxt tb tl (nxt tb tl p)) := by simp [rb1, mW, mP, h1]
        rw [e1]
        cases h2 : rNum tb tl (nxt tb tl (nxt tb tl p)) 63
        · have eB : bR tb tl p S = (false, nxt tb tl (nxt tb tl p), S) := by simp [bR, h1, h2]
          rw [eB]
          exact ⟨by simp [rb1, mW, mP, h2], fun h => by cases h⟩
        · have eB : bR tb tl p S = (true, nxt tb tl (nxt tb tl (nxt tb tl p)), st S 0 (vlu tb tl (nxt tb tl p)) (vlu tb tl (nxt tb tl (nxt tb tl p)))) := by simp [bR, h1, h2]
          rw [eB]
          refine ⟨by simp [rb1, mW, mP, h2], fun _ => ⟨by simp [apI], Or.inl ⟨rfl, ?_, ?_, rfl, rfl⟩, ?_⟩⟩
          · have := rNum_le h1
            show vlu tb tl (nxt tb tl p) < 12
            omega
          · have := rNum_le h2
            show vlu tb tl (nxt tb tl (nxt tb tl p)) < 64
            omega
          · rw [← hn]; rfl
  · obtain ⟨k, ek⟩ : ∃ k, kT tb tl p = k + 1 := ⟨kT tb tl p - 1, by omega⟩
    obtain ⟨w1, w2⟩ := kT_w (tb := tb) (tl := tl) (p := p) (by omega)
    rw [ek, Nat.add_sub_cancel] at w1 w2
    have hb := isW_no w1 w2
    rw [riS_k (by omega)]
    have eW : riW tb tl p n5 = (kT tb tl p - 1, aV tb tl 8 0 (rk0 tb tl n5 p), aV tb tl 9 0 (aS tb tl 8 15 (rk0 tb tl n5 p)), aV tb tl 10 5 (aS tb tl 9 5 (aS tb tl 8 15 (rk0 tb tl n5 p))), aV tb tl 11 50 (aS tb tl 10 9 (aS tb tl 9 5 (aS tb tl 8 15 (rk0 tb tl n5 p))))) := by rw [riW, if_pos (by omega)]
    have eN : riN tb tl p n5 = n5 + 1 := if_pos (by omega)
    rw [eW, eN, ek, Nat.add_sub_cancel]
    rcases Nat.lt_or_ge n5 8 with g | g
    · rw [iR_k hb ek (by omega)]
      have e0 : rk0 tb tl n5 p = (false, nxt tb tl p) := by simp [rk0, mW, mP, g]
      rw [e0]
      obtain ⟨c1, c2⟩ := kR_rel (tb := tb) (tl := tl) (u := S 7 0) (p := nxt tb tl p) (k := k) (S := S) rfl
      refine ⟨c1, fun h => ?_⟩
      obtain ⟨d0, d1, d2, d3, d4⟩ := c2 h
      refine ⟨?_, Or.inr ⟨w1, Nat.lt_succ_of_le d1, Nat.lt_succ_of_le d2, Nat.lt_succ_of_le d3, Nat.lt_succ_of_le d4, by omega⟩, ?_⟩
      · rw [d0, apI, if_neg (by omega)]
      · rw [d0, ← hn]
        simp [comeS, st]
    · rw [iR_0 hb (Or.inr (by omega))]
      have e0 : rk0 tb tl n5 p = (true, p) := by simp [rk0, mW, mP, Nat.not_lt.mpr g]
      rw [e0, aS_w rfl, aS_w rfl, aS_w rfl, aS_w rfl]
      exact ⟨rfl, fun h => by cases h⟩
end TXP
/-- the items told, one by one -/
def itA (y : Nat → Int32) (S : OS) : Nat → OS
  | 0 => S
  | k + 1 => apI (itA y S k) (tn (y (5 * k))) (tn (y (5 * k + 1))) (tn (y (5 * k + 2))) (tn (y (5 * k + 3))) (tn (y (5 * k + 4)))
def okA (y : Nat → Int32) (S : OS) (n : Nat) : Prop := ∀ k, k < n → okI (itA y S k) (tn (y (5 * k))) (tn (y (5 * k + 1))) (tn (y (5 * k + 2))) (tn (y (5 * k + 3))) (tn (y (5 * k + 4))) ∧ ∀ j, j < 5 → y (5 * k + j) = nI (tn (y (5 * k + j)))
theorem itU_lo {y : Nat → Int32} {m j : Nat} {w i0 i1 i2 i3 : Int32} (h : j < 5 * m) : itU y m w i0 i1 i2 i3 j = y j := by
  simp only [itU, upd]
  rw [if_neg (by omega), if_neg (by omega), if_neg (by omega), if_neg (by omega), if_neg (by omega)]
theorem itU_0 (y : Nat → Int32) (m : Nat) (w i0 i1 i2 i3 : Int32) : itU y m w i0 i1 i2 i3 (5 * m) = w ∧ itU y m w i0 i1 i2 i3 (5 * m + 1) = i0 ∧ itU y m w i0 i1 i2 i3 (5 * m + 2) = i1 ∧ itU y m w i0 i1 i2 i3 (5 * m + 3) = i2 ∧ itU y m w i0 i1 i2 i3 (5 * m + 4) = i3 := by
  refine ⟨?_, ?_, ?_, ?_, ?_⟩
  · simp only [itU, upd]
    rw [if_neg (by omega), if_neg (by omega), if_neg (by omega), if_neg (by omega), if_pos trivial]
  · simp only [itU, upd]
    rw [if_neg (by omega), if_neg (by omega), if_neg (by omega), if_pos trivial]
  · simp only [itU, upd]
    rw [if_neg (by omega), if_neg (by omega), if_pos trivial]
  · simp only [itU, upd]
    rw [if_neg (by omega), if_pos trivial]
  · simp only [itU, upd]
    rw [if_pos trivial]
theorem itA_lo {y y' : Nat → Int32} {S : OS} {n : Nat} (h : ∀ j, j < 5 * n → y' j = y j) : ∀ k, k ≤ n → itA y' S k = itA y S k
  | 0, _ => rfl
  | k + 1, hk => by
    rw [itA, itA, itA_lo h k (by omega), h (5 * k) (by omega), h (5 * k + 1) (by omega), h (5 * k + 2) (by omega), h (5 * k + 3) (by omega), h (5 * k + 4) (by omega)]
theorem okA_lo {y y' : Nat → Int32} {S : OS} {n : Nat} (h : ∀ j, j < 5 * n → y' j = y j) (ho : okA y S n) : okA y' S n := by
  intro k hk
  obtain ⟨a, b⟩ := ho k hk
  rw [itA_lo h k (by omega), h (5 * k) (by omega), h (5 * k + 1) (by omega), h (5 * k + 2) (by omega), h (5 * k + 3) (by omega), h (5 * k + 4) (by omega)]
  exact ⟨a, fun j hj => by rw [h (5 * k + j) (by omega)]; exact b j hj⟩
theorem it_next {y : Nat → Int32} {S S1 : OS} {m w i j k v : Nat} (ho : okA y S m) (hS : itA y S m = S1) (hi : okI S1 w i j k v) : okA (itU y m (nI w) (nI i) (nI j) (nI k) (nI v)) S (m + 1) ∧ itA (itU y m (nI w) (nI i) (nI j) (nI k) (nI v)) S (m + 1) = apI S1 w i j k v := by
  have hw : w < 2147483648 ∧ i < 2147483648 ∧ j < 2147483648 ∧ k < 2147483648 ∧ v < 2147483648 := by
    unfold okI at hi
    omega
  obtain ⟨u0, u1, u2, u3, u4⟩ := itU_0 y m (nI w) (nI i) (nI j) (nI k) (nI v)
  have e1 : itA (itU y m (nI w) (nI i) (nI j) (nI k) (nI v)) S m = S1 := by
    rw [itA_lo (fun j hj => itU_lo hj) m (Nat.le_refl m)]; exact hS
  have e2 : itA (itU y m (nI w) (nI i) (nI j) (nI k) (nI v)) S (m + 1) = apI S1 w i j k v := by
    rw [itA, e1, u0, u1, u2, u3, u4, tn_nI hw.1, tn_nI hw.2.1, tn_nI hw.2.2.1, tn_nI hw.2.2.2.1, tn_nI hw.2.2.2.2]
  refine ⟨fun q hq => ?_, e2⟩
  rcases Nat.lt_or_ge q m with g | g
  · exact okA_lo (n := m) (fun j hj => itU_lo hj) ho q g
  · rw [show q = m by omega, e1, u0, u1, u2, u3, u4, tn_nI hw.1, tn_nI hw.2.1, tn_nI hw.2.2.1, tn_nI hw.2.2.2.1, tn_nI hw.2.2.2.2]
    refine ⟨hi, fun q hq => ?_⟩
    · rcases (show q = 0 ∨ q = 1 ∨ q = 2 ∨ q = 3 ∨ q = 4 by omega) with rfl | rfl | rfl | rfl | rfl
      · show itU y m (nI w) (nI i) (nI j) (nI k) (nI v) (5 * m) = nI (tn (itU y m (nI w) (nI i) (nI j) (nI k) (nI v) (5 * m)))
        rw [u0, tn_nI hw.1]
      · rw [u1, tn_nI hw.2.1]
      · rw [u2, tn_nI hw.2.2.1]
      · rw [u3, tn_nI hw.2.2.2.1]
      · rw [u4, tn_nI hw.2.2.2.2]
