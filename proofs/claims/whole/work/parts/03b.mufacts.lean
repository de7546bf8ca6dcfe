/-! own rows: states that change -/
theorem en_K (D : va_G) (cI : ClassId) (G : Nat → Prop) (ka : Nat) : EK G (en D cI G ka) := by
  intro s H H1 h ⟨h1, h2, h3, h4⟩
  exact ⟨h1, va_Z.kept h2 h, va_T.kept h3 h, h4⟩
theorem en_S {D : va_G} {cI : ClassId} {A G : Nat → Prop} {ka : Nat} {s : State} {H0 H : Heap} {locs : List Loc} (hG : ∀ q, A q → G q) (h : en D cI G ka s H0) (hS : va_S A H0 H locs) : en D cI G ka s H := en_K D cI G ka s H0 H (fun q h1 h2 => hS.2.1 q h1 (fun z => h2 (hG q z))) h
theorem va_P.re {D : va_G} {ws ws' : va_W} {H : Heap} (h : ws = ws') (hP : va_P D vwCl ws H) : va_P D vwCl ws' H := h ▸ hP
theorem va_D.re {A : Nat → Prop} {ws ws' : va_W} (h : ws = ws') (hD : va_D A ws) : va_D A ws' := h ▸ hD
/-- an int array's cell hangs on its own places alone -/
theorem cell_cong {cA : ClassId} {n : Nat} {f g : Nat → Int32} (h : ∀ j, j < n → f j = g j) : vp_cell cA (n, .inl f) = vp_cell cA (n, .inl g) := by
  show arrV cA n (fun j => .int (f j)) = arrV cA n (fun j => .int (g j))
  unfold arrV
  congr 1
  apply Array.ext
  · simp
  · intro i h1 h2
    simp only [Array.getElem_ofFn]
    rw [h i (by simpa using h1)]
def st (S : OS) (i j v : Nat) : OS := fun a b => if a = i ∧ b = j then v else S a b
def upF (S : OS) (k : Nat) (f : Nat → Nat) (n : Nat) : OS := fun a b => if a = k ∧ b < n then f b else S a b
theorem upF_st {S : OS} {k i v : Nat} {f : Nat → Nat} (h : v = f i) : st (upF S k f i) k i v = upF S k f (i + 1) := by
  funext a b
  simp only [st, upF]
  by_cases e : a = k
  · by_cases e2 : b = i
    · subst e2; simp [e, h]
    · by_cases e3 : b < i
      · simp [e, e2, e3, show b < i + 1 by omega]
      · simp [e, e2, e3, show ¬ b < i + 1 by omega]
  · simp [e]
theorem upF_0 (S : OS) (k : Nat) (f : Nat → Nat) : upF S k f 0 = S := by
  funext a b
  simp [upF]
theorem upF_skip {S : OS} {k i : Nat} {f : Nat → Nat} (h : S k i = f i) : upF S k f i = upF S k f (i + 1) := by
  funext a b
  simp only [upF]
  by_cases e : a = k
  · subst e
    by_cases e2 : b = i
    · subst e2; simp [h]
    · by_cases e3 : b < i
      · simp [e3, show b < i + 1 by omega]
      · simp [e3, show ¬ b < i + 1 by omega]
  · simp [e]
theorem upF_at (S : OS) (k i : Nat) (f : Nat → Nat) : upF S k f i k i = S k i := by simp [upF]
theorem upF_ne {S : OS} {k a : Nat} (i b : Nat) (f : Nat → Nat) (h : a ≠ k) : upF S k f i a b = S a b := by simp [upF, h]
theorem st_ne {S : OS} {k a : Nat} (i b v : Nat) (h : a ≠ k) : st S k i v a b = S a b := by simp [st, h]
/-! the orchestra's world, one cell changed -/
section WO
variable (cI : ClassId) (a : Nat → Nat) (S : OS) (w r nb : Nat → Int32) (j v : Nat) (x : Int32)
theorem upd_nI (f : Nat → Nat) (j v : Nat) (g : Nat → Nat) (h : ∀ k, g k = if k = j then v else f k) : upd (fun k => nI (f k)) j (nI v) = fun k => nI (g k) := by
  funext k
  rw [h k]
  simp only [upd]
  split <;> rfl
theorem wO_ast0 : (wO cI a S w r nb).set 1 (a 1, .inl (cI, 12, .inl (upd (fun k => nI (S 0 k)) j (nI v)))) = wO cI a (st S 0 j v) w r nb := by
  rw [upd_nI (S 0) j v (st S 0 j v 0) (fun k => by simp [st])]
  rfl
theorem wO_ast1 : (wO cI a S w r nb).set 2 (a 2, .inl (cI, 8, .inl (upd (fun k => nI (S 1 k)) j (nI v)))) = wO cI a (st S 1 j v) w r nb := by
  rw [upd_nI (S 1) j v (st S 1 j v 1) (fun k => by simp [st])]
  rfl
theorem wO_ast2 : (wO cI a S w r nb).set 3 (a 3, .inl (cI, 8, .inl (upd (fun k => nI (S 2 k)) j (nI v)))) = wO cI a (st S 2 j v) w r nb := by
  rw [upd_nI (S 2) j v (st S 2 j v 2) (fun k => by simp [st])]
  rfl
theorem wO_ast3 : (wO cI a S w r nb).set 4 (a 4, .inl (cI, 8, .inl (upd (fun k => nI (S 3 k)) j (nI v)))) = wO cI a (st S 3 j v) w r nb := by
  rw [upd_nI (S 3) j v (st S 3 j v 3) (fun k => by simp [st])]
  rfl
theorem wO_ast4 : (wO cI a S w r nb).set 5 (a 5, .inl (cI, 8, .inl (upd (fun k => nI (S 4 k)) j (nI v)))) = wO cI a (st S 4 j v) w r nb := by
  rw [upd_nI (S 4) j v (st S 4 j v 4) (fun k => by simp [st])]
  rfl
theorem wO_ast5 : (wO cI a S w r nb).set 6 (a 6, .inl (cI, 8, .inl (upd (fun k => nI (S 5 k)) j (nI v)))) = wO cI a (st S 5 j v) w r nb := by
  rw [upd_nI (S 5) j v (st S 5 j v 5) (fun k => by simp [st])]
  rfl
theorem wO_ast7 : (wO cI a S w r nb).set 8 (a 8, .inl (cI, 8, .inl (upd w j x))) = wO cI a S (upd w j x) r nb := rfl
theorem wO_ast8 : (wO cI a S w r nb).set 9 (a 9, .inl (cI, 8, .inl (upd r j x))) = wO cI a S w (upd r j x) nb := rfl
theorem wO_ast9 : (wO cI a S w r nb).set 10 (a 10, .inl (cI, 8, .inl (upd nb j x))) = wO cI a S w r (upd nb j x) := rfl
theorem wO_put7 : (wO cI a S w r nb).set 0 (a 0, .inr (0, ([.ref (a 1), .ref (a 2), .ref (a 3), .ref (a 4), .ref (a 5), .ref (a 6), .ref (a 7), .int (nI (S 7 0)), .int (nI (S 8 0)), .int (nI (S 9 0)), .ref (a 8), .ref (a 9), .ref (a 10)] : List Value).set 7 (.int (nI v)))) = wO cI a (st S 7 0 v) w r nb := rfl
theorem wO_put8 : (wO cI a S w r nb).set 0 (a 0, .inr (0, ([.ref (a 1), .ref (a 2), .ref (a 3), .ref (a 4), .ref (a 5), .ref (a 6), .ref (a 7), .int (nI (S 7 0)), .int (nI (S 8 0)), .int (nI (S 9 0)), .ref (a 8), .ref (a 9), .ref (a 10)] : List Value).set 8 (.int (nI v)))) = wO cI a (st S 8 0 v) w r nb := rfl
theorem wO_put9 : (wO cI a S w r nb).set 0 (a 0, .inr (0, ([.ref (a 1), .ref (a 2), .ref (a 3), .ref (a 4), .ref (a 5), .ref (a 6), .ref (a 7), .int (nI (S 7 0)), .int (nI (S 8 0)), .int (nI (S 9 0)), .ref (a 8), .ref (a 9), .ref (a 10)] : List Value).set 9 (.int (nI v)))) = wO cI a (st S 9 0 v) w r nb := rfl
end WO
def injA (a : Nat → Nat) (n : Nat) : Prop := ∀ i j, i < n → j < n → a i = a j → i = j
def aO (a : Nat → Nat) : Nat → Prop := fun q => ∃ k, k < 11 ∧ q = a k
theorem wO_adr (cI : ClassId) (a : Nat → Nat) (S : OS) (w r nb : Nat → Int32) : ∀ (k : Nat) (q : Nat × va_E), (wO cI a S w r nb)[k]? = some q → k < 11 ∧ q.1 = a k := by
  intro k q h
  match k, h with
  | 0, h => cases h; exact ⟨by decide, rfl⟩
  | 1, h => cases h; exact ⟨by decide, rfl⟩
  | 2, h => cases h; exact ⟨by decide, rfl⟩
  | 3, h => cases h; exact ⟨by decide, rfl⟩
  | 4, h => cases h; exact ⟨by decide, rfl⟩
  | 5, h => cases h; exact ⟨by decide, rfl⟩
  | 6, h => cases h; exact ⟨by decide, rfl⟩
  | 7, h => cases h; exact ⟨by decide, rfl⟩
  | 8, h => cases h; exact ⟨by decide, rfl⟩
  | 9, h => cases h; exact ⟨by decide, rfl⟩
  | 10, h => cases h; exact ⟨by decide, rfl⟩
  | k + 11, h => simp [wO] at h
theorem wO_D {cI : ClassId} {a : Nat → Nat} (hI : injA a 11) (S : OS) (w r nb : Nat → Int32) : va_D (aO a) (wO cI a S w r nb) := by
  refine ⟨fun i j p q hp hq h => ?_, fun k q hk => ?_⟩
  · obtain ⟨h1, h2⟩ := wO_adr _ _ _ _ _ _ i p hp
    obtain ⟨h3, h4⟩ := wO_adr _ _ _ _ _ _ j q hq
    exact hI i j h1 h3 (by rw [← h2, ← h4]; exact h)
  · obtain ⟨h1, h2⟩ := wO_adr _ _ _ _ _ _ k q hk
    exact ⟨k, h1, h2⟩
theorem aO_G {a : Nat → Nat} {G : Nat → Prop} (hG : ∀ k, k < 11 → G (a k)) : ∀ q, aO a q → G q := fun q ⟨k, h1, h2⟩ => h2 ▸ hG k h1
/-! evenings -/
def nnv (S : OS) (bb q : Nat) : Nat := if plays S q bb then (if reachS S q &&& playIn S bb = 0 then S 5 q - 3 else min 99 (S 5 q + 1)) else S 5 q
def barS (S : OS) (bb : Nat) : OS := upF S 5 (nnv S bb) (S 7 0)
def barTo (S : OS) : Nat → OS
  | 0 => S
  | k + 1 => barS (barTo S k) k
def nld (S : OS) (q : Nat) : Nat := if S 5 q = 0 then S 4 q - 1 else S 4 q
def evB (S : OS) : OS := upF (barTo S 12) 4 (nld (barTo S 12)) (S 7 0)
def eveC (S : OS) : OS := st (evB S) 8 0 (min 99999 (S 8 0 + 1))
def chg (S : OS) : Bool := anyTo (fun q => (barTo S 12 5 q == 0 && decide (0 < S 4 q)) || barTo S 12 5 q != S 5 q) (S 7 0)
def evCn (S : OS) : Nat → OS
  | 0 => S
  | k + 1 => eveC (evCn S k)
theorem bit4095 {k : Nat} (h : k < 12) : Nat.testBit 4095 k = true := by
  rw [show (4095 : Nat) = 2 ^ 12 - 1 by decide, Nat.testBit_two_pow_sub_one]
  simp [h]
theorem play_b {S : OS} {i bb : Nat} (hb : bb < 12) (h : bold S i = true) : plays S i bb = true := by
  rw [plays, bPlay, if_pos h, bit4095 hb]
theorem play_w {S : OS} {i bb : Nat} (hb : bb < 12) (h : (bWrit S i / 2 ^ bb &&& 1) ≠ 0) : plays S i bb = true := by
  rw [plays, bPlay]
  split
  · exact bit4095 hb
  · exact bit_t h
theorem play_n {S : OS} {i bb : Nat} (h : (bWrit S i / 2 ^ bb &&& 1) = 0) (h2 : bold S i = false) : plays S i bb = false := by
  rw [plays, bPlay, if_neg (by rw [h2]; decide)]
  exact bit_f h
theorem playIn_t {S : OS} {i bb : Nat} (h : (playIn S bb / 2 ^ i &&& 1) ≠ 0) : plays S i bb = true := by
  have h1 := bit_t h
  rw [playIn, setTo_bit] at h1
  simp only [Bool.and_eq_true] at h1
  exact h1.2
theorem playIn_f {S : OS} {i bb : Nat} (hi : i < S 7 0) (h : (playIn S bb / 2 ^ i &&& 1) = 0) : plays S i bb = false := by
  have h1 := bit_f h
  rw [playIn, setTo_bit] at h1
  simpa [hi] using h1
theorem nnv_a {S : OS} {i bb : Nat} (h : (playIn S bb / 2 ^ i &&& 1) ≠ 0) (h2 : reachS S i &&& playIn S bb ≠ 0) : min 99 (S 5 i + 1) = nnv S bb i := by rw [nnv, if_pos (playIn_t h), if_neg h2]
theorem nnv_b {S : OS} {i bb : Nat} (h : (playIn S bb / 2 ^ i &&& 1) ≠ 0) (h2 : reachS S i &&& playIn S bb = 0) : S 5 i - 3 = nnv S bb i := by rw [nnv, if_pos (playIn_t h), if_pos h2]
theorem nnv_c {S : OS} {i bb : Nat} (hi : i < S 7 0) (h : (playIn S bb / 2 ^ i &&& 1) = 0) : S 5 i = nnv S bb i := by rw [nnv, if_neg (by rw [playIn_f hi h]; decide)]
theorem nnv_lt {S : OS} (h : WF S) (bb q : Nat) : nnv S bb q < 100 := by
  have h1 := h.f5 q
  unfold nnv
  repeat' split
  all_goals omega
theorem WF_upF5 {S : OS} (h : WF S) {f : Nat → Nat} (n : Nat) (hf : ∀ q, f q < 100) : WF (upF S 5 f n) := by
  refine ⟨h.1, h.2.1, h.2.2.1, h.2.2.2.1, h.2.2.2.2.1, h.2.2.2.2.2.1, fun j => ?_, h.2.2.2.2.2.2.2.1, h.2.2.2.2.2.2.2.2⟩
  have h5 := h.f5 j
  have h6 := hf j
  simp only [upF]
  split <;> omega
theorem WF_upF4 {S : OS} (h : WF S) {f : Nat → Nat} (n : Nat) (hf : ∀ q, f q < 10) : WF (upF S 4 f n) := by
  refine ⟨h.1, h.2.1, h.2.2.1, h.2.2.2.1, h.2.2.2.2.1, fun j => ?_, h.2.2.2.2.2.2.1, h.2.2.2.2.2.2.2.1, h.2.2.2.2.2.2.2.2⟩
  have h5 := h.f4 j
  have h6 := hf j
  simp only [upF]
  split <;> omega
theorem WF_barS {S : OS} (h : WF S) (bb : Nat) : WF (barS S bb) := WF_upF5 h _ (nnv_lt h bb)
theorem WF_barTo {S : OS} (h : WF S) : ∀ k, WF (barTo S k)
  | 0 => h
  | k + 1 => WF_barS (WF_barTo h k) k
theorem barTo_ne {S : OS} {a : Nat} (b : Nat) (h : a ≠ 5) : ∀ k, barTo S k a b = S a b
  | 0 => rfl
  | k + 1 => by rw [barTo, barS, upF_ne _ _ _ h, barTo_ne b h k]
theorem nld_lt {S : OS} (h : WF S) (q : Nat) : nld S q < 10 := by
  have h1 := h.f4 q
  unfold nld
  split <;> omega
theorem WF_evB {S : OS} (h : WF S) : WF (evB S) := WF_upF4 (WF_barTo h 12) _ (nld_lt (WF_barTo h 12))
theorem WF_st8 {S : OS} (h : WF S) {v : Nat} (hv : v < 200000) : WF (st S 8 0 v) := by
  refine ⟨h.1, h.2.1, h.2.2.1, h.2.2.2.1, h.2.2.2.2.1, h.2.2.2.2.2.1, h.2.2.2.2.2.2.1, h.2.2.2.2.2.2.2.1, ?_⟩
  simp only [st]
  simpa using hv
theorem WF_eveC {S : OS} (h : WF S) : WF (eveC S) := WF_st8 (WF_evB h) (by omega)
theorem WF_evCn {S : OS} (h : WF S) : ∀ k, WF (evCn S k)
  | 0 => h
  | k + 1 => WF_eveC (WF_evCn h k)
theorem upd_all {w : Nat → Int32} {i : Nat} {v : Int32} {F : Nat → Int32} (h : ∀ q, q < i → w q = F q) (hv : v = F i) : ∀ q, q < i + 1 → upd w i v q = F q := by
  intro q hq
  simp only [upd]
  by_cases e : q = i
  · rw [if_pos e, hv, e]
  · rw [if_neg e]
    exact h q (by omega)
/-- who would play by what is written, and who is in reach, doesn't hang on nerve -/
theorem bWrit_cong {S S' : OS} (h : ∀ a b, a ≠ 5 → S' a b = S a b) (q : Nat) : bWrit S' q = bWrit S q := by
  have e : ∀ a, a ≠ 5 → S' a = S a := fun a ha => funext fun b => h a b ha
  unfold bWrit barsWith othr
  rw [e 0 (by decide), e 1 (by decide), e 3 (by decide), e 7 (by decide)]
theorem reachS_cong {S S' : OS} (h : ∀ a b, a ≠ 5 → S' a b = S a b) (q : Nat) : reachS S' q = reachS S q := by
  have e : ∀ a, a ≠ 5 → S' a = S a := fun a ha => funext fun b => h a b ha
  unfold reachS canHear
  rw [e 1 (by decide), e 2 (by decide), e 4 (by decide), e 7 (by decide)]
def engS (S : OS) (kd se : Nat) : OS := st (st (st (st (st (st S 1 (S 7 0) kd) 2 (S 7 0) se) 3 (S 7 0) 0) 4 (S 7 0) 5) 5 (S 7 0) 50) 7 0 (S 7 0 + 1)
def dz (z : Nat) : Nat := z * 1103515245 + 12345
theorem cpy_nb {f g : Nat → Int32} {j : Nat} (h : j < 8) : va_cpy f g 0 0 8 j = f j := by simp [va_cpy, h]
theorem any_t1 {P : Nat → Bool} {k : Nat} (h : anyTo P k = true) : anyTo P (k + 1) = true := by rw [anyTo, h, Bool.true_or]
theorem any_t2 {P : Nat → Bool} {k : Nat} (h : P k = true) : anyTo P (k + 1) = true := by rw [anyTo, h, Bool.or_true]
theorem any_f {P : Nat → Bool} {k : Nat} (h0 : anyTo P k = false) (h : P k = false) : anyTo P (k + 1) = false := by rw [anyTo, h0, h]; rfl
theorem or_ff {x y : Bool} (h : x = false) (h2 : y = false) : (x || y) = false := by rw [h, h2]; rfl
