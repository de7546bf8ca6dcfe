/-! texts, as the model reads them -/
def rfX : List (String × Nat × String × Nat) := [("OneShortModel", 299, "on", 8), ("OneShortModel", 305, "part", 9), ("OneShortModel", 307, "loud", 10), ("OneShortModel", 309, "nerve", 11), ("OneShortModel", 315, "bar", 7)]
section LW
variable {p : Program} {l : Launch} {e : Env} {R : Room} {s : State} {m : MethodId} {args : Array Value} {below : List Frame} {meth : Method} {c : Code} {H : Heap} {locs : List Loc} {cells slots : Nat} {Q : State → Prop} {cc : ByteArray} {rest : List Value} {pc : Nat} {ls : Array Slot}
theorem nv_ldcwI {T : State} (X : Stand p l e R s m args below meth c T locs cells slots) (hexec : p.tables.exec = Jvm.exec) {own text : String} {index : Nat} {a : Addr} (hown : s.vm.findClass own = some m.cls)
    (hconst : (Cond.stringRef own index text).before args s = true) (hev : (Term.string own index).eval args s none [] s = some (.ref a)) {g : JFrame} (hg : g.method = m) (hdg : decode c.code g.pc = .ok (.ldc_w index, 3)) :
    ∀ target, Steps p.tables e below (T.setTop { g with pc := g.pc + 3, stack := .ref a :: g.stack }) target → Steps p.tables e below (T.setTop g) target := by
  obtain ⟨k, cf, i, a', hk, hcf, hcp, -, hr, hev'⟩ := Cond.stringRef_spec hown hconst
  cases hev.symm.trans hev'
  obtain ⟨k', hk', he⟩ := X.warmed.alike.2.2 _ _ hk
  have hr' : k'.resolved[index]? = some (some (.string a)) := by
    rcases X.warmed.entry hk hk' index with h | ⟨h, -⟩
    · rw [h]; exact hr
    · rw [hr] at h; cases h
  intro target hrest
  subst hg
  jvm_step X.here [hexec, hdg, ldc_w.wp_string (e := e) (s := T) (f := g) X.here.top hk' (by rw [he]; exact hcf) hcp hr']
  exact hrest
theorem nv_ldcwS (hx : p.tables.exec = Jvm.exec) (hb : c.code = cc) {own tx : String} {index q : Nat} (hown : s.vm.findClass own = some m.cls) (hZ : vk_R own index tx q s) (hdg : decode cc pc = .ok (.ldc_w index, 3))
    (k : W p l e R s m args below meth c H locs cells slots Q (F0 m (pc + 3) ls (.ref q :: rest))) : W p l e R s m args below meth c H locs cells slots Q (F0 m pc ls rest) := by
  intro T hT X
  obtain ⟨t, a1, b1⟩ := k T hT X
  exact ⟨t, nv_ldcwI X hx hown (text := tx) (a := q) hZ.1 hZ.2 (g := F0 m pc ls rest) rfl (by rw [hb]; exact hdg) t a1, b1⟩
end LW
theorem inR_b {b lo hi : Nat} (hb : b < 1000) (hl : lo < 1000) (hh : hi < 1000) : inR (nI b - nI 1) lo hi = (decide (lo + 1 ≤ b) && decide (b ≤ hi + 1)) := by
  unfold inR
  rw [Bool.eq_iff_iff]
  simp only [decide_eq_true_eq, Bool.and_eq_true]
  rcases b with _ | b
  · rw [show nI 0 - nI 1 = (-1 : Int32) by decide, show (-1 : Int32).toInt = -1 by decide]
    omega
  · rw [show nI (b + 1) - nI 1 = nI b from nI_pred b, nI_toInt (by omega)]
    omega
theorem inR_lt {b : Nat} (hb : b < 1000) : inR (nI b - nI 1) 97 122 = bLt b := inR_b hb (by decide) (by decide)
theorem inR_dg {b : Nat} (hb : b < 1000) : inR (nI b - nI 1) 48 57 = bDg b := inR_b hb (by decide) (by decide)
section TXN
variable {tb : Nat → Nat} {tl : Nat}
theorem sr_0 {p : Nat} (h : bE tb tl (stt tb tl p) = 0) : srt tb tl p = 0 := by rw [srt, h]; rfl
theorem sr_1 {p : Nat} (h : bE tb tl (stt tb tl p) ≠ 0) (h2 : bLt (bE tb tl (stt tb tl p)) = true) : srt tb tl p = 1 := by rw [srt, srtB, if_neg h, if_pos h2]
theorem sr_2 {p : Nat} (h : bE tb tl (stt tb tl p) ≠ 0) (h1 : bLt (bE tb tl (stt tb tl p)) = false) (h2 : bDg (bE tb tl (stt tb tl p)) = true) : srt tb tl p = 2 := by rw [srt, srtB, if_neg h, if_neg (by rw [h1]; decide), if_pos h2]
theorem sr_3 {p : Nat} (h : bE tb tl (stt tb tl p) ≠ 0) (h1 : bLt (bE tb tl (stt tb tl p)) = false) (h2 : bDg (bE tb tl (stt tb tl p)) = false) : 3 ≤ srt tb tl p := by
  rw [srt, srtB, if_neg h, if_neg (by rw [h1]; decide), if_neg (by rw [h2]; decide)]
  split <;> omega
theorem nx_0 {p : Nat} (h : srt tb tl p = 0) : nxt tb tl p = stt tb tl p ∧ vlu tb tl p = 0 ∧ min (srt tb tl p) 3 = 0 := by
  refine ⟨?_, ?_, by omega⟩
  · rw [nxt, if_neg (by omega), if_neg (by omega), if_pos h]
  · rw [vlu, if_neg (by omega)]
theorem nx_1 {p : Nat} (h : srt tb tl p = 1) : vlu tb tl p = 0 ∧ min (srt tb tl p) 3 = 1 := ⟨by rw [vlu, if_neg (by omega)], by omega⟩
theorem nx_3 {p : Nat} (h : 3 ≤ srt tb tl p) : nxt tb tl p = stt tb tl p + 1 ∧ vlu tb tl p = 0 ∧ min (srt tb tl p) 3 = 3 := by
  refine ⟨?_, ?_, by omega⟩
  · rw [nxt, if_neg (by omega), if_neg (by omega), if_neg (by omega)]
  · rw [vlu, if_neg (by omega)]
theorem x1_i {p : Nat} (h : srt tb tl p = 1) : ext (ltr tb tl) (121 - stt tb tl p) (stt tb tl p) = nxt tb tl p := by rw [nxt, if_pos h]
theorem x2_i {p : Nat} (h : srt tb tl p = 2) : ext (dgt tb tl) (121 - stt tb tl p) (stt tb tl p) = nxt tb tl p ∧ vl tb tl (121 - stt tb tl p) (stt tb tl p) 0 = vlu tb tl p := by
  constructor
  · rw [nxt, if_neg (by omega), if_pos h]
  · rw [vlu, if_pos h]
theorem x2_s {p cur v : Nat} (h : ext (dgt tb tl) (121 - cur) cur = nxt tb tl p ∧ vl tb tl (121 - cur) cur v = vlu tb tl p) (hc : cur < 121) (h2 : bDg (bE tb tl cur) = true) : ext (dgt tb tl) (121 - (cur + 1)) (cur + 1) = nxt tb tl p ∧ vl tb tl (121 - (cur + 1)) (cur + 1) (min 1000 (10 * v + (bE tb tl cur - 49))) = vlu tb tl p := by
  refine ⟨ext_s h2 hc h.1, ?_⟩
  rw [← h.2, vl_t (f := 121 - cur) h2 (by omega), show 121 - (cur + 1) = 121 - cur - 1 by omega, Nat.mul_comm 10 v]
theorem x2_e {p cur v : Nat} (h : ext (dgt tb tl) (121 - cur) cur = nxt tb tl p ∧ vl tb tl (121 - cur) cur v = vlu tb tl p) (h2 : bDg (bE tb tl cur) = false) : cur = nxt tb tl p ∧ v = vlu tb tl p := ⟨ext_e (P := dgt tb tl) h2 h.1, by rw [← h.2, vl_f h2]⟩
theorem dig_w {v b : Nat} (h : 49 ≤ b) : nI (10 * v) + (nI b - nI 1) - nI 48 = nI (10 * v + (b - 49)) := by rw [Nat.mul_comm 10 v]; exact dig_v h
theorem ap_end {A : Bool} {P : Nat → Bool} {k n : Nat} (hk : k ≤ n) (h : (A && !anyTo P k) = false) : (A && !anyTo P n) = false := by
  cases A
  · rfl
  · cases e : anyTo P k
    · rw [e] at h; cases h
    · obtain ⟨j, h1, h2⟩ := (anyTo_iff _ _).mp e
      rw [(anyTo_iff _ n).mpr ⟨j, by omega, h2⟩]
      rfl
def mW (wr is : Bool) : Bool := wr || !is
def mP (tb : Nat → Nat) (tl : Nat) (wr is : Bool) (p : Nat) : Nat := if (wr || !is) = true then p else nxt tb tl p
theorem mP_le {wr is : Bool} {p : Nat} (h : p ≤ tl) : mP tb tl wr is p ≤ tl := by
  unfold mP
  split
  · exact h
  · exact nxt_le h
def itU (y : Nat → Int32) (m : Nat) (w a b c d : Int32) : Nat → Int32 := upd (upd (upd (upd (upd y (5 * m) w) (5 * m + 1) a) (5 * m + 2) b) (5 * m + 3) c) (5 * m + 4) d
/-- the last of those below n, and 1 -/
def lK (P : Nat → Bool) : Nat → Nat
  | 0 => 0
  | k + 1 => if P k = true then k + 1 else lK P k
theorem lK_t {P : Nat → Bool} {k : Nat} (h : P k = true) : lK P (k + 1) = k + 1 := by rw [lK, if_pos h]
theorem lK_f {P : Nat → Bool} {k : Nat} (h : P k = false) : lK P (k + 1) = lK P k := by rw [lK, if_neg (by rw [h]; decide)]
theorem lK_le {P : Nat → Bool} : ∀ k, lK P k ≤ k
  | 0 => Nat.le_refl 0
  | k + 1 => by
    have := lK_le (P := P) k
    rw [lK]
    split <;> omega
theorem lK_in {P : Nat → Bool} : ∀ k, lK P k ≠ 0 → lK P k - 1 < k ∧ P (lK P k - 1) = true
  | 0, h => absurd rfl h
  | k + 1, h => by
    rw [lK] at h ⊢
    split
    · rename_i g
      exact ⟨by omega, by rw [Nat.add_sub_cancel]; exact g⟩
    · rename_i g
      rw [if_neg g] at h
      obtain ⟨a, b⟩ := lK_in k h
      exact ⟨by omega, b⟩
theorem lK_0 {P : Nat → Bool} : ∀ k, lK P k = 0 → ∀ j, j < k → P j = false
  | 0, _, j, hj => absurd hj (Nat.not_lt_zero j)
  | k + 1, h, j, hj => by
    rw [lK] at h
    split at h
    · omega
    · rename_i g
      rcases Nat.lt_or_ge j k with q | q
      · exact lK_0 k h j q
      · rw [show j = k by omega]
        cases e : P k
        · rfl
        · exact absurd e g
theorem wd_inj : ∀ i, i < 12 → ∀ j, j < 12 → (wd i).length = (wd j).length → ((List.range 9).all fun k => (decide ((wd i).length ≤ k) || (wd i).getD k 0 == (wd j).getD k 0)) = true → i = j := by decide +kernel
theorem isW_u {p i j : Nat} (hi : i < 12) (hj : j < 12) (h : isW tb tl p i = true) (h2 : isW tb tl p j = true) : i = j := by
  unfold isW at h h2
  simp only [Bool.and_eq_true, beq_iff_eq, Bool.not_eq_true'] at h h2
  refine wd_inj i hi j hj (by rw [← h.1.2, ← h2.1.2]) ?_
  refine List.all_eq_true.mpr (fun k hk => ?_)
  rcases Nat.lt_or_ge k (wd i).length with q | q
  · have key : ∀ n, n < 12 → anyTo (fun k => bE tb tl (stt tb tl p + k) != (wd n).getD k 0 + 1) (wd n).length = false → k < (wd n).length → bE tb tl (stt tb tl p + k) = (wd n).getD k 0 + 1 := by
      intro n hn ha hk2
      rcases Decidable.em (bE tb tl (stt tb tl p + k) = (wd n).getD k 0 + 1) with e | e
      · exact e
      · exfalso
        have := (anyTo_iff (fun k => bE tb tl (stt tb tl p + k) != (wd n).getD k 0 + 1) (wd n).length).mpr ⟨k, hk2, by simpa using e⟩
        rw [ha] at this
        cases this
    have e1 := key i hi h.2 q
    have e2 := key j hj h2.2 (by rw [← h2.1.2, h.1.2]; exact q)
    rw [show (wd i).getD k 0 = (wd j).getD k 0 by omega]
    simp
  · simp [q]
theorem lK_kT {p : Nat} : lK (fun k => isW tb tl p k) 7 = kT tb tl p := by
  rcases Nat.eq_zero_or_pos (lK (fun k => isW tb tl p k) 7) with e | e
  · rw [e]
    exact (kT_no (lK_0 7 e)).symm
  · obtain ⟨a, b⟩ := lK_in (P := fun k => isW tb tl p k) 7 (by omega)
    have hk : kT tb tl p ≠ 0 := by
      unfold kT
      rw [if_pos ((anyTo_iff _ 7).mpr ⟨_, a, b⟩)]
      omega
    obtain ⟨c, d⟩ := kT_w hk
    have := isW_u (tb := tb) (tl := tl) (p := p) (by omega) (by omega) b d
    omega
/-- what follows a word perhaps: wrong or not, the place; the value -/
def aS (tb : Nat → Nat) (tl i hi : Nat) (r : Bool × Nat) : Bool × Nat := if (r.1 || !isW tb tl r.2 i) = true then r else (mW false (rNum tb tl (nxt tb tl r.2) hi), mP tb tl false (rNum tb tl (nxt tb tl r.2) hi) (nxt tb tl r.2))
def aV (tb : Nat → Nat) (tl i o : Nat) (r : Bool × Nat) : Nat := if (r.1 || !isW tb tl r.2 i) = true then o else vlu tb tl (nxt tb tl r.2)
theorem aS_le {i hi : Nat} {r : Bool × Nat} (h : r.2 ≤ tl) : (aS tb tl i hi r).2 ≤ tl := by
  unfold aS
  split
  · exact h
  · exact mP_le (nxt_le h)
def rk0 (tb : Nat → Nat) (tl n5 p : Nat) : Bool × Nat := (mW false (decide (n5 < 8)), mP tb tl false (decide (n5 < 8)) p)
def rb0 (tb : Nat → Nat) (tl p : Nat) : Bool × Nat := (mW false (isW tb tl p 7), mP tb tl false (isW tb tl p 7) p)
def rb1 (tb : Nat → Nat) (tl hi : Nat) (r : Bool × Nat) : Bool × Nat := (mW r.1 (rNum tb tl r.2 hi), mP tb tl r.1 (rNum tb tl r.2 hi) r.2)
end TXN
section TXO
variable {tb : Nat → Nat} {tl : Nat}
theorem rN_t {p hi : Nat} (h : min (srt tb tl p) 3 = 2) (h2 : inN (nI (vlu tb tl p)) (hi + 1) = true) : rNum tb tl p hi = true := by
  have hv := vlu_le (tb := tb) (tl := tl) p
  have := in_lt (by omega) h2
  rw [rNum]
  simp
  omega
theorem rN_f1 {p hi : Nat} (h : min (srt tb tl p) 3 ≠ 2) : rNum tb tl p hi = false := by
  rw [rNum, show (srt tb tl p == 2) = false by simp; omega]
  rfl
theorem rN_f2 {p hi : Nat} (h2 : inN (nI (vlu tb tl p)) (hi + 1) = false) : rNum tb tl p hi = false := by
  have hv := vlu_le (tb := tb) (tl := tl) p
  rw [in_nI (by omega)] at h2
  rw [rNum]
  simp at h2 ⊢
  intro _
  omega
variable (tb tl)
def riS (p n5 : Nat) : Bool × Nat := if kT tb tl p ≠ 0 then aS tb tl 11 99 (aS tb tl 10 9 (aS tb tl 9 5 (aS tb tl 8 15 (rk0 tb tl n5 p)))) else rb1 tb tl 63 (rb1 tb tl 11 (rb0 tb tl p))
def riY (y : Nat → Int32) (m p n5 : Nat) : Nat → Int32 := if kT tb tl p ≠ 0 then itU y m (nI (kT tb tl p - 1)) (nI (aV tb tl 8 0 (rk0 tb tl n5 p))) (nI (aV tb tl 9 0 (aS tb tl 8 15 (rk0 tb tl n5 p)))) (nI (aV tb tl 10 5 (aS tb tl 9 5 (aS tb tl 8 15 (rk0 tb tl n5 p))))) (nI (aV tb tl 11 50 (aS tb tl 10 9 (aS tb tl 9 5 (aS tb tl 8 15 (rk0 tb tl n5 p)))))) else itU y m (nI 10) (nI (vlu tb tl (rb0 tb tl p).2)) (nI (vlu tb tl (rb1 tb tl 11 (rb0 tb tl p)).2)) (nI 0) (nI 0)
def riN (p n5 : Nat) : Nat := if kT tb tl p ≠ 0 then n5 + 1 else n5
variable {tb tl}
theorem riS_k {p n5 : Nat} (h : kT tb tl p ≠ 0) : riS tb tl p n5 = aS tb tl 11 99 (aS tb tl 10 9 (aS tb tl 9 5 (aS tb tl 8 15 (rk0 tb tl n5 p)))) := if_pos h
theorem riS_b {p n5 : Nat} (h : kT tb tl p = 0) : riS tb tl p n5 = rb1 tb tl 63 (rb1 tb tl 11 (rb0 tb tl p)) := if_neg (by omega)
theorem riY_k {y : Nat → Int32} {m p n5 k1 : Nat} {r0 r1 r2 r3 : Bool × Nat} (h : kT tb tl p = k1 + 1) (h0 : rk0 tb tl n5 p = r0) (h1 : aS tb tl 8 15 r0 = r1) (h2 : aS tb tl 9 5 r1 = r2) (h3 : aS tb tl 10 9 r2 = r3) : riY tb tl y m p n5 = itU y m (nI k1) (nI (aV tb tl 8 0 r0)) (nI (aV tb tl 9 0 r1)) (nI (aV tb tl 10 5 r2)) (nI (aV tb tl 11 50 r3)) := by
  rw [riY, if_pos (by omega), h0, h1, h2, h3, h, Nat.add_sub_cancel]
theorem riY_b {y : Nat → Int32} {m p n5 : Nat} {r0 r1 : Bool × Nat} (h : kT tb tl p = 0) (h0 : rb0 tb tl p = r0) (h1 : rb1 tb tl 11 r0 = r1) : riY tb tl y m p n5 = itU y m (nI 10) (nI (vlu tb tl r0.2)) (nI (vlu tb tl r1.2)) (nI 0) (nI 0) := by
  rw [riY, if_neg (by omega), h0, h1]
end TXO
theorem bne_t {x a b : Nat} (e : x = a + 1) (h : a ≠ b) : (x != b + 1) = true := by rw [e]; simpa using h
theorem bne_f {x a b : Nat} (e : x = a + 1) (h : a = b) : (x != b + 1) = false := by rw [e, h]; simp
