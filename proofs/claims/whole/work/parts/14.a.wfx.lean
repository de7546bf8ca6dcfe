/-! what holds of every state goes on holding -/
theorem WFX_fl {X : AS} (h : WFX X) (k : Nat) : WFX (fl X k).2 := h
theorem WFX_F {X : AS} (h : WFX X) (f : Nat → Nat) : WFX (toF X f) := h
theorem WFX_bk {X : AS} {c : Bool} {k : Nat} {r : Int32 × AS} (h : WFX X) (hr : c = true → WFX r.2) : WFX (bk X c k r).2 := by
  unfold bk
  split
  · rename_i g; exact hr g
  · exact h
theorem in_tl {x : Int32} {n : Nat} (h : inN x n = true) (hn : n < 2147483648) : tn x < n := (in_tn h hn).2
theorem evCn_le {S : OS} (h : S 8 0 ≤ 99999) : ∀ k, evCn S k 8 0 ≤ 99999
  | 0 => h
  | k + 1 => by
    show eveC (evCn S k) 8 0 ≤ 99999
    rw [eveC]
    simp only [st]
    simp
    omega
theorem WF_st6 {S : OS} (h : WF S) (q : Nat) {v : Nat} (hv : v ≤ S 7 0) : WF (st S 6 q v) := by
  refine ⟨h.1, h.2.1, h.2.2.1, h.2.2.2.1, h.2.2.2.2.1, h.2.2.2.2.2.1, h.2.2.2.2.2.2.1, fun j => ?_, h.2.2.2.2.2.2.2.2⟩
  have := h.f6 j
  simp only [st]
  split
  · simpa using hv
  · simpa using this
theorem WF_comeS {S : OS} (h : WF S) (hn : S 7 0 < 8) {kd se pt lo ne : Nat} (h1 : kd < 7) (h2 : se < 16) (h3 : pt < 6) (h4 : lo < 10) (h5 : ne < 100) : WF (comeS S kd se pt lo ne) := by
  refine ⟨?_, fun j => ?_, fun j => ?_, fun j => ?_, fun j => ?_, fun j => ?_, fun j => ?_, fun j => ?_, ?_⟩
  · show S 7 0 + 1 ≤ 8; omega
  · exact h.f0 j
  · have := h.f1 j
    show (if 1 = 1 ∧ j = S 7 0 then kd else S 1 j) < 7
    split <;> omega
  · have := h.f2 j
    show (if 2 = 2 ∧ j = S 7 0 then se else S 2 j) < 16
    split <;> omega
  · have := h.f3 j
    show (if 3 = 3 ∧ j = S 7 0 then pt else S 3 j) < 6
    split <;> omega
  · have := h.f4 j
    show (if 4 = 4 ∧ j = S 7 0 then lo else S 4 j) < 10
    split <;> omega
  · have := h.f5 j
    show (if 5 = 5 ∧ j = S 7 0 then ne else S 5 j) < 100
    split <;> omega
  · have := h.f6 j
    show S 6 j ≤ S 7 0 + 1
    omega
  · exact h.ev
theorem engS_come (S : OS) (kd se : Nat) : engS S kd se = comeS S kd se 0 5 50 := rfl
theorem WFX_S {X : AS} {S : OS} (h : WFX X) (hS : WF S) (he : S 8 0 ≤ 99999) : WFX (toS X S) := WFX_toS h hS he
theorem wf_bar {X : AS} (h : WFX X) (b v : Int32) : WFX (p_bar X b v).2 := WFX_bk h (fun g => by
  rw [Bool.and_eq_true] at g
  exact WFX_S h (WF_st0 h.w _ (in_tl g.2 (by decide))) h.e)
theorem wf_barOf {X : AS} (h : WFX X) (b w : Int32) : WFX (p_barOf X b w).2 := WFX_bk h (fun _ => h)
theorem wf_player {X : AS} (h : WFX X) (k s : Int32) : WFX (p_player X k s).2 := WFX_bk h (fun g => WFX_bk h (fun g2 => by
  rw [Bool.and_eq_true] at g
  exact WFX_S h (WF_comeS h.w (of_decide_eq_true g2) (in_tl g.1 (by decide)) (in_tl g.2 (by decide)) (by decide) (by decide) (by decide)) h.e))
theorem wf_of {X : AS} (h : WFX X) (q w : Int32) : WFX (p_of X q w).2 := WFX_bk h (fun _ => h)
theorem wf_change {X : AS} (h : WFX X) (q w v : Int32) : WFX (p_change X q w v).2 := WFX_bk h (fun g => by
  simp only [Bool.and_eq_true] at g
  obtain ⟨wn, hw, rfl⟩ := in_ex g.1.2 (by decide)
  rw [tn_nI (by omega)] at *
  have hv := in_tl g.2 (by have := lim_le wn; omega)
  rcases (show wn = 0 ∨ wn = 1 ∨ wn = 2 ∨ wn = 3 ∨ wn = 4 by omega) with rfl | rfl | rfl | rfl | rfl
  · exact WFX_S h (WF_st1 h.w _ hv) h.e
  · exact WFX_S h (WF_st2 h.w _ hv) h.e
  · exact WFX_S h (WF_st3 h.w _ hv) h.e
  · exact WFX_S h (WF_st4 h.w _ hv) h.e
  · exact WFX_S h (WF_st5 h.w _ hv) h.e)
theorem wf_swap {X : AS} (h : WFX X) (x y : Int32) : WFX (p_swap X x y).2 := WFX_bk h (fun _ => by
  split
  · exact h
  · exact WFX_S h (WF_swS h.w _ _) h.e)
theorem wf_sound {X : AS} (h : WFX X) (q s b : Int32) : WFX (p_sound X q s b).2 := WFX_bk h (fun _ => h)
theorem wf_heard {X : AS} (h : WFX X) (s b : Int32) : WFX (p_heard X s b).2 := WFX_bk h (fun _ => h)
theorem wf_hears {X : AS} (h : WFX X) (x y : Int32) : WFX (p_hears X x y).2 := WFX_bk h (fun _ => h)
theorem wf_hearing {X : AS} (h : WFX X) (q b : Int32) : WFX (p_hearing X q b).2 := WFX_bk h (fun _ => h)
theorem wf_go {X : AS} (h : WFX X) (n : Int32) : WFX (p_go X n).2 := WFX_bk h (fun _ => WFX_bk h (fun _ => WFX_S h (WF_evCn h.w _) (evCn_le h.e _)))
theorem wf_now {X : AS} (h : WFX X) (w : Int32) : WFX (p_now X w).2 := WFX_bk h (fun _ => h)
theorem wf_ahead {X : AS} (h : WFX X) (q n : Int32) : WFX (p_ahead X q n).2 := WFX_bk h (fun _ => h)
theorem wf_broken {X : AS} (h : WFX X) (q : Int32) : WFX (p_broken X q).2 := WFX_bk h (fun _ => WFX_bk h (fun _ => h))
theorem wf_settles {X : AS} (h : WFX X) : WFX (p_settles X).2 := WFX_bk h (fun _ => h)
theorem wf_kindFor {X : AS} (h : WFX X) (q n : Int32) : WFX (p_kindFor X q n).2 := WFX_bk h (fun _ => h)
theorem wf_seatFor {X : AS} (h : WFX X) (q n : Int32) : WFX (p_seatFor X q n).2 := WFX_bk h (fun _ => h)
theorem wf_spare {X : AS} (h : WFX X) : WFX (p_spare X).2 := h
theorem wf_fewest {X : AS} (h : WFX X) : WFX (p_fewest X).2 := h
theorem wf_lost {X : AS} (h : WFX X) (x : Int32) : WFX (p_lost X x).2 := WFX_bk h (fun _ => h)
theorem wf_dearest {X : AS} (h : WFX X) : WFX (p_dearest X).2 := WFX_bk h (fun _ => h)
theorem wf_parts {X : AS} (h : WFX X) (x y : Int32) : WFX (p_parts X x y).2 := WFX_bk h (fun _ => h)
theorem wf_tells {X : AS} (h : WFX X) : WFX (p_tells X).2 := WFX_bk h (fun _ => h)
theorem wf_halves {X : AS} (h : WFX X) : WFX (p_halves X).2 := h
theorem wf_who {X : AS} (h : WFX X) (b : Int32) : WFX (p_who X b).2 := WFX_bk h (fun _ => h)
theorem wf_nearest {X : AS} (h : WFX X) (x y : Int32) : WFX (p_nearest X x y).2 := WFX_bk h (fun _ => h)
theorem wf_links {X : AS} (h : WFX X) : WFX (p_links X).2 := h
theorem wf_bestSwap {X : AS} (h : WFX X) : WFX (p_bestSwap X).2 := WFX_bk h (fun _ => h)
theorem wf_loudFor {X : AS} (h : WFX X) (q s b : Int32) : WFX (p_loudFor X q s b).2 := WFX_bk h (fun _ => WFX_bk h (fun _ => h))
theorem wf_fitg {X : AS} (h : WFX X) (f e : Nat) (x q : Int32) : WFX (p_fitg f e X x q).2 := by
  unfold p_fitg
  split
  · exact WFX_bk h (fun _ => h)
  · exact h
theorem wf_fits {X : AS} (h : WFX X) (x q : Int32) : WFX (p_fits X x q).2 := wf_fitg h 3 6 x q
theorem wf_kinds {X : AS} (h : WFX X) (x q : Int32) : WFX (p_kinds X x q).2 := wf_fitg h 1 7 x q
theorem wf_strings {X : AS} (h : WFX X) (n : Int32) : WFX (p_strings X n).2 := WFX_bk h (fun _ => WFX_bk h (fun _ => WFX_S h (WF_strN h.w _) (strN_ev h.e _)))
theorem wf_odds {X : AS} (h : WFX X) (n w : Int32) : WFX (p_odds X n w).2 := by
  unfold p_odds
  split
  · exact h
  · exact h
theorem wf_seed {X : AS} (h : WFX X) (v : Int32) : WFX (p_seed X v).2 := WFX_S h (WF_st9 h.w 0 _) h.e
theorem fdB_lt {tb : Nat → Nat} (h : ∀ k, tb k < 256) (l : Nat) (x : Int32) (n : Nat) : ∀ k j, fdB tb l x n k j < 256
  | 0, j => h j
  | k + 1, j => by
    rw [fdB]
    simp only [updF]
    split
    · exact byteN_lt x _
    · exact fdB_lt h l x n k j
theorem wf_feed {X : AS} (h : WFX X) (x n : Int32) : WFX (p_feed X x n).2 := WFX_bk h (fun _ => WFX_bk h (fun g => ⟨h.1, h.2.1, h.2.2.1, h.2.2.2.1, of_decide_eq_true g, fdB_lt h.tb _ x _ _, h.2.2.2.2.2.2⟩))
theorem wf_wipe {X : AS} (h : WFX X) : WFX (p_wipe X).2 := ⟨h.1, h.2.1, h.2.2.1, h.2.2.2.1, Nat.zero_le _, h.2.2.2.2.2⟩
theorem wf_hold {X : AS} (h : WFX X) (s q : Int32) : WFX (p_hold X s q).2 := WFX_bk h (fun g => by
  refine WFX_S h (WF_st6 h.w _ ?_) h.e
  split
  · exact Nat.zero_le _
  · rename_i hq
    simp only [Bool.and_eq_true, Bool.or_eq_true, beq_iff_eq] at g
    rcases g.2 with g2 | g2
    · exact absurd g2 hq
    · have := in_tl (n := X.1 7 0) g2 (by have := h.w.n; omega)
      omega)
theorem wf_as {X : AS} (h : WFX X) (s k : Int32) : WFX (p_as X s k).2 := WFX_bk h (fun _ => WFX_bk h (fun _ => WFX_bk h (fun _ => h)))
theorem wf_sheet {X : AS} (h : WFX X) (x b n : Int32) : WFX (p_sheet X x b n).2 := WFX_bk h (fun g => WFX_bk h (fun _ => WFX_bk h (fun g2 => by
  have hn := in_tl g2 (by decide)
  simp only [Bool.and_eq_true, Bool.or_eq_true, beq_iff_eq] at g
  have hb : tn b = 0 ∨ tn b = 8 ∨ tn b = 16 ∨ tn b = 32 := by
    rcases g.2 with ((g | g) | g) | g <;> rw [g]
    · exact Or.inl (tn_nI (by decide))
    · exact Or.inr (Or.inl (tn_nI (by decide)))
    · exact Or.inr (Or.inr (Or.inl (tn_nI (by decide))))
    · exact Or.inr (Or.inr (Or.inr (tn_nI (by decide))))
  refine ⟨h.1, h.2.1, h.2.2.1, h.2.2.2.1, h.2.2.2.2.1, h.2.2.2.2.2.1, fun k => ?_, fun k => ?_, fun k => ?_⟩
  · show updF X.2.2.2.2.2.2.1 (tn x) (tn b) k = 0 ∨ updF X.2.2.2.2.2.2.1 (tn x) (tn b) k = 8 ∨ updF X.2.2.2.2.2.2.1 (tn x) (tn b) k = 16 ∨ updF X.2.2.2.2.2.2.1 (tn x) (tn b) k = 32
    have := h.sb k
    simp only [updF]
    split
    · exact hb
    · exact this
  · show updF X.2.2.2.2.2.2.2.1 (tn x) (if tn b = 0 then 0 else tn n) k ≤ 40
    have := h.sl k
    simp only [updF]
    repeat' split
    all_goals omega
  · show updF X.2.2.2.2.2.2.1 (tn x) (tn b) k = 0 → updF X.2.2.2.2.2.2.2.1 (tn x) (if tn b = 0 then 0 else tn n) k = 0
    have := h.s0 k
    simp only [updF]
    by_cases e : k = tn x
    · rw [if_pos e, if_pos e]
      intro e2
      rw [if_pos e2]
    · rw [if_neg e, if_neg e]
      exact this)))
theorem wf_write {X : AS} (h : WFX X) (x i v : Int32) : WFX (p_write X x i v).2 := by
  unfold p_write
  split
  · refine WFX_bk h (fun _ => ?_)
    rw [updF_self, updF_self]
    exact h
  · exact h
theorem wf_copy {X : AS} (h : WFX X) (x f y g n : Int32) : WFX (p_copy X x f y g n).2 := WFX_bk h (fun _ => WFX_bk h (fun _ => WFX_bk h (fun _ => WFX_bk h (fun _ => h))))
theorem runN_lt {P : Nat → Bool} {n j : Nat} (h : j < runN P n) : P j = true := by
  unfold runN at h
  split at h
  · rename_i g
    obtain ⟨_, _, h3⟩ := frst_lt g
    have := h3 j h
    cases e : P j
    · rw [e] at this; cases this
    · rfl
  · rename_i g
    cases e : P j
    · exfalso
      apply g
      exact (anyTo_iff _ _).mpr ⟨j, h, by rw [e]; rfl⟩
    · rfl
theorem WF_upF0 {S : OS} (h : WF S) {f : Nat → Nat} (n : Nat) (hf : ∀ q, q < n → f q < 64) : WF (upF S 0 f n) := by
  refine ⟨h.1, fun j => ?_, h.2.2.1, h.2.2.2.1, h.2.2.2.2.1, h.2.2.2.2.2.1, h.2.2.2.2.2.2.1, h.2.2.2.2.2.2.2.1, h.2.2.2.2.2.2.2.2⟩
  have h5 := h.f0 j
  simp only [upF]
  split
  · rename_i g; exact hf j g.2
  · exact h5
theorem wf_load {X : AS} (h : WFX X) (x : Int32) : WFX (p_load X x).2 := by
  unfold p_load
  split
  · exact WFX_S h (WF_upF0 h.w _ (fun q hq => in_tl (runN_lt (P := fun i => inN (X.2.2.2.2.2.2.2.2 (tn x) i) 64) hq) (by decide))) h.e
  · exact h
theorem wf_judge {X : AS} (h : WFX X) (x : Int32) : WFX (p_judge X x).2 := by
  unfold p_judge
  split
  · exact h
  · exact h
theorem wf_image {X : AS} (h : WFX X) : WFX (p_image X).2 := ⟨h.1, h.1, h.2.2.1, h.2.2.1, h.2.2.2.2⟩
theorem wf_undo {X : AS} (h : WFX X) : WFX (p_undo X).2 := WFX_bk h (fun _ => WFX_S h h.k h.ke)
theorem wf_tear {X : AS} (h : WFX X) : WFX (p_tear X).2 := h
theorem wf_count {X : AS} (h : WFX X) (w : Int32) : WFX (p_count X w).2 := WFX_bk h (fun _ => h)
theorem wf_status {X : AS} (h : WFX X) (w : Int32) : WFX (p_status X w).2 := by
  unfold p_status
  split
  · exact h
  · exact WFX_bk h (fun _ => h)
