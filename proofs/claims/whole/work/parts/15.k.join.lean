/-! the tape tells to the trial -/
section JX
variable {D : va_G} {ci : Nat → ClassId} {ad : Nat → Nat} {X : AS} {T : OS} {tq la tt : Nat → Int32} {z : Nat → Nat → Int32} {H H1 : Heap}
theorem sh_ne (hI : injA ad 48) : ∀ i j, i < 2 → j < 11 → sh ad 38 i ≠ sh ad 16 j := fun i j h1 h2 h => by
  have := hI (38 + i) (16 + j) (by omega) (by omega) h
  omega
theorem frTO (hf : ∀ q : Nat, q < H.size → ¬ aTO (sh ad 38) (sh ad 16) q → H1[q]? = H[q]?) : ∀ q : Nat, q < H.size → ¬ (aR ad 38 40 q ∨ aR ad 16 27 q) → H1[q]? = H[q]? := fun q a b => hf q a (fun c => c.elim (fun c => b (Or.inl (aT_sh q c))) (fun c => b (Or.inr (aO_sh q c))))
theorem wX_j38_16 (hI : injA ad 48) (h : va_P D vwCl (wX ci ad X T tq la tt z) H) (hf : ∀ q : Nat, q < H.size → ¬ aTO (sh ad 38) (sh ad 16) q → H1[q]? = H[q]?) {S' : OS} {tq' w r nb : Nat → Int32} (h2 : va_P D vwCl (wTp ci (sh ad 38) X.2.2.2.2.1 X.2.2.2.2.2.1 tq' ++ wO (ci 0) (sh ad 16) S' w r nb) H1) : va_P D vwCl (wX ci ad X S' tq' la tt (z3 z 3 w r nb)) H1 := by
  have hf2 := frTO hf
  have h5 := va_Pr h
  have h16 := va_Pr h5
  have h27 := va_Pr h16
  have h38 := va_Pr h27
  have h40 := va_Pr h38
  exact va_P.app (va_Pf (va_Pl h) hf2 (no2 hI (adrs_main _ _) (by decide) (by decide) (by decide) (Or.inl (by decide)) (Or.inl (by decide)))) (va_P.app (va_Pf (va_Pl h5) hf2 (no2 hI (adrs_O _ 5 _ _ _ _) (by decide) (by decide) (by decide) (Or.inl (by decide)) (Or.inl (by decide)))) (va_P.app (va_Pr h2) (va_P.app (va_Pf (va_Pl h27) hf2 (no2 hI (adrs_O _ 27 _ _ _ _) (by decide) (by decide) (by decide) (Or.inl (by decide)) (Or.inr (by decide)))) (va_P.app (va_Pl h2) (va_Pf h40 hf2 (no2 (lo := 40) (hi := 48) hI (adrs_app (adrs_sh 40 _ _ _) (adrs_app (adrs_sh 42 _ _ _) (adrs_app (adrs_sh 44 _ _ _) (adrs_sh 46 _ _ _) (by decide) (by decide)) (by decide) (by decide)) (by decide) (by decide)) (by decide) (by decide) (by decide) (Or.inr (by decide)) (Or.inr (by decide))))))))
end JX
theorem tR_n {tb : Nat → Nat} {tl : Nat} : ∀ f n p S, WF S → p ≤ tl → (tR tb tl f n p S).2.1 ≤ n + f + tl
  | 0, n, p, S, h, hp => by
    have : stt tb tl p ≤ tl := stt_le hp
    show stt tb tl p ≤ _
    omega
  | f + 1, n, p, S, h, hp => by
    obtain ⟨⟨a, b, _⟩, _⟩ := iR_ok (tb := tb) h hp
    have h2 : stt tb tl (iR tb tl p S).2.1 ≤ tl := stt_le b
    rw [tR]
    split
    · split
      · show n ≤ _; omega
      · split
        · have h1 := tR_n (tb := tb) f (n + 1) (nxt tb tl (iR tb tl p S).2.1) (iR tb tl p S).2.2 a (nxt_le b)
          omega
        · show stt tb tl (iR tb tl p S).2.1 ≤ _; omega
    · show stt tb tl (iR tb tl p S).2.1 ≤ _; omega
theorem m1_neg {n : Nat} (h : n < 1000) : (-1 : Int32) - nI n < 0 := by
  rw [Int32.lt_iff_toInt_lt, Int32.toInt_sub, nI_toInt (by omega)]
  have : (-1 : Int32).toInt = -1 := by decide
  rw [this]
  have : (0 : Int32).toInt = 0 := by decide
  rw [this, Int.bmod_def]
  omega
theorem tI_lt {r : RS} (h : r.2.1 < 1000) : tI r < 0 ↔ r.1 = false := by
  unfold tI
  cases r.1
  · rw [if_neg (by decide)]
    exact ⟨fun _ => rfl, fun _ => m1_neg h⟩
  · rw [if_pos rfl]
    refine ⟨fun z => ?_, fun z => by cases z⟩
    have := nI_pos' (n := r.2.1) (by omega)
    exact (Int32.lt_irrefl (Int32.lt_of_lt_of_le z this)).elim
theorem tI_tR {X : AS} (h : WFX X) : tI (tR X.2.2.2.2.2.1 X.2.2.2.2.1 120 1 0 X.1) < 0 ↔ (tR X.2.2.2.2.2.1 X.2.2.2.2.1 120 1 0 X.1).1 = false := by
  have h1 := tR_n (tb := X.2.2.2.2.2.1) (tl := X.2.2.2.2.1) 120 1 0 X.1 h.w (Nat.zero_le _)
  have h2 := h.t
  exact tI_lt (by omega)
theorem ptext_f {X : AS} (h : WFX X) (hc : tI (tR X.2.2.2.2.2.1 X.2.2.2.2.1 120 1 0 X.1) < 0) : p_text X = (tI (tR X.2.2.2.2.2.1 X.2.2.2.2.1 120 1 0 X.1), toL X 0) := by
  have := (tI_tR h).mp hc
  rw [p_text, if_neg (by rw [this]; decide)]
theorem ptext_t {X : AS} (h : WFX X) (hc : ¬ tI (tR X.2.2.2.2.2.1 X.2.2.2.2.1 120 1 0 X.1) < 0) : p_text X = (tI (tR X.2.2.2.2.2.1 X.2.2.2.2.1 120 1 0 X.1), toL (toS X (tR X.2.2.2.2.2.1 X.2.2.2.2.1 120 1 0 X.1).2.2) 0) := by
  have h1 : (tR X.2.2.2.2.2.1 X.2.2.2.2.1 120 1 0 X.1).1 = true := by
    cases e : (tR X.2.2.2.2.2.1 X.2.2.2.2.1 120 1 0 X.1).1
    · exact absurd ((tI_tR h).mpr e) hc
    · rfl
  rw [p_text, if_pos h1]
