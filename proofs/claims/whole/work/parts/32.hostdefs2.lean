/-- a sheet comes into a free frame -/
theorem as_main {X : Sh} {Z Z' : ZT} {h o hd g3 g4 f s : Nat} {ch : Int32} (H : HA X Z h o hd g3 g4) (hs : s < 513) (hf : f < o) (h5 : Z 5 0 f = -1) (h8 : Z 8 0 s = -1) (hla : 64 * (s + 1) ≤ X.2.1 4) (hch : ch = 0 ∨ (ch = 1 ∧ s ≠ 0))
    (r2 : ∀ j, j < 3 → Z' 2 0 j = Z 2 0 j) (r3 : ∀ j, ¬ (64 * f ≤ j ∧ j < 64 * f + 64) → Z' 3 0 j = Z 3 0 j) (r3' : ch = 0 → ∀ j, j < 64 → Z' 3 0 (64 * f + j) = Z 4 0 (64 * s + j)) (r4 : Z' 4 0 = Z 4 0) (r5 : Z' 5 0 = upd (Z 5 0) f (nI s)) (r8 : Z' 8 0 = upd (Z 8 0) s (nI f)) (r9 : Z' 9 0 = upd (Z 9 0) s ch) :
    HA X Z' h o hd g3 g4 ∧ (∀ s' j, s' < 513 → j < 64 → s' ≠ s → scn Z' s' j = scn Z s' j) ∧ (∀ j, scn Z' s j = Z' 3 0 (64 * f + j)) := by
  obtain ⟨⟨a1, a2, a3, a4⟩, ⟨b1, b2, b3⟩, c1, c2, c3, c4, c5, c6, c7⟩ := H
  have hf31 : f < 2 ^ 31 := by omega
  have hs31 : s < 2 ^ 31 := by omega
  have none : ∀ s', s' < 513 → Z 8 0 s' ≠ nI f := by
    intro s' hs' e
    rcases c3 s' hs' with q | ⟨f', hf', e1, e2, -⟩
    · rw [q] at e; exact absurd e.symm (nI_ne_m1 hf31)
    · have : f' = f := nI_inj (by omega) hf31 (e1.symm.trans e)
      subst this
      rw [h5] at e2
      exact absurd e2.symm (nI_ne_m1 (by omega))
  refine ⟨⟨⟨a1, a2, a3, a4⟩, ?_, c1, c2, ?_, ?_, ?_, ?_, ?_⟩, ?_, ?_⟩
  · rw [r2 0 (by decide), r2 1 (by decide), r2 2 (by decide)]
    exact ⟨b1, b2, b3⟩
  · intro s' hs'
    rw [r8, r5]
    by_cases e : s' = s
    · subst e
      exact Or.inr ⟨f, hf, upd_s, upd_s, hla⟩
    · rw [upd_n e]
      rcases c3 s' hs' with q | ⟨f', hf', e1, e2, e3⟩
      · exact Or.inl q
      · refine Or.inr ⟨f', hf', e1, ?_, e3⟩
        rw [upd_n]
        · exact e2
        · intro q
          subst q
          exact none s' hs' e1
  · intro f' hf'
    rw [r8, r5]
    by_cases e : f' = f
    · subst e
      exact Or.inr ⟨s, hs, hf, upd_s, upd_s⟩
    · rw [upd_n e]
      rcases c4 f' hf' with q | ⟨s', hs', e0, e1, e2⟩
      · exact Or.inl q
      · refine Or.inr ⟨s', hs', e0, e1, ?_⟩
        rw [upd_n]
        · exact e2
        · intro q
          subst q
          rw [h8] at e2
          exact absurd e2.symm (nI_ne_m1 (by omega))
  · intro s' hs'
    rw [r8, r9]
    by_cases e : s' = s
    · subst e
      rw [upd_s, upd_s]
      rcases hch with q | ⟨q1, q2⟩
      · exact Or.inl q
      · exact Or.inr ⟨q1, nI_ne_m1 hf31, q2⟩
    · rw [upd_n e, upd_n e]
      exact c5 s' hs'
  · intro s' f' k hs' hf' hk e1 e2
    rw [r8] at e1
    rw [r9] at e2
    rw [r4]
    by_cases e : s' = s
    · subst e
      rw [upd_s] at e1 e2
      have : f' = f := nI_inj (by omega) hf31 e1.symm
      subst this
      exact r3' e2 k hk
    · rw [upd_n e] at e1 e2
      have hne : f' ≠ f := fun q => none s' hs' (by rw [e1, q])
      rw [r3 _ (by omega)]
      exact c6 s' f' k hs' hf' hk e1 e2
  · rw [r4]; exact c7
  · intro s' j hs' hj e
    rcases c3 s' hs' with q | ⟨f', hf', e1, -, -⟩
    · rw [scn_away (show Z' 8 0 s' = -1 by rw [r8, upd_n e]; exact q), scn_away q, r4]
    · have hne : f' ≠ f := fun q => none s' hs' (by rw [e1, q])
      rw [scn_mem (by omega) (show Z' 8 0 s' = nI f' by rw [r8, upd_n e]; exact e1), scn_mem (by omega) e1, r3 _ (by omega)]
  · intro j
    exact scn_mem hf31 (by rw [r8, upd_s])
/-- what bringing sheet s leaves -/
def BR (X : Sh) (Z : ZT) (h o g3 g4 s : Nat) (X' : Sh) (Z' : ZT) (f k n : Nat) : Prop :=
  ∃ (V : Nat → Nat) (o' hd' g3' : Nat), X' = (X.1, V, X.2.2) ∧ V 4 = X.2.1 4 ∧ V 14 = X.2.1 14 ∧ f < o' ∧ o ≤ o' ∧ HA X' Z' h o' hd' g3' g4 ∧ k + g3' ≤ g3 ∧ n ≤ 32768 * k ∧ Z' 8 0 s = nI f ∧
    (∀ s j, s < 513 → j < 64 → scn Z' s j = scn Z s j) ∧ (∀ c i, ¬ tfR c i → Z' c i = Z c i) ∧ (∀ j, j ≠ 1 → j ≠ 2 → Z' 2 0 j = Z 2 0 j) ∧ (∀ s', s' < 513 → Z' 8 0 s' = -1 ∨ Z' 8 0 s' = Z 8 0 s' ∨ s' = s)
def isShv (a : Int32) : Int32 := if a < 0 then 0 else if 513 ≤ a then 0 else 1
theorem isShv_nI {s : Nat} (h : s < 513) : isShv (nI s) = 1 := by
  unfold isShv
  rw [if_neg (nI_pos (by omega)), if_neg (show ¬ (513 : Int32) ≤ nI s from fun q => nI_ge h (by decide) q)]
