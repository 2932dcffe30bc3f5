/-- the uses of the sheets by a count c, and those that are free -/
def HBc (X : Sh) (Z : ZT) (fc : Nat) (c : Nat → Nat) : Prop :=
  (∀ s, s < 513 → Z 7 0 s = nI (c s)) ∧
  (∀ s, s < 513 → c s ≠ 0 → 64 * (s + 1) ≤ X.2.1 4) ∧
  (∀ s, s < 513 → Z 8 0 s ≠ -1 → c s ≠ 0) ∧
  Z 2 0 3 = nI fc ∧ 1 ≤ c 0 ∧ (∀ s, s < 513 → c s ≤ 513) ∧
  (∀ j, j < fc → ∃ s, s < 513 ∧ Z 10 0 j = nI s ∧ c s = 0) ∧
  (∀ j j', j < fc → j' < fc → Z 10 0 j = Z 10 0 j' → j = j') ∧
  sumN 513 (fun s => if c s = 0 then 1 else 0) = fc
theorem HB.c {X : Sh} {Z : ZT} {fc : Nat} (B : HB X Z fc) : HBc X Z fc (cnt X Z) := by
  have ht := B.total
  obtain ⟨d1, d2, d3, d4, d5, d6, d7, d8, d9⟩ := B
  refine ⟨d1, d4, d5, d6, by unfold cnt; simp, fun s hs => ?_, d7, d8, d9⟩
  have := sumN_ge (f := fun s => cnt X Z s) hs
  try dsimp only at this
  omega
theorem HBc.to {X X' : Sh} {Z Z' : ZT} {fc : Nat} {c : Nat → Nat} (B : HBc X Z fc c) (hc : ∀ s, s < 513 → cnt X' Z' s = c s) (h4 : X'.2.1 4 = X.2.1 4) (r7 : Z' 7 0 = Z 7 0) (r8 : Z' 8 0 = Z 8 0) (r10 : Z' 10 0 = Z 10 0) (r23 : Z' 2 0 3 = Z 2 0 3) (h2 : ∀ j k, j < 8 → k < gfr X' Z' j → ∃ s, s < 513 ∧ Z' 21 j k = nI s) (h3 : ∀ j, j < 8 → gfr X' Z' j ≤ 64) : HB X' Z' fc := by
  obtain ⟨d1, d4, d5, d6, -, -, d7, d8, d9⟩ := B
  refine ⟨?_, h2, h3, ?_, ?_, by rw [r23]; exact d6, ?_, by rw [r10]; exact d8, ?_⟩
  · intro s hs; rw [r7, hc s hs]; exact d1 s hs
  · intro s hs q; rw [hc s hs] at q; rw [h4]; exact d4 s hs q
  · intro s hs q; rw [r8] at q; rw [hc s hs]; exact d5 s hs q
  · intro j hj
    obtain ⟨s, q1, q2, q3⟩ := d7 j hj
    exact ⟨s, q1, by rw [r10]; exact q2, by rw [hc s q1]; exact q3⟩
  · rw [← d9]
    exact sumN_congr (fun k hk => by rw [hc k hk])
theorem HBc.fc_le {X : Sh} {Z : ZT} {fc : Nat} {c : Nat → Nat} (B : HBc X Z fc c) : fc ≤ 512 := by
  obtain ⟨-, -, -, -, h0, -, -, -, h⟩ := B
  rw [← h]
  have h1 : sumN 513 (fun s => if c s = 0 then 1 else 0) ≤ sumN 513 (fun s => if s = 0 then 0 else 1) := sumN_le (fun k _ => by
    by_cases e : k = 0
    · subst e
      rw [if_neg (by omega)]
      exact Nat.zero_le _
    · rw [if_neg e]
      split <;> omega)
  have h2 : sumN 513 (fun s => if s = 0 then 0 else 1) + sumN 513 (fun k => if k = 0 then 1 else 0) = 513 := by
    rw [← sumN_add]
    have : (fun k => (if k = 0 then 0 else 1) + if k = 0 then 1 else 0) = (fun _ : Nat => 1) := by
      funext k
      split <;> rfl
    rw [this, sumN_const]
  rw [sumN_one (by decide)] at h2
  omega
/-- a sheet that nobody uses any more is given back -/
def FS (Z : ZT) (s fc : Nat) (Z' : ZT) : Prop :=
  Z' 8 0 = upd (Z 8 0) s (-1) ∧ Z' 9 0 = upd (Z 9 0) s 0 ∧ Z' 10 0 = upd (Z 10 0) fc (nI s) ∧ Z' 2 0 = upd (Z 2 0) 3 (nI (fc + 1)) ∧
  ((Z 8 0 s = -1 ∧ Z' 5 0 = Z 5 0) ∨ ∃ f, Z 8 0 s = nI f ∧ f < 256 ∧ Z' 5 0 = upd (Z 5 0) f (-1)) ∧ (∀ c i, ¬ (i = 0 ∧ (c = 2 ∨ c = 5 ∨ c = 8 ∨ c = 9 ∨ c = 10)) → Z' c i = Z c i)
theorem fs_main {X : Sh} {Z Z' : ZT} {h o hd g3 g4 s fc : Nat} (H : HA X Z h o hd g3 g4) (hs : s < 513) (T : FS Z s fc Z') : HA X Z' h o hd g3 g4 ∧ (∀ s' w, s' < 513 → w < 64 → s' ≠ s → scn Z' s' w = scn Z s' w) := by
  obtain ⟨⟨a1, a2, a3, a4⟩, ⟨b1, b2, b3⟩, c1, c2, c3, c4, c5, c6, c7⟩ := H
  obtain ⟨r8, r9, r10, r2, r5, r⟩ := T
  have r3 : Z' 3 0 = Z 3 0 := r 3 0 (by omega)
  have r4 : Z' 4 0 = Z 4 0 := r 4 0 (by omega)
  have h5 : ∀ f s', s' < 513 → s' ≠ s → f < 256 → Z 5 0 f = nI s' → Z 8 0 s' = nI f → Z' 5 0 f = nI s' := by
    intro f s' hs' hne hf e5 e8
    rcases r5 with ⟨-, q⟩ | ⟨f', q1, q2, q3⟩
    · rw [q]; exact e5
    · rw [q3, upd_n]
      · exact e5
      · intro e
        subst e
        rcases c3 s hs with p | ⟨f2, p1, p2, p3, -⟩
        · rw [p] at q1; exact nI_ne_m1 (by omega) q1.symm
        · have := nI_inj (by omega) (by omega) (p2.symm.trans q1)
          subst this
          exact hne (nI_inj (by omega) (by omega) (e5.symm.trans p3))
  refine ⟨⟨⟨a1, a2, a3, a4⟩, ?_, c1, c2, ?_, ?_, ?_, ?_, by rw [r4]; exact c7⟩, ?_⟩
  · rw [r2]
    exact ⟨by rw [upd_n (by decide)]; exact b1, by rw [upd_n (by decide)]; exact b2, by rw [upd_n (by decide)]; exact b3⟩
  · intro s' hs'
    rw [r8]
    by_cases e : s' = s
    · subst e; exact Or.inl upd_s
    · rw [upd_n e]
      rcases c3 s' hs' with q | ⟨f, q1, q2, q3, q4⟩
      · exact Or.inl q
      · exact Or.inr ⟨f, q1, q2, h5 f s' hs' e (by omega) q3 q2, q4⟩
  · intro f hf
    rcases c4 f hf with q | ⟨s', q1, q2, q3, q4⟩
    · left
      rcases r5 with ⟨-, p⟩ | ⟨f', p1, p2, p3⟩
      · rw [p]; exact q
      · rw [p3]
        by_cases e : f = f'
        · subst e; exact upd_s
        · rw [upd_n e]; exact q
    · by_cases e : s' = s
      · subst e
        left
        rcases r5 with ⟨p, -⟩ | ⟨f', p1, p2, p3⟩
        · rw [p] at q4; exact absurd q4.symm (nI_ne_m1 (by omega))
        · have := nI_inj (by omega) (by omega) (p1.symm.trans q4)
          subst this
          rw [p3, upd_s]
      · exact Or.inr ⟨s', q1, q2, h5 f s' q1 e hf q3 q4, by rw [r8, upd_n e]; exact q4⟩
  · intro s' hs'
    rw [r8, r9]
    by_cases e : s' = s
    · subst e; exact Or.inl upd_s
    · rw [upd_n e, upd_n e]; exact c5 s' hs'
  · intro s' f k hs' hf hk e8 e9
    rw [r8] at e8
    rw [r9] at e9
    rw [r3, r4]
    by_cases e : s' = s
    · subst e; rw [upd_s] at e8; exact absurd e8.symm (nI_ne_m1 (by omega))
    · rw [upd_n e] at e8 e9; exact c6 s' f k hs' hf hk e8 e9
  · intro s' w hs' hw e
    unfold scn
    rw [r8, upd_n e, r3, r4]
