theorem HA.rows {X : Sh} {Z Z' : ZT} {h o hd g3 g4 : Nat} (H : HA X Z h o hd g3 g4) (r2 : ∀ j, j < 3 → Z' 2 0 j = Z 2 0 j) (r3 : Z' 3 0 = Z 3 0) (r4 : Z' 4 0 = Z 4 0) (r5 : Z' 5 0 = Z 5 0) (r8 : Z' 8 0 = Z 8 0) (r9 : Z' 9 0 = Z 9 0) : HA X Z' h o hd g3 g4 := by
  unfold HA
  rw [r2 0 (by decide), r2 1 (by decide), r2 2 (by decide), r3, r4, r5, r8, r9]
  exact H
theorem scn_rows {Z Z' : ZT} {s w : Nat} (r3 : Z' 3 0 = Z 3 0) (r4 : Z' 4 0 = Z 4 0) (r8 : Z' 8 0 = Z 8 0) : scn Z' s w = scn Z s w := by
  unfold scn
  rw [r3, r4, r8]
theorem HBc.congr {X : Sh} {Z : ZT} {fc : Nat} {c c' : Nat → Nat} (B : HBc X Z fc c) (hc : ∀ s, s < 513 → c' s = c s) : HBc X Z fc c' := by
  obtain ⟨d1, d4, d5, d6, d60, d61, d7, d8, d9⟩ := B
  refine ⟨fun s hs => by rw [hc s hs]; exact d1 s hs, fun s hs q => d4 s hs (by rw [← hc s hs]; exact q), fun s hs q => by rw [hc s hs]; exact d5 s hs q, d6, by rw [hc 0 (by decide)]; exact d60, fun s hs => by rw [hc s hs]; exact d61 s hs, fun j hj => ?_, d8, ?_⟩
  · obtain ⟨s, q1, q2, q3⟩ := d7 j hj
    exact ⟨s, q1, q2, by rw [hc s q1]; exact q3⟩
  · rw [← d9]
    exact sumN_congr (fun k hk => by rw [hc k hk])
def dec1 (c : Nat → Nat) (s : Nat) : Nat → Nat := fun t => if t = s then c t - 1 else c t
/-- one user less, others are left -/
theorem rl_keep {X : Sh} {Z Z' : ZT} {fc s : Nat} {c : Nat → Nat} (B : HBc X Z fc c) (hs : s < 513) (h2 : 2 ≤ c s) (r7 : Z' 7 0 = upd (Z 7 0) s (nI (c s - 1))) (r8 : Z' 8 0 = Z 8 0) (r10 : Z' 10 0 = Z 10 0) (r2 : Z' 2 0 3 = Z 2 0 3) : HBc X Z' fc (dec1 c s) := by
  obtain ⟨d1, d4, d5, d6, d60, d61, d7, d8, d9⟩ := B
  have e : ∀ t, (dec1 c s t = 0 ↔ c t = 0) := fun t => by
    unfold dec1
    split
    · rename_i q; subst q; omega
    · exact Iff.rfl
  refine ⟨fun t ht => ?_, fun t ht q => d4 t ht (fun p => q ((e t).mpr p)), fun t ht q => fun p => d5 t ht (by rw [← r8]; exact q) ((e t).mp p), by rw [r2]; exact d6, ?_, fun t ht => ?_, fun j hj => ?_, by rw [r10]; exact d8, ?_⟩
  · rw [r7]
    unfold dec1
    by_cases q : t = s
    · subst q; rw [upd_s, if_pos rfl]
    · rw [upd_n q, if_neg q]; exact d1 t ht
  · unfold dec1
    split
    · rename_i q; rw [q]; omega
    · exact d60
  · unfold dec1
    have := d61 t ht
    split <;> omega
  · obtain ⟨t, q1, q2, q3⟩ := d7 j hj
    exact ⟨t, q1, by rw [r10]; exact q2, (e t).mpr q3⟩
  · rw [← d9]
    refine sumN_congr (fun k hk => ?_)
    by_cases q : c k = 0
    · rw [if_pos q, if_pos ((e k).mpr q)]
    · rw [if_neg q, if_neg (fun p => q ((e k).mp p))]
/-- the last user goes: the sheet is free -/
theorem rl_last {X : Sh} {Z Z1 Z' : ZT} {fc s : Nat} {c : Nat → Nat} (B : HBc X Z fc c) (hs : s < 513) (hs0 : s ≠ 0) (h1 : c s = 1) (r7 : Z1 7 0 = upd (Z 7 0) s 0) (r8 : Z1 8 0 = Z 8 0) (r10 : Z1 10 0 = Z 10 0) (T : FS Z1 s fc Z') : HBc X Z' (fc + 1) (dec1 c s) := by
  obtain ⟨d1, d4, d5, d6, d60, d61, d7, d8, d9⟩ := B
  obtain ⟨t8, t9, t10, t2, t5, t⟩ := T
  have t7 : Z' 7 0 = Z1 7 0 := t 7 0 (by omega)
  have es : dec1 c s s = 0 := by unfold dec1; rw [if_pos rfl]; omega
  have eo : ∀ t, t ≠ s → dec1 c s t = c t := fun t q => by unfold dec1; rw [if_neg q]
  refine ⟨fun t ht => ?_, fun t ht q => ?_, fun t ht q => ?_, by rw [t2, upd_s], ?_, fun t ht => ?_, fun j hj => ?_, fun j j' hj hj' e => ?_, ?_⟩
  · rw [t7, r7]
    by_cases q : t = s
    · subst q; rw [upd_s, es]; rfl
    · rw [upd_n q, eo t q]; exact d1 t ht
  · by_cases p : t = s
    · subst p; exact absurd es q
    · rw [eo t p] at q; exact d4 t ht q
  · by_cases p : t = s
    · subst p; rw [t8, upd_s] at q; exact absurd rfl q
    · rw [eo t p]; rw [t8, upd_n p, r8] at q; exact d5 t ht q
  · rw [eo 0 (Ne.symm hs0)]; exact d60
  · by_cases p : t = s
    · subst p; omega
    · rw [eo t p]; exact d61 t ht
  · by_cases p : j = fc
    · subst p
      exact ⟨s, hs, by rw [t10, upd_s], es⟩
    · obtain ⟨t, q1, q2, q3⟩ := d7 j (by omega)
      have : t ≠ s := fun e => by rw [e, h1] at q3; omega
      exact ⟨t, q1, by rw [t10, upd_n p, r10]; exact q2, by rw [eo t this]; exact q3⟩
  · have key : ∀ j, j < fc → Z1 10 0 j ≠ nI s := fun j hj q => by
      obtain ⟨t, q1, q2, q3⟩ := d7 j hj
      rw [r10, q2] at q
      have := nI_inj (by omega) (by omega) q
      rw [this, h1] at q3
      omega
    rw [t10] at e
    by_cases p : j = fc
    · by_cases p' : j' = fc
      · omega
      · rw [p, upd_s, upd_n p'] at e
        exact absurd e.symm (key j' (by omega))
    · by_cases p' : j' = fc
      · rw [p', upd_s, upd_n p] at e
        exact absurd e (key j (by omega))
      · rw [upd_n p, upd_n p', r10] at e
        exact d8 j j' (by omega) (by omega) e
  · have h := sumN_chg (n := 513) (k := s) (f := fun t => if dec1 c s t = 0 then 1 else 0) (g := fun t => if c t = 0 then 1 else 0) hs (fun j _ hne => by rw [eo j hne])
    try dsimp only at h
    rw [if_pos es, if_neg (by omega), d9] at h
    omega
/-- the count that is left when the first t frames of guest i are given back -/
def ctR (X : Sh) (Z : ZT) (i t : Nat) : Nat → Nat := fun s => cnt X Z s - sumN t (fun k => use1 Z i k s)
theorem sumN_mono {n m : Nat} {f : Nat → Nat} (h : n ≤ m) : sumN n f ≤ sumN m f := by
  induction m with
  | zero => have : n = 0 := by omega
            subst this; exact Nat.le_refl _
  | succ m ih =>
    rcases Nat.lt_or_ge n (m + 1) with q | q
    · have := ih (by omega); simp only [sumN]; omega
    · have : n = m + 1 := by omega
      subst this; exact Nat.le_refl _
theorem ctR_le {X : Sh} {Z : ZT} {i t s : Nat} (hi : i < 8) (ht : t ≤ gfr X Z i) : sumN t (fun k => use1 Z i k s) + (if s = 0 then 1 else 0) ≤ cnt X Z s := by
  have h1 := sumN_mono (f := fun k => use1 Z i k s) ht
  have h2 := sumN_ge (f := fun j => sumN (gfr X Z j) (fun k => use1 Z j k s)) hi
  unfold cnt
  try dsimp only at h2
  omega
theorem ctR_step {X : Sh} {Z : ZT} {i t s0 : Nat} (hi : i < 8) (ht : t < gfr X Z i) (hs0 : s0 < 513) (e : Z 21 i t = nI s0) : 1 + (if s0 = 0 then 1 else 0) ≤ ctR X Z i t s0 ∧ ∀ s, s < 513 → ctR X Z i (t + 1) s = dec1 (ctR X Z i t) s0 s := by
  have hu : ∀ s, s < 513 → use1 Z i t s = if s = s0 then 1 else 0 := fun s hs => by
    unfold use1
    rw [e]
    by_cases q : s = s0
    · rw [if_pos q, q, if_pos rfl]
    · rw [if_neg q, if_neg (fun p => q (nI_inj (by omega) (by omega) p).symm)]
  refine ⟨?_, fun s hs => ?_⟩
  · have h1 := ctR_le (s := s0) hi (show t + 1 ≤ gfr X Z i by omega)
    simp only [sumN] at h1
    rw [hu s0 hs0, if_pos rfl] at h1
    unfold ctR
    omega
  · unfold ctR dec1
    simp only [sumN]
    rw [hu s hs]
    split <;> omega
