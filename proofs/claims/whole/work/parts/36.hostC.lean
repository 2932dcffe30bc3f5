/-- the room has grown: nothing else has changed of the sheets -/
theorem ts_main {X : Sh} {Z : ZT} {h o hd g3 g4 sh fc k n : Nat} {X' : Sh} {Z' : ZT} (H : HA X Z h o hd g3 g4) (T : TS X Z sh fc g4 X' Z' k n) :
    ∃ g4', k + g4' ≤ g4 ∧ HA X' Z' h o hd g3 g4' ∧ X.2.1 4 ≤ X'.2.1 4 ∧ 64 * (sh + 1) ≤ X'.2.1 4 ∧ (∀ s j, s < 513 → j < 64 → 64 * (s + 1) ≤ X.2.1 4 → scn Z' s j = scn Z s j) := by
  obtain ⟨⟨a1, a2, a3, a4⟩, ⟨b1, b2, b3⟩, c1, ⟨c21, c22, c23⟩, c3, c4, c5, c6, c7⟩ := H
  obtain ⟨V, g4', rfl, v3, v13, s1, s2, s3, s4, s5, s6, r2, r4, r⟩ := T
  have r3 : Z' 3 0 = Z 3 0 := r 3 0 (by omega)
  have r5 : Z' 5 0 = Z 5 0 := r 5 0 (by omega)
  have r8 : Z' 8 0 = Z 8 0 := r 8 0 (by omega)
  have r9 : Z' 9 0 = Z 9 0 := r 9 0 (by omega)
  refine ⟨g4', s5, ⟨⟨a1, a2, a3, a4⟩, ?_, ?_, ⟨?_, s3, s4⟩, ?_, ?_, ?_, ?_, ?_⟩, s2, s1, ?_⟩
  · rw [r2]
    exact ⟨by rw [upd_n (by decide)]; exact b1, by rw [upd_n (by decide)]; exact b2, by rw [upd_n (by decide)]; exact b3⟩
  · show 64 * o ≤ V 3 ∧ 256 ≤ V 3 ∧ V 3 < 32768 ∧ 16384 ≤ V 3 * 2 ^ g3
    rw [v3]; exact c1
  · show 256 ≤ V 4
    omega
  · intro s hs
    rw [r8, r5]
    rcases c3 s hs with q | ⟨f, q1, q2, q3, q4⟩
    · exact Or.inl q
    · exact Or.inr ⟨f, q1, q2, q3, by show 64 * (s + 1) ≤ V 4; omega⟩
  · rw [r8, r5]; exact c4
  · rw [r8, r9]; exact c5
  · intro s f k hs hf hk e1 e2
    rw [r8] at e1
    rw [r9] at e2
    have hle : 64 * (s + 1) ≤ X.2.1 4 := by
      rcases c3 s hs with q | ⟨_, _, _, _, q⟩
      · rw [q] at e1; exact absurd e1.symm (nI_ne_m1 (by omega))
      · exact q
    rw [r3, r4 _ (by omega)]
    exact c6 s f k hs hf hk e1 e2
  · intro k hk
    rw [r4 _ (by omega)]
    exact c7 k hk
  · intro s j hs hj hle
    unfold scn
    rw [r8, r3, r4 _ (by omega)]
theorem and63 {n : Nat} (h : n < 64) : nI n &&& 63 = nI n := by
  rw [pk_andN (by omega) 6 (by decide), Nat.mod_eq_of_lt h]
/-- what making a frame a guest's own leaves -/
def MO (X : Sh) (Z : ZT) (h g3 g4 i fr : Nat) (X' : Sh) (Z' : ZT) (f k n : Nat) : Prop :=
  ∃ (V : Nat → Nat) (o' hd' g3' g4' fc' s' : Nat), X' = (X.1, V, X.2.2) ∧ HA X' Z' h o' hd' g3' g4' ∧ HB X' Z' fc' ∧ f < o' ∧ s' < 513 ∧ s' ≠ 0 ∧ Z' 21 i fr = nI s' ∧ Z' 8 0 s' = nI f ∧ Z' 9 0 s' = 1 ∧ cnt X' Z' s' = 1 ∧ k + g3' + g4' ≤ g3 + g4 ∧ n ≤ 32832 * k ∧
    (∀ j k w, j < 8 → k < gfr X Z j → w < 64 → mw Z' j k w = mw Z j k w) ∧ (∀ c i', ¬ (i' = 0 ∧ 2 ≤ c ∧ c ≤ 10) → ¬ (c = 21 ∧ i' = i) → Z' c i' = Z c i') ∧ (∀ j, j ≠ fr → Z' 21 i j = Z 21 i j)
theorem gfr_same {X X' : Sh} {Z Z' : ZT} {j : Nat} (h1 : X'.2.2.1 = X.2.2.1) (h2 : Z' 20 j = Z 20 j) : gfr X' Z' j = gfr X Z j := by
  unfold gfr
  rw [h1, h2]
/-- a sheet with one user is written by it -/
theorem mo_one {X : Sh} {Z : ZT} {h o hd g3 g4 fc i fr s f : Nat} (H : HA X Z h o hd g3 g4) (B : HB X Z fc) (hi : i < 8) (hfr : fr < gfr X Z i) (hs : s < 513) (e21 : Z 21 i fr = nI s) (e8 : Z 8 0 s = nI f) (hf : f < o) (h1 : cnt X Z s = 1) :
    MO X Z h g3 g4 i fr X (upr Z 9 0 (upd (Z 9 0) s 1)) f 0 0 := by
  obtain ⟨⟨a1, a2, a3, a4⟩, ⟨b1, b2, b3⟩, c1, c2, c3, c4, c5, c6, c7⟩ := H
  have hs0 : s ≠ 0 := by
    intro e
    have := cnt_ge hi hfr e21
    rw [if_pos e] at this
    omega
  have z : ∀ c i, c ≠ 9 → upr Z 9 0 (upd (Z 9 0) s 1) c i = Z c i := fun c i h => upr_k h
  have hscn : ∀ s' w, scn (upr Z 9 0 (upd (Z 9 0) s 1)) s' w = scn Z s' w := fun s' w => by
    unfold scn
    rw [z 8 0 (by decide), z 4 0 (by decide), z 3 0 (by decide)]
  have hc : ∀ s', cnt X (upr Z 9 0 (upd (Z 9 0) s 1)) s' = cnt X Z s' := fun s' => cnt_same (fun j _ => gfr_same rfl (z 20 j (by decide))) (fun j k _ _ => by rw [z 21 j (by decide)])
  refine ⟨X.2.1, o, hd, g3, g4, fc, s, rfl, ⟨⟨a1, a2, a3, a4⟩, ?_, c1, c2, ?_, ?_, ?_, ?_, ?_⟩, ?_, hf, hs, hs0, ?_, ?_, ?_, ?_, by omega, by omega, ?_, ?_, ?_⟩
  · rw [z 2 0 (by decide)]; exact ⟨b1, b2, b3⟩
  · rw [z 8 0 (by decide), z 5 0 (by decide)]; exact c3
  · rw [z 8 0 (by decide), z 5 0 (by decide)]; exact c4
  · intro s' hs'
    rw [z 8 0 (by decide), upr_s]
    by_cases e : s' = s
    · subst e
      exact Or.inr ⟨upd_s, by rw [e8]; exact nI_ne_m1 (by omega), hs0⟩
    · rw [upd_n e]; exact c5 s' hs'
  · intro s' f' k hs' hf' hk e1 e2
    rw [z 8 0 (by decide)] at e1
    rw [upr_s] at e2
    rw [z 3 0 (by decide), z 4 0 (by decide)]
    by_cases e : s' = s
    · subst e; rw [upd_s] at e2; exact absurd e2 (by decide)
    · rw [upd_n e] at e2; exact c6 s' f' k hs' hf' hk e1 e2
  · rw [z 4 0 (by decide)]; exact c7
  · obtain ⟨d1, d2, d3, d4, d5, d6, d7, d8, d9⟩ := B
    refine ⟨?_, ?_, ?_, ?_, ?_, ?_, ?_, ?_, ?_⟩
    · intro s' hs'; rw [z 7 0 (by decide), hc]; exact d1 s' hs'
    · intro j k hj hk; rw [z 21 j (by decide)]; rw [gfr_same (X := X) (Z := Z) rfl (z 20 j (by decide))] at hk; exact d2 j k hj hk
    · intro j hj; rw [gfr_same (X := X) (Z := Z) rfl (z 20 j (by decide))]; exact d3 j hj
    · intro s' hs' q; rw [hc] at q; exact d4 s' hs' q
    · intro s' hs' q; rw [z 8 0 (by decide)] at q; rw [hc]; exact d5 s' hs' q
    · rw [z 2 0 (by decide)]; exact d6
    · intro j hj
      obtain ⟨s', q1, q2, q3⟩ := d7 j hj
      exact ⟨s', q1, by rw [z 10 0 (by decide)]; exact q2, by rw [hc]; exact q3⟩
    · rw [z 10 0 (by decide)]; exact d8
    · rw [sumN_congr (fun k _ => by rw [hc])]; exact d9
  · rw [z 21 i (by decide)]; exact e21
  · rw [z 8 0 (by decide)]; exact e8
  · rw [upr_s, upd_s]
  · rw [hc]; exact h1
  · intro j k w _ _ _
    unfold mw
    rw [z 21 j (by decide), hscn]
  · intro c i' q1 _
    exact upr_n (fun q => q1 ⟨q.2, by omega⟩)
  · intro j _
    rw [z 21 i (by decide)]
/-- a fresh sheet, a copy of what the guest had -/
theorem mo_two {X X1 X2 : Sh} {Z Z1 Z2 Z' : ZT} {h o hd g3 g4 fc i fr s f0 f sh k1 n1 k2 n2 : Nat} (H : HA X Z h o hd g3 g4) (B : HB X Z (fc + 1)) (hi : i < 8) (hfr : fr < gfr X Z i) (hs : s < 513) (e21 : Z 21 i fr = nI s) (e8 : Z 8 0 s = nI f0) (hc2 : 2 ≤ cnt X Z s)
    (T : TF X Z h o g3 g4 (nI f0) X1 Z1 f k1 n1) (hf0 : f0 < o) (e10 : Z 10 0 fc = nI sh) (hsh : sh < 513) (S : TS X1 Z1 sh fc g4 X2 Z2 k2 n2)
    (r2 : Z' 2 0 = Z2 2 0) (r3 : Z' 3 0 = va_cpy (Z2 3 0) (Z2 3 0) (64 * f0) (64 * f) 64) (r4 : Z' 4 0 = Z2 4 0) (r5 : Z' 5 0 = upd (Z2 5 0) f (nI sh)) (r7 : Z' 7 0 = upd (upd (Z2 7 0) s (Z2 7 0 s - 1)) sh 1) (r8 : Z' 8 0 = upd (Z2 8 0) sh (nI f)) (r9 : Z' 9 0 = upd (Z2 9 0) sh 1) (r10 : Z' 10 0 = Z2 10 0) (r21 : Z' 21 i = upd (Z2 21 i) fr (nI sh))
    (r : ∀ c i', ¬ (i' = 0 ∧ 2 ≤ c ∧ c ≤ 10) → ¬ (c = 21 ∧ i' = i) → Z' c i' = Z2 c i') :
    MO X Z h g3 g4 i fr X2 Z' f (k1 + k2) (n1 + n2) := by
  have B0 := B
  obtain ⟨d1, d2, d3, d4, d5, d6, d7, d8, d9⟩ := B
  obtain ⟨V1, o1, hd1, g31, rfl, v4, v14, t1, t2, t3, t4, t5, t6, t7, t8, t9, t10, t11, t12⟩ := T
  obtain ⟨g41, y1, y2, y3, y4, y5⟩ := ts_main t4 S
  obtain ⟨V2, g4x, rfl, -, -, -, -, -, -, -, n2b, u1, u2, u3⟩ := S
  -- rows
  have z1 : ∀ c i', ¬ tfR c i' → Z1 c i' = Z c i' := t11
  have z2 : ∀ c i', ¬ ((c = 2 ∨ c = 4) ∧ i' = 0) → Z2 c i' = Z1 c i' := u3
  have z20 : ∀ j, Z' 20 j = Z 20 j := fun j => by rw [r 20 j (by omega) (by omega), z2 20 j (by omega), z1 20 j (by unfold tfR; omega)]
  have z21 : ∀ j, Z2 21 j = Z 21 j := fun j => by rw [z2 21 j (by omega), z1 21 j (by unfold tfR; omega)]
  have z7 : Z2 7 0 = Z 7 0 := by rw [z2 7 0 (by omega), z1 7 0 (by unfold tfR; omega)]
  have z10 : Z' 10 0 = Z 10 0 := by rw [r10, z2 10 0 (by omega), z1 10 0 (by unfold tfR; omega)]
  have z8 : Z2 8 0 = Z1 8 0 := z2 8 0 (by omega)
  have z5 : Z2 5 0 = Z1 5 0 := z2 5 0 (by omega)
  have z9 : Z2 9 0 = Z1 9 0 := z2 9 0 (by omega)
  have hg : ∀ j, gfr (X.1, V2, X.2.2) Z' j = gfr X Z j := fun j => gfr_same rfl (z20 j)
  obtain ⟨s0, q1, q2, hsh0⟩ := d7 fc (by omega)
  have : s0 = sh := nI_inj (by omega) (by omega) (q2.symm.trans e10)
  subst this
  have hsh_ne : s0 ≠ 0 := by
    intro e
    unfold cnt at hsh0
    rw [if_pos e] at hsh0
    omega
  have hss : s0 ≠ s := fun e => by rw [e] at hsh0; omega
  have w8 : Z 8 0 s0 = -1 := Classical.byContradiction fun q => d5 s0 hsh q hsh0
  have w81 : Z1 8 0 s0 = -1 := by
    rcases t9 s0 hsh with q | q
    · exact q
    · rw [q]; exact w8
  have hf0o : f0 < o1 := by omega
  have hff : f ≠ f0 := fun e => t1 (by rw [e])
  have ho31 : o1 ≤ 256 := by obtain ⟨⟨_, q, q', _⟩, _⟩ := t4; omega
  have w80 : Z1 8 0 s = nI f0 := (t8 s hs e8).1
  obtain ⟨m1, m2, m3⟩ := as_main (Z' := Z') (ch := 1) y2 hsh t2 (by rw [z5]; exact t7) (by rw [z8]; exact w81) y4 (Or.inr ⟨rfl, hsh_ne⟩) (fun j _ => by rw [r2]) (fun j hj => by rw [r3]; exact pk_cpy_out (by omega)) (fun q => absurd q (by decide)) r4 r5 r8 r9
  have hcnt : ∀ s', s' < 513 → cnt (X.1, V2, X.2.2) Z' s' + (if s' = s then 1 else 0) = cnt X Z s' + (if s' = s0 then 1 else 0) := by
    intro s' hs'
    have h1 := cnt_chg (X := X) (X' := (X.1, V2, X.2.2)) (Z := Z) (Z' := Z') (s := s') hi hfr (fun j _ => hg j) (fun j k' hj hk' hne => by
      by_cases e : j = i
      · subst e
        rw [r21, upd_n (fun q => hne ⟨rfl, q⟩), z21]
      · rw [r 21 j (by omega) (by omega), z21])
    have h2 : use1 Z i fr s' = if s' = s then 1 else 0 := by
      unfold use1
      rw [e21]
      by_cases e : s' = s
      · rw [if_pos e, e, if_pos rfl]
      · rw [if_neg e, if_neg (fun q => e (nI_inj (by omega) (by omega) q).symm)]
    have h3 : use1 Z' i fr s' = if s' = s0 then 1 else 0 := by
      unfold use1
      rw [r21, upd_s]
      by_cases e : s' = s0
      · rw [if_pos e, e, if_pos rfl]
      · rw [if_neg e, if_neg (fun q => e (nI_inj (by omega) (by omega) q).symm)]
    rw [h2, h3] at h1
    exact h1
  have hc0 : cnt (X.1, V2, X.2.2) Z' s0 = 1 := by
    have := hcnt s0 hsh
    rw [if_neg hss, if_pos rfl] at this
    omega
  have hcs : cnt (X.1, V2, X.2.2) Z' s + 1 = cnt X Z s := by
    have := hcnt s hs
    rw [if_pos rfl, if_neg (Ne.symm hss)] at this
    omega
  have hco : ∀ s', s' < 513 → s' ≠ s → s' ≠ s0 → cnt (X.1, V2, X.2.2) Z' s' = cnt X Z s' := by
    intro s' hs' h1 h2
    have := hcnt s' hs'
    rw [if_neg h1, if_neg h2] at this
    omega
  have hsc : ∀ s' j, s' < 513 → j < 64 → s' ≠ s0 → 64 * (s' + 1) ≤ X.2.1 4 → scn Z' s' j = scn Z s' j := by
    intro s' j hs' hj h1 h2
    rw [m2 s' j hs' hj h1, y5 s' j hs' hj (by rw [show (X.1, V1, X.2.2).2.1 4 = V1 4 from rfl, v4]; exact h2), t10 s' j hs' hj]
  have hla : X.2.1 4 ≤ V2 4 := by
    have : (X.1, V1, X.2.2).2.1 4 ≤ (X.1, V2, X.2.2).2.1 4 := y3
    rw [show (X.1, V1, X.2.2).2.1 4 = V1 4 from rfl, v4] at this
    exact this
  refine ⟨V2, o1, hd1, g31, g41, fc, s0, rfl, m1, ⟨?_, ?_, ?_, ?_, ?_, ?_, ?_, ?_, ?_⟩, t2, hsh, hsh_ne, by rw [r21, upd_s], by rw [r8, upd_s], by rw [r9, upd_s], hc0, by omega, by omega, ?_, ?_, ?_⟩
  · intro s' hs'
    rw [r7, z7]
    by_cases h1 : s' = s0
    · subst h1; rw [upd_s, hc0]; rfl
    · rw [upd_n h1]
      by_cases h2 : s' = s
      · subst h2
        rw [upd_s, d1 s' hs', ← hcs]
        exact nI_pred _
      · rw [upd_n h2, hco s' hs' h2 h1]
        exact d1 s' hs'
  · intro j k hj hk
    rw [hg] at hk
    by_cases e : j = i
    · subst e
      rw [r21, z21]
      by_cases e2 : k = fr
      · subst e2; exact ⟨s0, hsh, upd_s⟩
      · rw [upd_n e2]; exact d2 j k hj hk
    · rw [r 21 j (by omega) (by omega), z21]; exact d2 j k hj hk
  · intro j hj; rw [hg]; exact d3 j hj
  · intro s' hs' hne
    show 64 * (s' + 1) ≤ V2 4
    by_cases h1 : s' = s0
    · subst h1; exact y4
    · have : cnt X Z s' ≠ 0 := by
        by_cases h2 : s' = s
        · subst h2; omega
        · rw [← hco s' hs' h2 h1]; exact hne
      have := d4 s' hs' this
      omega
  · intro s' hs' hne
    by_cases h1 : s' = s0
    · subst h1; exact fun q => absurd (hc0.symm.trans q) (by decide)
    · rw [r8, upd_n h1, z8] at hne
      by_cases h2 : s' = s
      · subst h2; exact fun q => by have h9 : cnt (X.1, V2, X.2.2) Z' s' = 0 := q; omega
      · rw [hco s' hs' h2 h1]
        refine d5 s' hs' fun q => hne ?_
        rcases t9 s' hs' with q' | q'
        · exact q'
        · rw [q']; exact q
  · rw [r2, u1, upd_s]
  · intro j hj
    obtain ⟨s', q1, q2, q3⟩ := d7 j (by omega)
    refine ⟨s', q1, by rw [z10]; exact q2, ?_⟩
    have h1 : s' ≠ s0 := by
      intro e
      have := d8 j fc (by omega) (by omega) (by rw [q2, e10, e])
      omega
    have h2 : s' ≠ s := fun e => by rw [e] at q3; omega
    rw [hco s' q1 h2 h1]
    exact q3
  · intro j j' hj hj' e
    rw [z10] at e
    exact d8 j j' (by omega) (by omega) e
  · have h1 := sumN_chg (n := 513) (k := s0) (f := fun s => if cnt (X.1, V2, X.2.2) Z' s = 0 then 1 else 0) (g := fun s => if cnt X Z s = 0 then 1 else 0) hsh (fun j hj hne => by
      by_cases h2 : j = s
      · subst h2
        rw [if_neg (by omega), if_neg (by omega)]
      · rw [hco j hj h2 hne])
    try dsimp only at h1
    rw [if_pos hsh0, if_neg (by omega), d9] at h1
    show sumN 513 (fun s => if cnt (X.1, V2, X.2.2) Z' s = 0 then 1 else 0) = fc
    omega
  · intro j k w hj hk hw
    unfold mw
    by_cases e : j = i ∧ k = fr
    · obtain ⟨rfl, rfl⟩ := e
      rw [r21, upd_s, e21, nI_clamp (by omega), nI_clamp (by omega), m3, r3, pk_cpy_in (by omega) (by omega), show 64 * f0 + (64 * f + w - 64 * f) = 64 * f0 + w by omega]
      have q := y5 s w hs hw (by rw [show (X.1, V1, X.2.2).2.1 4 = V1 4 from rfl, v4]; exact d4 s hs (by omega))
      rw [scn_mem (f := f0) (by omega) (by rw [z8]; exact w80)] at q
      rw [q, t10 s w hs hw]
    · have e2 : Z' 21 j k = Z 21 j k := by
        by_cases e3 : j = i
        · subst e3
          rw [r21, upd_n (fun q => e ⟨rfl, q⟩), z21]
        · rw [r 21 j (by omega) (by omega), z21]
      obtain ⟨t, ht, et⟩ := d2 j k hj hk
      rw [e2, et, nI_clamp (by omega)]
      have hct := cnt_ge hj hk et
      refine hsc t w ht hw (fun q => ?_) (d4 t ht (by omega))
      rw [q] at hct
      omega
  · intro c i' h1 h2
    rw [r c i' h1 h2, z2 c i' (by omega), z1 c i' (by unfold tfR; omega)]
  · intro j hj
    rw [r21, upd_n hj, z21]
