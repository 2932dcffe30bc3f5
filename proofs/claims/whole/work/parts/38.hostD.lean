/-- the host is right; its memory and room may grow gp times more -/
def HI (X : Sh) (Z : ZT) (h gp : Nat) : Prop := ∃ o hd g3 g4 fc, HA X Z h o hd g3 g4 ∧ HB X Z fc ∧ g3 + g4 ≤ gp
/-- the host has moved; the guests' words are M' -/
def HM (X : Sh) (Z : ZT) (h gp : Nat) (X' : Sh) (Z' : ZT) (k n : Nat) (M' : Nat → Nat → Nat → Int32) : Prop :=
  ∃ (V : Nat → Nat) (gp' : Nat), X' = (X.1, V, X.2.2) ∧ HI X' Z' h gp' ∧ k + gp' ≤ gp ∧ n ≤ 32832 * k ∧ (∀ j k w, j < 8 → k < gfr X Z j → w < 64 → mw Z' j k w = M' j k w) ∧ (∀ c i', ¬ (i' = 0 ∧ 2 ≤ c ∧ c ≤ 10) → c ≠ 21 → Z' c i' = Z c i')
theorem br_HB {X X' : Sh} {Z Z' : ZT} {h o g3 g4 s f k n fc : Nat} (B : HB X Z fc) (hs : s < 513) (hc : cnt X Z s ≠ 0) (T : BR X Z h o g3 g4 s X' Z' f k n) : HB X' Z' fc := by
  obtain ⟨V, o', hd', g3', rfl, v4, v14, -, -, -, -, -, -, -, r, r2, r8⟩ := T
  obtain ⟨d1, d2, d3, d4, d5, d6, d7, d8, d9⟩ := B
  have z20 : ∀ j, Z' 20 j = Z 20 j := fun j => r 20 j (by unfold tfR; omega)
  have z21 : ∀ j, Z' 21 j = Z 21 j := fun j => r 21 j (by unfold tfR; omega)
  have hg : ∀ j, gfr (X.1, V, X.2.2) Z' j = gfr X Z j := fun j => gfr_same rfl (z20 j)
  have hcn : ∀ s', cnt (X.1, V, X.2.2) Z' s' = cnt X Z s' := fun s' => cnt_same (fun j _ => hg j) (fun j k _ _ => by rw [z21])
  refine ⟨?_, ?_, ?_, ?_, ?_, ?_, ?_, ?_, ?_⟩
  · intro s' hs'; rw [r 7 0 (by unfold tfR; omega), hcn]; exact d1 s' hs'
  · intro j k hj hk; rw [hg] at hk; rw [z21]; exact d2 j k hj hk
  · intro j hj; rw [hg]; exact d3 j hj
  · intro s' hs' q
    rw [hcn] at q
    show 64 * (s' + 1) ≤ V 4
    rw [v4]; exact d4 s' hs' q
  · intro s' hs' q
    rw [hcn]
    rcases r8 s' hs' with q' | q' | q'
    · exact absurd q' q
    · exact d5 s' hs' (by rw [← q']; exact q)
    · rw [q']; exact hc
  · rw [r2 3 (by decide) (by decide)]; exact d6
  · intro j hj
    obtain ⟨s', q1, q2, q3⟩ := d7 j hj
    exact ⟨s', q1, by rw [r 10 0 (by unfold tfR; omega)]; exact q2, by rw [hcn]; exact q3⟩
  · rw [r 10 0 (by unfold tfR; omega)]; exact d8
  · rw [sumN_congr (fun k _ => by rw [hcn])]; exact d9
theorem br_HM {X X' : Sh} {Z Z' : ZT} {h o hd g3 g4 s f k n fc gp : Nat} (B : HB X Z fc) (hs : s < 513) (hc : cnt X Z s ≠ 0) (hgp : g3 + g4 ≤ gp) (T : BR X Z h o g3 g4 s X' Z' f k n) : HM X Z h gp X' Z' k n (mw Z) := by
  have B' := br_HB B hs hc T
  obtain ⟨V, o', hd', g3', rfl, v4, v14, hf, ho, hA, hk, hn, e8, sc, r, r2, r8⟩ := T
  obtain ⟨d1, d2, -⟩ := B
  refine ⟨V, g3' + g4, rfl, ⟨o', hd', g3', g4, fc, hA, B', Nat.le_refl _⟩, by omega, by omega, ?_, ?_⟩
  · intro j k w hj hk hw
    unfold mw
    rw [r 21 j (by unfold tfR; omega)]
    obtain ⟨t, ht, e⟩ := d2 j k hj hk
    rw [e, nI_clamp (by omega)]
    exact sc t w ht hw
  · intro c i' h1 h2
    exact r c i' (by unfold tfR; omega)
theorem mo_HM {X X' : Sh} {Z Z' : ZT} {h g3 g4 i fr f k n gp : Nat} (hgp : g3 + g4 ≤ gp) (T : MO X Z h g3 g4 i fr X' Z' f k n) : HM X Z h gp X' Z' k n (mw Z) := by
  obtain ⟨V, o', hd', g3', g4', fc', s', rfl, hA, hB, -, -, -, -, -, -, -, hk, hn, m, r, r21⟩ := T
  refine ⟨V, g3' + g4', rfl, ⟨o', hd', g3', g4', fc', hA, hB, Nat.le_refl _⟩, by omega, hn, m, fun c i' h1 h2 => r c i' h1 (fun q => h2 q.1)⟩
theorem HM.rfl' {X : Sh} {Z : ZT} {h gp : Nat} (H : HI X Z h gp) : HM X Z h gp X Z 0 0 (mw Z) := ⟨X.2.1, gp, rfl, H, by omega, by omega, fun _ _ _ _ _ _ => rfl, fun _ _ _ _ => rfl⟩
theorem HM.gfr {X X' : Sh} {Z Z' : ZT} {h gp k n : Nat} {M' : Nat → Nat → Nat → Int32} (H : HM X Z h gp X' Z' k n M') (j : Nat) : gfr X' Z' j = gfr X Z j := by
  obtain ⟨V, gp', rfl, -, -, -, -, r⟩ := H
  exact gfr_same rfl (r 20 j (by omega) (by decide))
/-- the row of a frame that is a guest's own is changed -/
theorem mo_put {X X' : Sh} {Z Z' Z2 : ZT} {h g3 g4 i fr f k n gp : Nat} (hi : i < 8) (hfr : fr < gfr X Z i) (hgp : g3 + g4 ≤ gp) (T : MO X Z h g3 g4 i fr X' Z' f k n) {m : Nat → Int32} (hm : ∀ j, ¬ (64 * f ≤ j ∧ j < 64 * f + 64) → m j = Z' 3 0 j) (e2 : Z2 = upr Z' 3 0 m) :
    HM X Z h gp X' Z2 k n (fun j k w => if j = i ∧ k = fr then m (64 * f + w) else mw Z j k w) := by
  obtain ⟨V, o', hd', g3', g4', fc', s', rfl, hA, hB, hf, hs, hs0, e21, e8, e9, hc1, hk, hn, mm, r, r21⟩ := T
  subst e2
  have z : ∀ c i', c ≠ 3 → upr Z' 3 0 m c i' = Z' c i' := fun c i' q => upr_k q
  have hA0 := hA
  obtain ⟨⟨a1, a2, a3, a4⟩, ⟨b1, b2, b3⟩, c1, c2, c3, c4, c5, c6, c7⟩ := hA
  have one : ∀ t f', t < 513 → f' < o' → Z' 8 0 t = nI f' → t ≠ s' → f' ≠ f := by
    intro t f' ht hf' e hne q
    subst q
    apply hne
    rcases c3 t ht with q | ⟨f1, q1, q2, q3, -⟩
    · rw [q] at e; exact absurd e.symm (nI_ne_m1 (by omega))
    · rcases c3 s' hs with p | ⟨f2, p1, p2, p3, -⟩
      · rw [p] at e8; exact absurd e8.symm (nI_ne_m1 (by omega))
      · have h1 := nI_inj (by omega) (by omega) (q2.symm.trans e)
        have h2 := nI_inj (by omega) (by omega) (p2.symm.trans e8)
        subst h1; subst h2
        exact nI_inj (by omega) (by omega) (q3.symm.trans p3)
  have sc : ∀ t w, t < 513 → w < 64 → t ≠ s' → scn (upr Z' 3 0 m) t w = scn Z' t w := by
    intro t w ht hw hne
    rcases c3 t ht with q | ⟨f1, q1, q2, -, -⟩
    · rw [scn_away (by rw [z 8 0 (by decide)]; exact q), scn_away q, z 4 0 (by decide)]
    · have := one t f1 ht q1 q2 hne
      rw [scn_mem (f := f1) (by omega) (by rw [z 8 0 (by decide)]; exact q2), scn_mem (by omega) q2, upr_s, hm _ (by omega)]
  have hg : ∀ j, gfr (X.1, V, X.2.2) Z' j = gfr X Z j := fun j => gfr_same rfl (r 20 j (by omega) (by omega))
  refine ⟨V, g3' + g4', rfl, ⟨o', hd', g3', g4', fc', ⟨⟨a1, a2, a3, a4⟩, ?_, c1, c2, ?_, ?_, ?_, ?_, ?_⟩, ?_, Nat.le_refl _⟩, by omega, hn, ?_, ?_⟩
  · rw [z 2 0 (by decide)]; exact ⟨b1, b2, b3⟩
  · rw [z 8 0 (by decide), z 5 0 (by decide)]; exact c3
  · rw [z 8 0 (by decide), z 5 0 (by decide)]; exact c4
  · rw [z 8 0 (by decide), z 9 0 (by decide)]; exact c5
  · intro t f' w ht hf' hw h8 h9
    rw [z 8 0 (by decide)] at h8
    rw [z 9 0 (by decide)] at h9
    have hne : t ≠ s' := fun q => by rw [q, e9] at h9; exact absurd h9 (by decide)
    have := one t f' ht hf' h8 hne
    rw [upr_s, hm _ (by omega), z 4 0 (by decide)]
    exact c6 t f' w ht hf' hw h8 h9
  · rw [z 4 0 (by decide)]; exact c7
  · obtain ⟨d1, d2, d3, d4, d5, d6, d7, d8, d9⟩ := hB
    have hcn : ∀ s', cnt (X.1, V, X.2.2) (upr Z' 3 0 m) s' = cnt (X.1, V, X.2.2) Z' s' := fun s' => cnt_same (fun j _ => gfr_same rfl (z 20 j (by decide))) (fun j k _ _ => by rw [z 21 j (by decide)])
    have hg2 : ∀ j, gfr (X.1, V, X.2.2) (upr Z' 3 0 m) j = gfr (X.1, V, X.2.2) Z' j := fun j => gfr_same rfl (z 20 j (by decide))
    refine ⟨?_, ?_, ?_, ?_, ?_, ?_, ?_, ?_, ?_⟩
    · intro t ht; rw [z 7 0 (by decide), hcn]; exact d1 t ht
    · intro j k hj hk; rw [z 21 j (by decide)]; rw [hg2] at hk; exact d2 j k hj hk
    · intro j hj; rw [hg2]; exact d3 j hj
    · intro t ht q; rw [hcn] at q; exact d4 t ht q
    · intro t ht q; rw [z 8 0 (by decide)] at q; rw [hcn]; exact d5 t ht q
    · rw [z 2 0 (by decide)]; exact d6
    · intro j hj
      obtain ⟨t, q1, q2, q3⟩ := d7 j hj
      exact ⟨t, q1, by rw [z 10 0 (by decide)]; exact q2, by rw [hcn]; exact q3⟩
    · rw [z 10 0 (by decide)]; exact d8
    · rw [sumN_congr (fun k _ => by rw [hcn])]; exact d9
  · intro j k w hj hk hw
    show mw (upr Z' 3 0 m) j k w = if j = i ∧ k = fr then m (64 * f + w) else mw Z j k w
    by_cases e : j = i ∧ k = fr
    · obtain ⟨rfl, rfl⟩ := e
      rw [if_pos ⟨rfl, rfl⟩]
      unfold mw
      rw [z 21 j (by decide), e21, nI_clamp (by omega), scn_mem (f := f) (by omega) (by rw [z 8 0 (by decide)]; exact e8), upr_s]
    · rw [if_neg e, ← mm j k w hj hk hw]
      unfold mw
      rw [z 21 j (by decide)]
      obtain ⟨-, d2, -⟩ := hB
      obtain ⟨t, ht, et⟩ := d2 j k hj (by rw [hg]; exact hk)
      rw [et, nI_clamp (by omega)]
      refine sc t w ht hw fun q => ?_
      subst q
      have := cnt_two (X := (X.1, V, X.2.2)) (Z := Z') hj (by rw [hg]; exact hk) et hi (by rw [hg]; exact hfr) e21 (fun q => e ⟨q.1, q.2⟩)
      omega
  · intro c i' h1 h2
    rw [upr_n (fun q => h1 ⟨q.2, by omega⟩)]
    exact r c i' h1 (fun q => h2 q.1)
/-- a guest that is there, with F frames -/
def GL (X : Sh) (Z : ZT) (i F : Nat) : Prop := i < 8 ∧ gfr X Z i = F ∧ Z 20 i 6 = nI F ∧ 1 ≤ F ∧ F ≤ 64
theorem hasWv_nI {F a : Nat} (hF : F ≤ 64) (ha : a < 64 * F) : hasWv (nI F) (nI a) = 1 := by
  unfold hasWv
  rw [if_neg (nI_pos (by omega)), if_neg]
  rw [show (64 : Int32) * nI F = nI (64 * F) from pk_mul 64 F]
  exact nI_ge ha (by omega)
theorem hasWv_in {F : Nat} {a : Int32} (hF : F ≤ 64) (h : hasWv (nI F) a ≠ 0) : ∃ n, n < 64 * F ∧ a = nI n := by
  unfold hasWv at h
  by_cases h1 : a < 0
  · rw [if_pos h1] at h; exact absurd rfl h
  · rw [if_neg h1] at h
    by_cases h2 : 64 * nI F ≤ a
    · rw [if_pos h2] at h; exact absurd rfl h
    · obtain ⟨n, hn, rfl⟩ := nI_of h1
      refine ⟨n, ?_, rfl⟩
      rw [show (64 : Int32) * nI F = nI (64 * F) from pk_mul 64 F] at h2
      rcases Nat.lt_or_ge n (64 * F) with q | q
      · exact q
      · exact absurd (nI_le q (by omega)) h2
theorem hasWv_01 (F a : Int32) : hasWv F a = 0 ∨ hasWv F a = 1 := by
  unfold hasWv
  split
  · exact Or.inl rfl
  · split
    · exact Or.inl rfl
    · exact Or.inr rfl
/-- word of a guest's memory, 0 where there is none -/
def rdv (Z : ZT) (i F : Nat) (a : Int32) : Int32 := if hasWv (nI F) a = 0 then 0 else mw Z i (a.toNatClampNeg / 64) (a.toNatClampNeg % 64)
theorem rdv_nI {Z : ZT} {i F a : Nat} (hF : F ≤ 64) (ha : a < 64 * F) : rdv Z i F (nI a) = mw Z i (a / 64) (a % 64) := by
  unfold rdv
  rw [hasWv_nI hF ha, if_neg (by decide), nI_clamp (by omega)]
theorem mo_row {X X' : Sh} {Z Z' : ZT} {h g3 g4 i fr f k n w : Nat} (hi : i < 8) (hfr : fr < gfr X Z i) (hw : w < 64) (T : MO X Z h g3 g4 i fr X' Z' f k n) : Z' 3 0 (64 * f + w) = mw Z i fr w := by
  obtain ⟨V, o', hd', g3', g4', fc', s', rfl, ⟨⟨_, a2, a3, _⟩, _⟩, -, hf, hs, -, e21, e8, -, -, -, -, mm, -⟩ := T
  rw [← mm i fr w hi hfr hw]
  unfold mw
  rw [e21, nI_clamp (by omega), scn_mem (f := f) (by omega) e8]
