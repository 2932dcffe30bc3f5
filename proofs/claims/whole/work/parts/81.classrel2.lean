/-- guest i comes -/
theorem CR_come {X : Sh} {Z Z' : ZT} {S : HS} {h gp i F : Nat} {g : GS} (H : CR X Z S h gp) (hS : HOK S) (hi : i < 8) (h0 : S.1 i = 0) (hm : X.2.2.1 i = true) (hF1 : 1 ≤ F) (hF : F ≤ 64) (e0 : Z' 20 i 0 = 1) (e6 : Z' 20 i 6 = nI F)
    (hs : ∀ k, k < F → ∃ s, s < 513 ∧ Z' 21 i k = nI s ∧ cnt X Z s ≠ 0) (r7 : ∀ s, s < 513 → Z' 7 0 s = Z 7 0 s + nI (sumN F (fun k => use1 Z' i k s))) (r : ∀ c j, ¬ (c = 7 ∧ j = 0) → ¬ (j = i ∧ 20 ≤ c ∧ c ≤ 27) → Z' c j = Z c j)
    (hR : GR Z' i F g) : CR X Z' (upn S.1 i F, upm S.2.1 i g, S.2.2) h gp := by
  have hgf := fun j hj => H.gf hS (i := j) hj
  have gi0 := H.g0 hi h0
  obtain ⟨⟨o, hd, g3, g4, fc, hA, hB, hg⟩, b, c⟩ := H
  have gi : gfr X Z' i = F := by
    unfold gfr
    rw [if_pos ⟨hm, by rw [e0]; decide⟩, e6, nI_clamp (by omega)]
  have gj : ∀ j, j ≠ i → gfr X Z' j = gfr X Z j := fun j hj => by
    unfold gfr
    rw [r 20 j (by omega) (by omega)]
  refine ⟨⟨o, hd, g3, g4, fc, ?_, ?_, hg⟩, ?_, fun j hj => ?_⟩
  · exact hA.rows (fun j _ => by rw [r 2 0 (by omega) (by omega)]) (r 3 0 (by omega) (by omega)) (r 4 0 (by omega) (by omega)) (r 5 0 (by omega) (by omega)) (r 8 0 (by omega) (by omega)) (r 9 0 (by omega) (by omega))
  · refine HB_inc (a := fun s => sumN F (fun k => use1 Z' i k s)) hB (fun s hs => ?_) (fun s hs' q => ?_) r7 (r 8 0 (by omega) (by omega)) (r 10 0 (by omega) (by omega)) (r 2 0 (by omega) (by omega)) rfl (fun j k hj hk => ?_) (fun j hj => ?_)
    · have e := cnt_add (X := X) (X' := X) (Z := Z) (Z' := Z') (s := s) hi gi0 (fun j _ hne => gj j hne) (fun j k _ hne _ => by rw [r 21 j (by omega) (by omega)])
      rw [gi] at e
      exact e
    · obtain ⟨k, hk, hu⟩ := sumN_pos q
      unfold use1 at hu
      obtain ⟨s', q1, q2, q3⟩ := hs k hk
      have e : Z' 21 i k = nI s := Classical.not_not.mp (fun w => hu (if_neg w))
      have : s = s' := nI_inj (by omega) (by omega) (e.symm.trans q2)
      rw [this]; exact q3
    · by_cases e : j = i
      · subst e
        rw [gi] at hk
        obtain ⟨s', q1, q2, -⟩ := hs k hk
        exact ⟨s', q1, q2⟩
      · rw [gj j e] at hk; rw [r 21 j (by omega) (by omega)]; exact hB.2.1 j k hj hk
    · by_cases e : j = i
      · subst e; rw [gi]; exact hF
      · rw [gj j e]; exact hB.2.2.1 j hj
  · rw [r 0 0 (by omega) (by omega)]; exact b
  · show (upn S.1 i F j = 0 → ¬ (X.2.2.1 j = true ∧ Z' 20 j 0 ≠ 0)) ∧ (upn S.1 i F j ≠ 0 → X.2.2.1 j = true ∧ Z' 20 j 0 = 1 ∧ Z' 20 j 6 = nI (upn S.1 i F j) ∧ GR Z' j (upn S.1 i F j) (upm S.2.1 i g j))
    by_cases e : j = i
    · subst e
      rw [upn_s, upm_s]
      exact ⟨fun q => absurd q (by omega), fun _ => ⟨hm, e0, e6, hR⟩⟩
    · rw [upn_n e, upm_n e, r 20 j (by omega) (by omega)]
      exact ⟨(c j hj).1, fun q => ⟨((c j hj).2 q).1, ((c j hj).2 q).2.1, ((c j hj).2 q).2.2.1, GR_rows (fun c _ _ _ => r c j (by omega) (by omega)) (fun k w hk hw => mw_rows (r 3 0 (by omega) (by omega)) (r 4 0 (by omega) (by omega)) (r 8 0 (by omega) (by omega)) (r 21 j (by omega) (by omega))) ((c j hj).2 q).2.2.2⟩⟩
/-- what a host needs to be set anew -/
def RNp (X : Sh) (Z : ZT) (gp : Nat) : Prop := ∃ g3 g4, g3 + g4 ≤ gp ∧ (256 ≤ X.2.1 3 ∧ X.2.1 3 < 32768 ∧ 16384 ≤ X.2.1 3 * 2 ^ g3) ∧ (256 ≤ X.2.1 4 ∧ X.2.1 4 ≤ 32832 ∧ 32832 ≤ X.2.1 4 * 2 ^ g4) ∧ ∀ k, k < 64 → Z 4 0 k = 0
theorem HI.rnp {X : Sh} {Z : ZT} {h gp : Nat} (H : HI X Z h gp) : RNp X Z gp := by
  obtain ⟨o, hd, g3, g4, fc, ⟨-, -, c1, c2, -, -, -, -, c7⟩, -, hg⟩ := H
  exact ⟨g3, g4, hg, c1.2, c2, c7⟩
theorem CR_renew {X : Sh} {Z Z1 Z' : ZT} {m : Nat → GS} {n : Nat → Int32} {gp hn : Nat} (H : RNp X Z gp) (hh : 4 ≤ hn ∧ hn ≤ 256) (T : RNs Z (nI hn) Z1) (r : ∀ c, 1 ≤ c → c ≤ 12 → Z' c 0 = Z1 c 0) (hf : ∀ j, j < 8 → X.2.2.1 j = true → Z' 20 j 0 = 0)
    (hN : Z' 0 0 3 = n 0 ∧ Z' 0 0 4 = n 1 ∧ Z' 0 0 5 = n 2 ∧ Z' 0 0 6 = n 3) : CR X Z' (fun _ => 0, m, n) hn gp := by
  obtain ⟨g3, g4, hg, c1, c2, c7⟩ := H
  obtain ⟨a0, a1, a2, a3, a5, a7, a7', a8, a9, a10, aR⟩ := T
  have gf : ∀ j, j < 8 → gfr X Z' j = 0 := fun j hj => by
    unfold gfr
    rw [if_neg (fun q => q.2 (hf j hj q.1))]
  have hc : ∀ s, cnt X Z' s = if s = 0 then 1 else 0 := fun s => by
    unfold cnt
    rw [sumN_zero (n := 8) (fun j hj => by rw [gf j hj]; rfl), Nat.add_zero]
  refine ⟨⟨0, 0, g3, g4, 512, ⟨⟨hh.1, hh.2, by omega, by omega⟩, ?_, ⟨by omega, c1⟩, c2, ?_, ?_, ?_, ?_, ?_⟩, ?_, hg⟩, hN, fun j hj => ⟨fun _ q => q.2 (hf j hj q.1), fun q => absurd rfl q⟩⟩
  · rw [r 2 (by decide) (by decide)]; exact ⟨a0, a1, a2⟩
  · rw [r 8 (by decide) (by decide)]; exact fun s hs => Or.inl (a8 s hs)
  · rw [r 5 (by decide) (by decide)]; exact fun f hf => Or.inl (a5 f hf)
  · rw [r 9 (by decide) (by decide)]; exact fun s hs => Or.inl (a9 s hs)
  · intro s f k _ q; omega
  · intro k hk; rw [r 4 (by decide) (by decide), aR 4 0 (by omega)]; exact c7 k hk
  · refine ⟨fun s hs => ?_, fun j k hj hk => ?_, fun j hj => ?_, fun s hs q => ?_, fun s hs q => ?_, ?_, fun j hj => ⟨512 - j, by omega, ?_, ?_⟩, fun j j' hj hj' q => ?_, ?_⟩
    · rw [r 7 (by decide) (by decide), hc]
      by_cases e : s = 0
      · subst e; rw [if_pos rfl]; exact a7
      · rw [if_neg e]; exact a7' s (by omega) hs
    · rw [gf j hj] at hk; omega
    · rw [gf j hj]; omega
    · rw [hc] at q
      have : s = 0 := Classical.not_not.mp (fun w => q (if_neg w))
      subst this; omega
    · rw [r 8 (by decide) (by decide)] at q; exact absurd (a8 s hs) q
    · rw [r 2 (by decide) (by decide)]; exact a3
    · rw [r 10 (by decide) (by decide)]; exact a10 j hj
    · rw [hc, if_neg (by omega)]
    · rw [r 10 (by decide) (by decide), a10 j hj, a10 j' hj'] at q
      have := nI_inj (by omega) (by omega) q
      omega
    · rw [show (fun s => if cnt X Z' s = 0 then 1 else 0) = (fun s => if s = 0 then 0 else 1) from funext fun s => by rw [hc]; by_cases e : s = 0 <;> simp [e]]
      have := sumN_add (n := 513) (f := fun s => if s = 0 then 0 else 1) (g := fun s => if s = 0 then 1 else 0)
      rw [sumN_one (by decide), show (fun k => (if k = 0 then 0 else 1) + (if k = 0 then 1 else 0)) = (fun _ => 1) from funext fun k => by by_cases e : k = 0 <;> simp [e], sumN_const] at this
      omega
theorem sumN_all {n a : Nat} {f : Nat → Nat} (h : ∀ k, k < n → f k = a) : sumN n f = n * a := by rw [sumN_congr (g := fun _ => a) h, sumN_const]
/-- a blank guest -/
theorem CR_lend {X : Sh} {Z : ZT} {S : HS} {h gp i F : Nat} (H : CR X Z S h gp) (hS : HOK S) (hi : i < 8) (h0 : S.1 i = 0) (hm : X.2.2.1 i = true) (hF1 : 1 ≤ F) (hF : F ≤ 64) :
    CR X (lbZ (zRenew Z i (nI F)) i F) (upn S.1 i F, upm S.2.1 i (newG F), S.2.2) h gp := by
  have zr : ∀ c j, ¬ (j = i ∧ 20 ≤ c ∧ c ≤ 27) → zRenew Z i (nI F) c j = Z c j := fun c j q => by
    unfold zRenew zRen2 zRen1 zReset zRen0
    rw [upr_n (by omega), upr_n (by omega), upr_n (by omega), upr_n (by omega), upr_n (by omega), upr_n (by omega), upr_n (by omega)]
  have lb : ∀ c j, ¬ (c = 7 ∧ j = 0) → ¬ (c = 21 ∧ j = i) → lbZ (zRenew Z i (nI F)) i F c j = zRenew Z i (nI F) c j := fun c j q1 q2 => by
    unfold lbZ
    rw [upr_n q1, upr_n q2]
  have l21 : lbZ (zRenew Z i (nI F)) i F 21 i = (fun k => if k < F then 0 else zRenew Z i (nI F) 21 i k) := by
    unfold lbZ
    rw [upr_k (by decide), upr_s]
  have m21 : ∀ k, k < F → lbZ (zRenew Z i (nI F)) i F 21 i k = 0 := fun k hk => by rw [l21]; exact if_pos hk
  have l7 : lbZ (zRenew Z i (nI F)) i F 7 0 = upd (Z 7 0) 0 (Z 7 0 0 + nI F) := by
    unfold lbZ
    rw [upr_s, zr 7 0 (by omega)]
  have l20 : lbZ (zRenew Z i (nI F)) i F 20 i = upd (upd (upd (upd (upd (upd (upd (upd (upd (upd (Z 20 i) 0 1) 1 0) 6 (nI F)) 2 0) 3 0) 4 0) 5 0) 13 0) 14 0) 16 0 := by
    rw [lb 20 i (by omega) (by omega)]
    unfold zRenew zRen2 zRen1 zReset zRen0
    simp only [upr_s, upr_k (show (20 : Nat) ≠ 22 by decide), upr_k (show (20 : Nat) ≠ 25 by decide), upr_k (show (20 : Nat) ≠ 24 by decide), upr_k (show (20 : Nat) ≠ 23 by decide)]
  have s0 : cnt X Z 0 ≠ 0 := by unfold cnt; rw [if_pos rfl]; omega
  have hmw : ∀ k w, k < F → w < 64 → mw (lbZ (zRenew Z i (nI F)) i F) i k w = 0 := fun k w hk hw => by
    unfold mw
    rw [m21 k hk, scn_rows (Z := Z) (by rw [lb 3 0 (by omega) (by omega), zr 3 0 (by omega)]) (by rw [lb 4 0 (by omega) (by omega), zr 4 0 (by omega)]) (by rw [lb 8 0 (by omega) (by omega), zr 8 0 (by omega)])]
    obtain ⟨o, hd, g3, g4, fc, hA, -, -⟩ := H.1
    exact hA.blank hw
  refine CR_come H hS hi h0 hm hF1 hF ?_ ?_ (fun k hk => ⟨0, by decide, by rw [m21 k hk]; rfl, s0⟩) (fun s hs => ?_) (fun c j q1 q2 => ?_) ?_
  · rw [l20]; rfl
  · rw [l20]; rfl
  · rw [l7]
    by_cases e : s = 0
    · subst e
      rw [upd_s, sumN_all (a := 1) (fun k hk => by unfold use1; rw [m21 k hk]; exact if_pos rfl), Nat.mul_one]
    · rw [upd_n e, sumN_zero (fun k hk => by unfold use1; rw [m21 k hk]; exact if_neg (fun q => e (nI_inj (a := s) (b := 0) (by omega) (by decide) q.symm)))]
      exact (Int32.add_zero _).symm
  · rw [lb c j q1 (by omega), zr c j q2]
  · refine ⟨?_, ?_, ?_, ?_, ?_, ?_, ?_, ?_⟩
    · rw [l20]; exact ⟨rfl, rfl, rfl, rfl, rfl, rfl, rfl⟩
    · intro a ha; rw [hmw _ _ (by omega) (by omega)]; rfl
    · intro k hk
      rw [lb 22 i (by omega) (by omega)]
      unfold zRenew zRen2 zRen1
      rw [upr_k (by decide), upr_s]
      show (if k < 1024 then (0 : Int32) else _) = 0
      rw [if_pos hk]
    · intro k hk
      rw [lb 23 i (by omega) (by omega)]
      unfold zRenew zRen2 zRen1 zReset
      rw [upr_k (by decide), upr_k (by decide), upr_k (by decide), upr_k (by decide), upr_k (by decide), upr_s]
      show (if k < 8 then (0 : Int32) else _) = 0
      rw [if_pos hk]
    · intro k hk
      rw [lb 24 i (by omega) (by omega)]
      unfold zRenew zRen2 zRen1 zReset zRen0
      rw [upr_k (by decide), upr_k (by decide), upr_k (by decide), upr_k (by decide), upr_s]
      by_cases e : k = 9
      · subst e
        rw [upd_s, upr_s]; rfl
      · rw [upd_n e]
        show (if k < 10 then (0 : Int32) else _) = (if (4 : Nat) = 5 then (-1 : Int32) else if 4 = 4 ∧ k = 9 then nI F else 0)
        rw [if_pos hk, if_neg (by decide), if_neg (fun q => e q.2)]
    · intro k hk
      rw [lb 25 i (by omega) (by omega)]
      unfold zRenew zRen2 zRen1 zReset
      rw [upr_k (by decide), upr_k (by decide), upr_s]
      show (if k < 256 then (-1 : Int32) else _) = -1
      rw [if_pos hk]
    · refine ⟨0, 0, by decide, by decide, ?_, ?_, fun j hj => by omega⟩
      · rw [l20]; rfl
      · rw [l20]; rfl
    · intro j hj q
      rw [l20] at q
      exact absurd (show nI j < 0 from q) (nI_pos (by omega))
/-- a twin: guest j shows what guest i shows -/
theorem CR_twin {X : Sh} {Z Z1 : ZT} {S : HS} {h gp i j F : Nat} {r : Nat → Int32} (H : CR X Z S h gp) (hS : HOK S) (hi : i < 8) (hj : j < 8) (hn0 : S.1 i ≠ 0) (h0 : S.1 j = 0) (hm : X.2.2.1 j = true) (hF : F = S.1 i)
    (z : ∀ c b, ¬ (b = j ∧ 20 ≤ c ∧ c ≤ 27) → Z1 c b = Z c b) (z20 : Z1 20 j 0 = 1 ∧ ∀ k, (1 ≤ k ∧ k ≤ 6) ∨ k = 13 ∨ k = 14 ∨ k = 16 → Z1 20 j k = Z 20 i k) (z22 : ∀ k, k < 1024 → Z1 22 j k = Z 22 i k) (z23 : ∀ k, k < 8 → Z1 23 j k = Z 23 i k) (z24 : ∀ k, k < 10 → Z1 24 j k = Z 24 i k) (z25 : ∀ k, k < 256 → Z1 25 j k = Z 25 i k) (z26 : ∀ k, k < 64 → Z1 26 j k = Z 26 i k) (z27 : ∀ k, k < 1000 → Z1 27 j k = Z 27 i k)
    (hr : ∀ s, s < 513 → r s = Z1 7 0 s + nI (sumN F (fun k => use1 Z1 i k s))) : CR X (ssZ Z1 i j F r) (upn S.1 j F, upm S.2.1 j (S.2.1 i), S.2.2) h gp := by
  have hij : i ≠ j := fun q => by subst q; exact hn0 h0
  have hL := H.gl hS hi hn0
  obtain ⟨a1, a2, a3, a4⟩ := (H.2.2 i hi).2 hn0
  obtain ⟨g0, g1, g2, g3, g4, g5, ⟨o, w, g6a, g6b, g6c, g6d, g6e⟩, g7⟩ := a4
  have y21 : ∀ k, k < F → ssZ Z1 i j F r 21 j k = Z 21 i k := fun k hk => by rw [ssZ_21]; show (if k < F then Z1 21 i k else _) = _; rw [if_pos hk, z 21 i (by omega)]
  have yo : ∀ c b, ¬ (c = 7 ∧ b = 0) → ¬ (b = j ∧ 20 ≤ c ∧ c ≤ 27) → ssZ Z1 i j F r c b = Z c b := fun c b q1 q2 => by rw [ssZ_o q1 (by omega), z c b q2]
  have yj : ∀ c, c ≠ 21 → c ≠ 7 → ssZ Z1 i j F r c j = Z1 c j := fun c q1 q2 => ssZ_o (by omega) (by omega)
  have hmw : ∀ k w, k < F → w < 64 → mw (ssZ Z1 i j F r) j k w = mw Z i k w := fun k w hk _ => by
    unfold mw
    rw [y21 k hk, scn_rows (Z := Z) (yo 3 0 (by omega) (by omega)) (yo 4 0 (by omega) (by omega)) (yo 8 0 (by omega) (by omega))]
  subst hF
  refine CR_come H hS hj h0 hm hL.2.2.2.1 hL.2.2.2.2 ?_ ?_ (fun k hk => ?_) (fun s hs => ?_) yo ?_
  · rw [yj 20 (by decide) (by decide)]; exact z20.1
  · rw [yj 20 (by decide) (by decide), z20.2 6 (by decide)]; exact a3
  · obtain ⟨o', hd, g3', g4', fc, hA, hB, -⟩ := H.1
    obtain ⟨s, q1, q2⟩ := hB.2.1 i k hi (by rw [hL.2.1]; exact hk)
    refine ⟨s, q1, by rw [y21 k hk]; exact q2, ?_⟩
    have := cnt_ge (X := X) (Z := Z) (s := s) hi (by rw [hL.2.1]; exact hk) q2
    omega
  · rw [ssZ_7, hr s hs, z 7 0 (by omega)]
    congr 2
    refine sumN_congr fun k hk => ?_
    unfold use1
    rw [y21 k hk, z 21 i (by omega)]
  · refine ⟨?_, ?_, ?_, ?_, ?_, ?_, ?_, ?_⟩
    · rw [yj 20 (by decide) (by decide), z20.2 1 (by decide), z20.2 2 (by decide), z20.2 3 (by decide), z20.2 4 (by decide), z20.2 5 (by decide), z20.2 14 (by decide), z20.2 16 (by decide)]
      exact g0
    · intro a ha; rw [hmw _ _ (by omega) (by omega)]; exact g1 a ha
    · intro k hk; rw [yj 22 (by decide) (by decide), z22 k hk]; exact g2 k hk
    · intro k hk; rw [yj 23 (by decide) (by decide), z23 k hk]; exact g3 k hk
    · intro k hk; rw [yj 24 (by decide) (by decide), z24 k hk]; exact g4 k hk
    · intro k hk; rw [yj 25 (by decide) (by decide), z25 k hk]; exact g5 k hk
    · refine ⟨o, w, g6a, g6b, ?_, ?_, fun b hb => ?_⟩
      · rw [yj 20 (by decide) (by decide), z20.2 13 (by decide)]; exact g6c
      · rw [yj 20 (by decide) (by decide), z20.2 14 (by decide)]; exact g6d
      · rw [yj 26 (by decide) (by decide), z26 _ (by omega)]; exact g6e b hb
    · intro b hb q
      rw [yj 20 (by decide) (by decide), z20.2 16 (by decide)] at q
      rw [yj 27 (by decide) (by decide), z27 b hb]
      exact g7 b hb q
