theorem GR_ari {Z : ZT} {i F : Nat} {g : GS} {a : Int32} (H : GR Z i F g) (h : Z 20 i 14 < 64) : GR (upr (upr Z 26 i (upd (Z 26 i) ((Z 20 i 13 + Z 20 i 14) &&& 63).toNatClampNeg a)) 20 i (upd (Z 20 i) 14 (Z 20 i 14 + 1))) i F (ariS g a) := by
  obtain ⟨⟨a1, a2, a3, a4, a5, a6, a7⟩, h1, h2, h3, h4, h5, ⟨o, w, ho, hw, e13, e14, hr⟩, h7⟩ := H
  have hw' : w < 64 := by
    rw [e14] at h
    exact Nat.not_le.mp (fun q => Int32.not_lt.mpr (show nI 64 ≤ nI w from nI_le q (by omega)) h)
  have ix : ((Z 20 i 13 + Z 20 i 14) &&& 63).toNatClampNeg = (o + w) % 64 := by
    rw [e13, e14, nI_add, and63m (by omega)]
    exact nI_clamp (by omega)
  have g14 : (g 0 14).toNatClampNeg = w := by rw [← a6, e14, nI_clamp (by omega)]
  rw [ix]
  unfold ariS
  rw [g14]
  refine ⟨?_, ?_, ?_, ?_, ?_, ?_, ?_, ?_⟩
  · rw [upr_s, gu_s, gu_o (by decide)]
    exact ⟨a1, a2, a3, a4, a5, by rw [upd_s, upd_s, a6], a7⟩
  · intro b hb; rw [mw_upr (by decide) (by decide), mw_upr (by decide) (by decide), gu_o (by decide), gu_o (by decide)]; exact h1 b hb
  · rw [upr_k (by decide), upr_k (by decide), gu_o (by decide), gu_o (by decide)]; exact h2
  · rw [upr_k (by decide), upr_k (by decide), gu_o (by decide), gu_o (by decide)]; exact h3
  · rw [upr_k (by decide), upr_k (by decide), gu_o (by decide), gu_o (by decide)]; exact h4
  · rw [upr_k (by decide), upr_k (by decide), gu_o (by decide), gu_o (by decide)]; exact h5
  · refine ⟨o, w + 1, ho, by omega, ?_, ?_, fun j hj => ?_⟩
    · rw [upr_s, upd_n (by decide)]; exact e13
    · rw [upr_s, upd_s, e14, nI_1]
    · rw [upr_k (by decide), upr_s, gu_o (by decide), gu_s]
      by_cases e : j = w
      · subst e; rw [upd_s, upd_s]
      · rw [upd_n (by omega), upd_n e]; exact hr j (by omega)
  · intro j hj q
    rw [upr_s, upd_n (by decide)] at q
    rw [upr_k (by decide), upr_k (by decide), gu_o (by decide), gu_o (by decide)]
    exact h7 j hj q
theorem GR_start {Z : ZT} {i F : Nat} {g : GS} {pc : Int32} (H : GR Z i F g) (e6 : Z 20 i 6 = nI F) : GR (upr (zReset Z i) 20 i (upd (upd (upd (zReset Z i 20 i) 2 pc) 3 1) 1 1)) i F (resG g F pc) := by
  obtain ⟨⟨a1, a2, a3, a4, a5, a6, a7⟩, h1, h2, h3, h4, h5, ⟨o, w, ho, hw, e13, e14, hr⟩, h7⟩ := H
  have z20 : zReset Z i 20 i = upd (upd (upd (upd (Z 20 i) 2 0) 3 0) 4 0) 5 0 := by unfold zReset; rw [upr_k (by decide), upr_s]
  have zo : ∀ c b, c ≠ 20 → c ≠ 23 → c ≠ 24 → c ≠ 25 → zReset Z i c b = Z c b := fun c b q1 q2 q3 q4 => by unfold zReset; rw [upr_k q4, upr_k q1, upr_k q3, upr_k q2]
  unfold resG
  refine ⟨?_, ?_, ?_, ?_, ?_, ?_, ?_, ?_⟩
  · rw [upr_s, gr_s, z20]
    exact ⟨rfl, rfl, rfl, rfl, rfl, a6, a7⟩
  · intro b hb
    rw [mw_upr (by decide) (by decide), mw_rows (Z := Z) (zo 3 0 (by decide) (by decide) (by decide) (by decide)) (zo 4 0 (by decide) (by decide) (by decide) (by decide)) (zo 8 0 (by decide) (by decide) (by decide) (by decide)) (zo 21 i (by decide) (by decide) (by decide) (by decide)), gr_o (by decide), gr_o (by decide), gr_o (by decide), gr_o (by decide)]
    exact h1 b hb
  · rw [upr_k (by decide), zo 22 i (by decide) (by decide) (by decide) (by decide), gr_o (by decide), gr_o (by decide), gr_o (by decide), gr_o (by decide)]; exact h2
  · intro k hk
    rw [upr_k (by decide), gr_o (by decide), gr_o (by decide), gr_o (by decide), gr_s]
    unfold zReset
    rw [upr_k (by decide), upr_k (by decide), upr_k (by decide), upr_s]
    show (if k < 8 then (0 : Int32) else _) = 0
    rw [if_pos hk]
  · intro k hk
    rw [upr_k (by decide), gr_o (by decide), gr_o (by decide), gr_s]
    unfold zReset
    rw [upr_k (by decide), upr_k (by decide), upr_s]
    by_cases e : k = 9
    · subst e; rw [upd_s, if_pos rfl]; exact e6
    · rw [upd_n e, if_neg e]
      show (if k < 10 then (0 : Int32) else _) = 0
      rw [if_pos hk]
  · intro k hk
    rw [upr_k (by decide), gr_o (by decide), gr_s]
    unfold zReset
    rw [upr_s]
    show (if k < 256 then (-1 : Int32) else _) = -1
    rw [if_pos hk]
  · refine ⟨o, w, ho, hw, ?_, ?_, fun j hj => ?_⟩
    · rw [upr_s, z20]; exact e13
    · rw [upr_s, z20]; exact e14
    · rw [upr_k (by decide), zo 26 i (by decide) (by decide) (by decide) (by decide), gr_o (by decide), gr_o (by decide), gr_o (by decide), gr_o (by decide)]; exact hr j hj
  · intro j hj q
    rw [upr_s, z20] at q
    rw [upr_k (by decide), zo 27 i (by decide) (by decide) (by decide) (by decide), gr_o (by decide), gr_o (by decide), gr_o (by decide), gr_o (by decide)]
    exact h7 j hj q
theorem SFp_reset {X : Sh} {Z : ZT} {h i gp : Nat} (H : HI X Z h gp) : SFp X Z h i gp X (zReset Z i) 0 0 gp := by
  unfold zReset
  have s1 := SFp.ofU (i := i) (c := 23) (b := i) (f := fillR 8 0 (Z 23 i)) H (Or.inl ⟨rfl, by decide, by decide⟩)
  have s2 := SFp.trans s1 (SFp.ofU (i := i) (c := 24) (b := i) (f := upd (fillR 10 0 (Z 24 i)) 9 (Z 20 i 6)) s1.hI (Or.inl ⟨rfl, by decide, by decide⟩))
  have s3 := SFp.trans s2 (SFp.ofU (i := i) (c := 20) (b := i) (f := upd (upd (upd (upd (Z 20 i) 2 0) 3 0) 4 0) 5 0) s2.hI (Or.inr (Or.inr ⟨rfl, rfl, by rw [upr_k (by decide), upr_k (by decide)]; rfl, by rw [upr_k (by decide), upr_k (by decide)]; rfl⟩)))
  exact SFp.trans s3 (SFp.ofU (i := i) (c := 25) (b := i) (f := fillR 256 (-1) (Z 25 i)) s3.hI (Or.inl ⟨rfl, by decide, by decide⟩))
theorem tell_g {Z : ZT} {i F : Nat} {g : GS} {a : Int32} (H : GR Z i F g) : tellv Z i a = telG g a := by
  obtain ⟨⟨a1, a2, a3, a4, a5, a6, a7⟩, h1, h2, h3, h4, h5, h6, h7⟩ := H
  unfold tellv telG
  by_cases c : ¬ a < 0 ∧ ¬ 8 ≤ a
  · rw [if_pos c, if_pos ⟨c.1, Int32.not_le.mp c.2⟩]
    obtain ⟨n, hn, rfl⟩ := nI_of c.1
    rw [nI_clamp hn]
    exact h3 n (Nat.not_le.mp (fun q => c.2 (show nI 8 ≤ nI n from nI_le q hn)))
  · have c' : ¬ (¬ a < 0 ∧ a < 8) := fun q => c ⟨q.1, Int32.not_le.mpr q.2⟩
    rw [if_neg c, if_neg c']
    by_cases d : ¬ a < 10 ∧ ¬ 20 ≤ a
    · rw [if_pos d, if_pos ⟨d.1, Int32.not_le.mp d.2⟩]
      have hv := tell_ix d.1 d.2
      exact h4 _ (Nat.not_le.mp (fun q => hv (Or.inr q)))
    · have d' : ¬ (¬ a < 10 ∧ a < 20) := fun q => d ⟨q.1, Int32.not_le.mpr q.2⟩
      rw [if_neg d, if_neg d', a2, a3, a4, a5, a6, a7]
theorem fnd_0 {S : HS} {j : Nat} (hj : j < 8) (h : fnd S (nI j) = false) : S.1 j = 0 := Classical.not_not.mp (fun q => by rw [fnd_y hj q] at h; cases h)
