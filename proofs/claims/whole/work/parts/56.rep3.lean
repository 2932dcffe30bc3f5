theorem fA_lt (w : Int32) : fA w < 8 := by
  unfold fA
  obtain ⟨j, hj, e⟩ := pk_andE (ush w 20) (m := 7) 3 (by decide)
  rw [e, nI_clamp (by omega)]; exact hj
theorem fB_lt (w : Int32) : fB w < 8 := by
  unfold fB
  obtain ⟨j, hj, e⟩ := pk_andE (ush w 17) (m := 7) 3 (by decide)
  rw [e, nI_clamp (by omega)]; exact hj
theorem fD_lt (w : Int32) : fD w < 8 := by
  unfold fD
  obtain ⟨j, hj, e⟩ := pk_andE (ush w 23) (m := 7) 3 (by decide)
  rw [e, nI_clamp (by omega)]; exact hj
theorem GR.A {Z : ZT} {i F : Nat} {g : GS} (H : GR Z i F g) (w : Int32) : Z 23 i (fA w) = g 3 (fA w) := H.2.2.2.1 _ (fA_lt w)
theorem GR.B {Z : ZT} {i F : Nat} {g : GS} (H : GR Z i F g) (w : Int32) : Z 23 i (fB w) = g 3 (fB w) := H.2.2.2.1 _ (fB_lt w)
theorem GR.k {Z : ZT} {i F k : Nat} {g : GS} (H : GR Z i F g) (hk : k < 10) : Z 24 i k = g 4 k := H.2.2.2.2.1 k hk
/-- the oldest word is taken -/
theorem GR_pop {Z : ZT} {i F : Nat} {g : GS} (H : GR Z i F g) (h0 : 0 < Z 20 i 14) : GR (upr Z 20 i (upd (upd (Z 20 i) 13 ((Z 20 i 13 + 1) &&& 63)) 14 (Z 20 i 14 - 1))) i F (gr (gu g 0 14 (g 0 14 - 1)) 6 (fun j => g 6 (j + 1))) ∧ Z 26 i (Z 20 i 13 &&& 63).toNatClampNeg = g 6 0 := by
  obtain ⟨⟨a1, a2, a3, a4, a5, a6, a7⟩, h1, h2, h3, h4, h5, ⟨o, w, ho, hw, e13, e14, hq⟩, h7⟩ := H
  have hw0 : 0 < w := by
    rw [e14] at h0
    exact (nI_ltI (by decide) (by omega)).mp h0
  obtain ⟨w', rfl⟩ : ∃ w', w = w' + 1 := ⟨w - 1, by omega⟩
  refine ⟨⟨?_, ?_, ?_, ?_, ?_, ?_, ?_, ?_⟩, ?_⟩
  · rw [upr_s, gr_o (by decide), gu_s]
    refine ⟨?_, ?_, ?_, ?_, ?_, ?_, ?_⟩
    · rw [upd_n (by decide), upd_n (by decide), upd_n (by decide)]; exact a1
    · rw [upd_n (by decide), upd_n (by decide), upd_n (by decide)]; exact a2
    · rw [upd_n (by decide), upd_n (by decide), upd_n (by decide)]; exact a3
    · rw [upd_n (by decide), upd_n (by decide), upd_n (by decide)]; exact a4
    · rw [upd_n (by decide), upd_n (by decide), upd_n (by decide)]; exact a5
    · rw [upd_s, upd_s, a6]
    · rw [upd_n (by decide), upd_n (by decide), upd_n (by decide)]; exact a7
  · intro a ha; rw [mw_upr (by decide) (by decide), gr_o (by decide), gu_o (by decide)]; exact h1 a ha
  · rw [upr_k (by decide), gr_o (by decide), gu_o (by decide)]; exact h2
  · rw [upr_k (by decide), gr_o (by decide), gu_o (by decide)]; exact h3
  · rw [upr_k (by decide), gr_o (by decide), gu_o (by decide)]; exact h4
  · rw [upr_k (by decide), gr_o (by decide), gu_o (by decide)]; exact h5
  · refine ⟨(o + 1) % 64, w', Nat.mod_lt _ (by decide), by omega, ?_, ?_, fun j hj => ?_⟩
    · rw [upr_s, upd_n (by decide), upd_s, e13, nI_1, and63m (by omega)]
    · rw [upr_s, upd_s, e14, nI_pred]
    · rw [upr_k (by decide), gr_s, ← hq (j + 1) (by omega)]
      congr 1
      omega
  · rw [upr_s, upr_k (by decide), gr_o (by decide), gu_o (by decide), upd_n (by decide), upd_n (by decide)]; exact h7
  · rw [e13, and63m (by omega), nI_clamp (by omega), ← hq 0 (by omega), Nat.add_zero]
theorem putN {p : Int32} (h0 : ¬ p < 0) (h1 : ¬ 1000 ≤ p) : ∃ n, n < 1000 ∧ p = nI n := by
  obtain ⟨n, hn, rfl⟩ := nI_of h0
  refine ⟨n, ?_, rfl⟩
  rcases Nat.lt_or_ge n 1000 with q | q
  · exact q
  · exact absurd (show nI 1000 ≤ nI n from nI_le q hn) h1
/-- a word is put out -/
theorem GR_put {Z : ZT} {i F : Nat} {g : GS} {a : Int32} (H : GR Z i F g) : GR (upr (if Z 20 i 16 < 0 ∨ 1000 ≤ Z 20 i 16 then Z else upr Z 27 i (upd (Z 27 i) (Z 20 i 16).toNatClampNeg a)) 20 i (upd (Z 20 i) 16 (Z 20 i 16 + 1))) i F (putS g a) := by
  obtain ⟨⟨a1, a2, a3, a4, a5, a6, a7⟩, h1, h2, h3, h4, h5, h6, h7⟩ := H
  have z : ∀ c b, c ≠ 27 → (if Z 20 i 16 < 0 ∨ 1000 ≤ Z 20 i 16 then Z else upr Z 27 i (upd (Z 27 i) (Z 20 i 16).toNatClampNeg a)) c b = Z c b := fun c b q => by
    split
    · rfl
    · rw [upr_k q]
  have y : ∀ r, r ≠ 7 → (if g 0 16 < 0 ∨ 1000 ≤ g 0 16 then g else gu g 7 (g 0 16).toNatClampNeg a) r = g r := fun r q => by
    split
    · rfl
    · rw [gu_o q]
  unfold putS
  refine ⟨?_, ?_, ?_, ?_, ?_, ?_, ?_, ?_⟩
  · rw [upr_s, gu_s, y 0 (by decide)]
    refine ⟨?_, ?_, ?_, ?_, ?_, ?_, ?_⟩
    · rw [upd_n (by decide), upd_n (by decide)]; exact a1
    · rw [upd_n (by decide), upd_n (by decide)]; exact a2
    · rw [upd_n (by decide), upd_n (by decide)]; exact a3
    · rw [upd_n (by decide), upd_n (by decide)]; exact a4
    · rw [upd_n (by decide), upd_n (by decide)]; exact a5
    · rw [upd_n (by decide), upd_n (by decide)]; exact a6
    · rw [upd_s, upd_s, a7]
  · intro b hb
    rw [mw_upr (by decide) (by decide), gu_o (by decide), y 1 (by decide), mw_rows (Z := Z) (z 3 0 (by decide)) (z 4 0 (by decide)) (z 8 0 (by decide)) (z 21 i (by decide))]
    exact h1 b hb
  · rw [upr_k (by decide), gu_o (by decide), y 2 (by decide), z 22 i (by decide)]; exact h2
  · rw [upr_k (by decide), gu_o (by decide), y 3 (by decide), z 23 i (by decide)]; exact h3
  · rw [upr_k (by decide), gu_o (by decide), y 4 (by decide), z 24 i (by decide)]; exact h4
  · rw [upr_k (by decide), gu_o (by decide), y 5 (by decide), z 25 i (by decide)]; exact h5
  · rw [upr_s, upr_k (by decide), gu_o (by decide), y 6 (by decide), z 26 i (by decide), upd_n (by decide), upd_n (by decide)]; exact h6
  · intro j hj hlt
    rw [upr_s, upd_s] at hlt
    rw [upr_k (by decide), gu_o (by decide)]
    by_cases c : Z 20 i 16 < 0 ∨ 1000 ≤ Z 20 i 16
    · rw [if_pos c, if_pos (by rw [← a7]; exact c)]
      refine h7 j hj ?_
      rcases c with q | q
      · exfalso
        rw [Int32.lt_iff_toInt_lt] at q hlt
        rw [nI_toInt (by omega), Int32.toInt_add] at hlt
        have e1 : (1 : Int32).toInt = 1 := by decide
        have e0 : (0 : Int32).toInt = 0 := by decide
        have hb := (Z 20 i 16).toInt_lt
        have hb2 := (Z 20 i 16).le_toInt
        rw [e1, Int.bmod_eq_of_le (by omega) (by omega)] at hlt
        omega
      · rw [Int32.le_iff_toInt_le] at q
        rw [Int32.lt_iff_toInt_lt, nI_toInt (by omega)]
        have e1 : (1000 : Int32).toInt = 1000 := by decide
        omega
    · have c0 : ¬ Z 20 i 16 < 0 := fun q => c (Or.inl q)
      have c1 : ¬ 1000 ≤ Z 20 i 16 := fun q => c (Or.inr q)
      obtain ⟨n, hn, en⟩ := putN c0 c1
      rw [if_neg c, if_neg (by rw [← a7]; exact c), upr_s, gu_s, ← a7, en, nI_clamp (by omega)]
      by_cases q : j = n
      · subst q; rw [upd_s, upd_s]
      · rw [upd_n q, upd_n q]
        refine h7 j hj ?_
        rw [en] at hlt ⊢
        rw [nI_1] at hlt
        have := (nI_ltI (by omega) (by omega)).mp hlt
        exact nI_lt (by omega) (by omega)
