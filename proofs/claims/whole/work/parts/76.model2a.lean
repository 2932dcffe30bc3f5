theorem tel_neg {g : GS} {w : Int32} (h : w < 0) : telG g w = 0 := by
  have n : ∀ k : Int32, ¬ k < 0 → ¬ w = k := fun k hk e => hk (e ▸ h)
  unfold telG
  rw [if_neg (fun q => q.1 h), if_neg (fun q => q.1 (Int32.lt_trans h (by decide))), if_neg (n 8 (by decide)), if_neg (n 9 (by decide)), if_neg (n 20 (by decide)), if_neg (n 21 (by decide)), if_neg (n 22 (by decide)), if_neg (n 23 (by decide))]
theorem tel_big {g : GS} {w : Int32} (h : ¬ w ≤ 23) : telG g w = 0 := by
  have n : ∀ k : Int32, k ≤ 23 → ¬ w = k := fun k hk e => h (e ▸ hk)
  have l : 23 < w := Int32.not_le.mp h
  unfold telG
  rw [if_neg (fun q => absurd (Int32.lt_trans l q.2) (by decide)), if_neg (fun q => absurd (Int32.lt_trans l q.2) (by decide)), if_neg (n 8 (by decide)), if_neg (n 9 (by decide)), if_neg (n 20 (by decide)), if_neg (n 21 (by decide)), if_neg (n 22 (by decide)), if_neg (n 23 (by decide))]
theorem tel_r {g : GS} {n : Nat} (h : n < 8) : telG g (nI n) = g 3 n := by
  unfold telG
  rw [if_pos ⟨nI_pos (by omega), show nI n < nI 8 from nI_lt h (by decide)⟩, nI_clamp (by omega)]
theorem tel_k {g : GS} {n : Nat} (h : n < 10) : telG g (nI (n + 10)) = g 4 n := by
  unfold telG
  rw [if_neg (fun q => absurd (show nI (n + 10) < nI 8 from q.2) (nI_nlt (by omega) (by omega))), if_pos ⟨fun q => absurd (show nI (n + 10) < nI 10 from q) (nI_nlt (by omega) (by omega)), show nI (n + 10) < nI 20 from nI_lt (by omega) (by decide)⟩, show nI (n + 10) - 10 = nI n from by rw [← nI_add, show nI 10 = (10 : Int32) from rfl, Int32.add_sub_cancel], nI_clamp (by omega)]
theorem tel_8 {g : GS} : telG g 8 = g 0 2 := by unfold telG; rw [if_neg (by decide), if_neg (by decide), if_pos rfl]
theorem tel_9 {g : GS} : telG g 9 = g 0 3 := by unfold telG; rw [if_neg (by decide), if_neg (by decide), if_neg (by decide), if_pos rfl]
theorem tel_20 {g : GS} : telG g 20 = g 0 14 := by unfold telG; rw [if_neg (by decide), if_neg (by decide), if_neg (by decide), if_neg (by decide), if_pos rfl]
theorem tel_21 {g : GS} : telG g 21 = g 0 16 := by unfold telG; rw [if_neg (by decide), if_neg (by decide), if_neg (by decide), if_neg (by decide), if_neg (by decide), if_pos rfl]
theorem tel_22 {g : GS} : telG g 22 = g 0 4 := by unfold telG; rw [if_neg (by decide), if_neg (by decide), if_neg (by decide), if_neg (by decide), if_neg (by decide), if_neg (by decide), if_pos rfl]
theorem tel_23 {g : GS} : telG g 23 = g 0 5 := by unfold telG; rw [if_neg (by decide), if_neg (by decide), if_neg (by decide), if_neg (by decide), if_neg (by decide), if_neg (by decide), if_neg (by decide), if_pos rfl]
theorem BR_ari {Z : ZT} {i F w : Nat} {g : GS} {v : Int32} (H : BRr Z i F g) (hw : w < 64) (e14 : Z 40 i 14 = nI w) : BRr (upr (upr Z 47 i (upd (Z 47 i) w v)) 40 i (upd (Z 40 i) 14 (nI w + 1))) i F (ariS g v) := by
  obtain ⟨⟨a0, a1, a2, a3, a4, a5, a6, a7⟩, h1, h2, h3, h4, h5, ⟨w', hw', e', h6⟩, h7⟩ := H
  have ew : w' = w := nI_inj (by omega) (by omega) (e'.symm.trans e14)
  subst ew
  have g14 : g 0 14 = nI w' := by rw [← a6]; exact e14
  unfold ariS
  rw [g14, nI_clamp (by omega)]
  refine ⟨?_, ?_, ?_, ?_, ?_, ?_, ?_, ?_⟩
  · rw [upr_s, gu_s, gu_o (by decide)]
    refine ⟨?_, ?_, ?_, ?_, ?_, ?_, ?_, ?_⟩
    · rw [upd_n (by decide)]; exact a0
    · rw [upd_n (by decide), upd_n (by decide)]; exact a1
    · rw [upd_n (by decide), upd_n (by decide)]; exact a2
    · rw [upd_n (by decide), upd_n (by decide)]; exact a3
    · rw [upd_n (by decide), upd_n (by decide)]; exact a4
    · rw [upd_n (by decide), upd_n (by decide)]; exact a5
    · rw [upd_s, upd_s]
    · rw [upd_n (by decide), upd_n (by decide)]; exact a7
  · rw [upr_k (by decide), upr_k (by decide), gu_o (by decide), gu_o (by decide)]; exact h1
  · rw [upr_k (by decide), upr_k (by decide), gu_o (by decide), gu_o (by decide)]; exact h2
  · rw [upr_k (by decide), upr_k (by decide), gu_o (by decide), gu_o (by decide)]; exact h3
  · rw [upr_k (by decide), upr_k (by decide), gu_o (by decide), gu_o (by decide)]; exact h4
  · rw [upr_k (by decide), upr_k (by decide), upr_k (by decide), upr_k (by decide), gu_o (by decide), gu_o (by decide)]; exact h5
  · refine ⟨w' + 1, by omega, by rw [upr_s, upd_s, nI_1], fun j hj => ?_⟩
    rw [upr_k (by decide), upr_s, gu_o (by decide), gu_s]
    by_cases q : j = w'
    · subst q; rw [upd_s, upd_s]
    · rw [upd_n q, upd_n q]; exact h6 j (by omega)
  · rw [upr_s, upr_k (by decide), upr_k (by decide), gu_o (by decide), gu_o (by decide), upd_n (by decide)]; exact h7
theorem MR_drop {Z : ZT} {S : HS} {i : Nat} (H : MR Z S) : MR (upr Z 40 i (upd (Z 40 i) 1 0)) (upn S.1 i 0, S.2.1, S.2.2) := by
  obtain ⟨m0, m⟩ := H
  refine ⟨by rw [upr_k (by decide)]; exact m0, fun j hj => ?_⟩
  show (upn S.1 i 0 j = 0 → upr Z 40 i (upd (Z 40 i) 1 0) 40 j 1 = 0) ∧ (upn S.1 i 0 j ≠ 0 → upr Z 40 i (upd (Z 40 i) 1 0) 40 j 1 = 1 ∧ BRr (upr Z 40 i (upd (Z 40 i) 1 0)) j (upn S.1 i 0 j) (S.2.1 j))
  by_cases e : j = i
  · subst e
    rw [upn_s, upr_s, upd_s]
    exact ⟨fun _ => rfl, fun q => absurd rfl q⟩
  · rw [upn_n e, upr_i e]
    exact ⟨(m j hj).1, fun q => ⟨((m j hj).2 q).1, BRr_rows (fun c _ _ => upr_i e) ((m j hj).2 q).2⟩⟩
def inZ (Z : ZT) (n : Nat) : ZT := fun c i => if c = 40 ∧ i < n then upd (Z 40 i) 1 0 else Z c i
theorem inZ_s {Z : ZT} {j : Nat} : upr (inZ Z j) 40 j (upd (inZ Z j 40 j) 1 0) = inZ Z (j + 1) := by
  funext c i
  by_cases e : c = 40 ∧ i = j
  · obtain ⟨rfl, rfl⟩ := e
    rw [upr_s]
    unfold inZ
    rw [if_neg (by omega), if_pos ⟨rfl, by omega⟩]
  · rw [upr_n e]
    unfold inZ
    by_cases q : c = 40 ∧ i < j
    · rw [if_pos q, if_pos ⟨q.1, by omega⟩]
    · rw [if_neg q, if_neg (by omega)]
theorem inZ_0 {Z : ZT} : inZ Z 0 = Z := by
  funext c i
  unfold inZ
  rw [if_neg (by omega)]
theorem rem8 {n : Nat} (h : n < 2 ^ 31) : nI n - nI n / 8 * 8 = nI (n % 8) := by
  have e : nI n / 8 = nI (n / 8) := by
    apply Int32.toInt_inj.mp
    rw [Int32.toInt_div_of_ne_right _ _ (by decide), nI_toInt h, nI_toInt (by omega), show (8 : Int32).toInt = 8 by decide]
    rw [Int.tdiv_eq_ediv_of_nonneg (by omega)]
    omega
  rw [e, show nI (n / 8) * 8 = nI (n / 8) * nI 8 from rfl, pk_mul]
  have : nI n = nI (n % 8) + nI (n / 8 * 8) := by rw [nI_add]; congr 1; omega
  rw [this, Int32.add_sub_cancel]
