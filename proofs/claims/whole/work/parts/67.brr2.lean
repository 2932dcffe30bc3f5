/-! ===== words that come and go, the disk: the reference ===== -/
section BRY
variable {Z : ZT} {i F d : Nat} {g : GS} {x : Int32}
theorem BR_41r {f m : Nat → Int32} (H : BRr Z i F g) (h : ∀ a, a < 64 * F → f a = m a) : BRr (upr Z 41 i f) i F (gr g 1 m) := by
  obtain ⟨h0, h1, h2, h3, h4, h5, h6, h7⟩ := H
  unfold BRr
  simp only [upr_k (show (40 : Nat) ≠ 41 by decide), upr_k (show (42 : Nat) ≠ 41 by decide), upr_k (show (43 : Nat) ≠ 41 by decide), upr_k (show (44 : Nat) ≠ 41 by decide), upr_k (show (45 : Nat) ≠ 41 by decide), upr_k (show (46 : Nat) ≠ 41 by decide), upr_k (show (47 : Nat) ≠ 41 by decide), upr_k (show (48 : Nat) ≠ 41 by decide), upr_s, gr_s, gr_o (show (0 : Nat) ≠ 1 by decide), gr_o (show (2 : Nat) ≠ 1 by decide), gr_o (show (3 : Nat) ≠ 1 by decide), gr_o (show (4 : Nat) ≠ 1 by decide), gr_o (show (5 : Nat) ≠ 1 by decide), gr_o (show (6 : Nat) ≠ 1 by decide), gr_o (show (7 : Nat) ≠ 1 by decide)]
  exact ⟨h0, h, h2, h3, h4, h5, h6, h7⟩
theorem BR_42r {f m : Nat → Int32} (H : BRr Z i F g) (h : ∀ a, a < 1024 → f a = m a) : BRr (upr Z 42 i f) i F (gr g 2 m) := by
  obtain ⟨h0, h1, h2, h3, h4, h5, h6, h7⟩ := H
  unfold BRr
  simp only [upr_k (show (40 : Nat) ≠ 42 by decide), upr_k (show (41 : Nat) ≠ 42 by decide), upr_k (show (43 : Nat) ≠ 42 by decide), upr_k (show (44 : Nat) ≠ 42 by decide), upr_k (show (45 : Nat) ≠ 42 by decide), upr_k (show (46 : Nat) ≠ 42 by decide), upr_k (show (47 : Nat) ≠ 42 by decide), upr_k (show (48 : Nat) ≠ 42 by decide), upr_s, gr_s, gr_o (show (0 : Nat) ≠ 2 by decide), gr_o (show (1 : Nat) ≠ 2 by decide), gr_o (show (3 : Nat) ≠ 2 by decide), gr_o (show (4 : Nat) ≠ 2 by decide), gr_o (show (5 : Nat) ≠ 2 by decide), gr_o (show (6 : Nat) ≠ 2 by decide), gr_o (show (7 : Nat) ≠ 2 by decide)]
  exact ⟨h0, h1, h, h3, h4, h5, h6, h7⟩
theorem BR_pop {q : Nat → Int32} {w : Nat} (H : BRr Z i F g) (hw : w + 1 ≤ 64) (e14 : Z 40 i 14 = nI (w + 1)) (hq : ∀ j, j < w → q j = Z 47 i (j + 1)) : BRr (upr (upr Z 47 i q) 40 i (upd (Z 40 i) 14 (Z 40 i 14 - 1))) i F (gr (gu g 0 14 (g 0 14 - 1)) 6 (fun j => g 6 (j + 1))) := by
  obtain ⟨⟨a0, a1, a2, a3, a4, a5, a6, a7⟩, h1, h2, h3, h4, h5, ⟨w', hw', e', h6⟩, h7⟩ := H
  have ew : w' = w + 1 := nI_inj (by omega) (by omega) (e'.symm.trans e14)
  subst ew
  unfold BRr
  simp only [upr_k (show (41 : Nat) ≠ 40 by decide), upr_k (show (42 : Nat) ≠ 40 by decide), upr_k (show (43 : Nat) ≠ 40 by decide), upr_k (show (44 : Nat) ≠ 40 by decide), upr_k (show (45 : Nat) ≠ 40 by decide), upr_k (show (46 : Nat) ≠ 40 by decide), upr_k (show (47 : Nat) ≠ 40 by decide), upr_k (show (48 : Nat) ≠ 40 by decide), upr_k (show (40 : Nat) ≠ 47 by decide), upr_k (show (41 : Nat) ≠ 47 by decide), upr_k (show (42 : Nat) ≠ 47 by decide), upr_k (show (43 : Nat) ≠ 47 by decide), upr_k (show (44 : Nat) ≠ 47 by decide), upr_k (show (45 : Nat) ≠ 47 by decide), upr_k (show (46 : Nat) ≠ 47 by decide), upr_k (show (48 : Nat) ≠ 47 by decide), upr_s, gr_s, gu_s, gr_o (show (0 : Nat) ≠ 6 by decide), gr_o (show (1 : Nat) ≠ 6 by decide), gr_o (show (2 : Nat) ≠ 6 by decide), gr_o (show (3 : Nat) ≠ 6 by decide), gr_o (show (4 : Nat) ≠ 6 by decide), gr_o (show (5 : Nat) ≠ 6 by decide), gr_o (show (7 : Nat) ≠ 6 by decide), gu_o (show (1 : Nat) ≠ 0 by decide), gu_o (show (2 : Nat) ≠ 0 by decide), gu_o (show (3 : Nat) ≠ 0 by decide), gu_o (show (4 : Nat) ≠ 0 by decide), gu_o (show (5 : Nat) ≠ 0 by decide), gu_o (show (6 : Nat) ≠ 0 by decide), gu_o (show (7 : Nat) ≠ 0 by decide), upd_s, upd_n (show (0 : Nat) ≠ 14 by decide), upd_n (show (1 : Nat) ≠ 14 by decide), upd_n (show (2 : Nat) ≠ 14 by decide), upd_n (show (3 : Nat) ≠ 14 by decide), upd_n (show (4 : Nat) ≠ 14 by decide), upd_n (show (5 : Nat) ≠ 14 by decide), upd_n (show (10 : Nat) ≠ 14 by decide), upd_n (show (11 : Nat) ≠ 14 by decide), upd_n (show (12 : Nat) ≠ 14 by decide), upd_n (show (13 : Nat) ≠ 14 by decide), upd_n (show (15 : Nat) ≠ 14 by decide), upd_n (show (16 : Nat) ≠ 14 by decide)]
  exact ⟨⟨a0, a1, a2, a3, a4, a5, by rw [a6], a7⟩, h1, h2, h3, h4, h5, ⟨w, by omega, by rw [e14, nI_pred], fun j hj => by rw [hq j hj]; exact h6 (j + 1) (by omega)⟩, h7⟩
theorem BR_put {a : Int32} (H : BRr Z i F g) : BRr (upr (if Z 40 i 15 < 0 ∨ 1000 ≤ Z 40 i 15 then Z else upr Z 48 i (upd (Z 48 i) (Z 40 i 15).toNatClampNeg a)) 40 i (upd (Z 40 i) 15 (Z 40 i 15 + 1))) i F (putS g a) := by
  obtain ⟨⟨a0, a1, a2, a3, a4, a5, a6, a7⟩, h1, h2, h3, h4, h5, h6, h7⟩ := H
  have z : ∀ c b, c ≠ 48 → (if Z 40 i 15 < 0 ∨ 1000 ≤ Z 40 i 15 then Z else upr Z 48 i (upd (Z 48 i) (Z 40 i 15).toNatClampNeg a)) c b = Z c b := fun c b q => by
    split
    · rfl
    · rw [upr_k q]
  have y : ∀ r, r ≠ 7 → (if g 0 16 < 0 ∨ 1000 ≤ g 0 16 then g else gu g 7 (g 0 16).toNatClampNeg a) r = g r := fun r q => by
    split
    · rfl
    · rw [gu_o q]
  unfold putS
  refine ⟨?_, ?_, ?_, ?_, ?_, ?_, ?_, ?_⟩
  · rw [upr_s, gu_s, y 0 (by decide)]
    refine ⟨?_, ?_, ?_, ?_, ?_, ?_, ?_, ?_⟩
    · rw [upd_n (by decide)]; exact a0
    · rw [upd_n (by decide), upd_n (by decide)]; exact a1
    · rw [upd_n (by decide), upd_n (by decide)]; exact a2
    · rw [upd_n (by decide), upd_n (by decide)]; exact a3
    · rw [upd_n (by decide), upd_n (by decide)]; exact a4
    · rw [upd_n (by decide), upd_n (by decide)]; exact a5
    · rw [upd_n (by decide), upd_n (by decide)]; exact a6
    · rw [upd_s, upd_s, a7]
  · rw [upr_k (by decide), gu_o (by decide), y 1 (by decide), z 41 i (by decide)]; exact h1
  · rw [upr_k (by decide), gu_o (by decide), y 2 (by decide), z 42 i (by decide)]; exact h2
  · rw [upr_k (by decide), gu_o (by decide), y 3 (by decide), z 43 i (by decide)]; exact h3
  · rw [upr_k (by decide), gu_o (by decide), y 4 (by decide), z 44 i (by decide)]; exact h4
  · rw [upr_k (by decide), upr_k (by decide), gu_o (by decide), y 5 (by decide), z 45 i (by decide), z 46 i (by decide)]; exact h5
  · rw [upr_s, upr_k (by decide), gu_o (by decide), y 6 (by decide), z 47 i (by decide), upd_n (by decide)]; exact h6
  · intro j hj hlt
    rw [upr_s, upd_s] at hlt
    rw [upr_k (by decide), gu_o (by decide)]
    by_cases c : Z 40 i 15 < 0 ∨ 1000 ≤ Z 40 i 15
    · rw [if_pos c, if_pos (by rw [← a7]; exact c)]
      refine h7 j hj ?_
      rcases c with q | q
      · exfalso
        rw [Int32.lt_iff_toInt_lt] at q hlt
        rw [nI_toInt (by omega), Int32.toInt_add] at hlt
        have e1 : (1 : Int32).toInt = 1 := by decide
        have e0 : (0 : Int32).toInt = 0 := by decide
        have hb := (Z 40 i 15).toInt_lt
        have hb2 := (Z 40 i 15).le_toInt
        rw [e1, Int.bmod_eq_of_le (by omega) (by omega)] at hlt
        omega
      · rw [Int32.le_iff_toInt_le] at q
        rw [Int32.lt_iff_toInt_lt, nI_toInt (by omega)]
        have e1 : (1000 : Int32).toInt = 1000 := by decide
        omega
    · have c0 : ¬ Z 40 i 15 < 0 := fun q => c (Or.inl q)
      have c1 : ¬ 1000 ≤ Z 40 i 15 := fun q => c (Or.inr q)
      obtain ⟨n, hn, en⟩ := putN c0 c1
      rw [if_neg c, if_neg (by rw [← a7]; exact c), upr_s, gu_s, ← a7, en, nI_clamp (by omega)]
      by_cases q : j = n
      · subst q; rw [upd_s, upd_s]
      · rw [upd_n q, upd_n q]
        refine h7 j hj ?_
        rw [en] at hlt ⊢
        rw [nI_1] at hlt
        have := (nI_ltI (by omega) (by omega)).mp hlt
        exact nI_lt (by omega) (by omega)
end BRY
/-- a block of 64 words at b -/
def blR (b n : Nat) (f z : Nat → Int32) : Nat → Int32 := fun k => if b ≤ k ∧ k < b + n then f (k - b) else z k
theorem blR_0 {b : Nat} {f z : Nat → Int32} : blR b 0 f z = z := by
  funext k; unfold blR; rw [if_neg (by omega)]
theorem blR_s {b j : Nat} {f z : Nat → Int32} : upd (blR b j f z) (b + j) (f j) = blR b (j + 1) f z := by
  funext k
  unfold blR
  by_cases h1 : k = b + j
  · subst h1; rw [upd_s, if_pos (by omega), show b + j - b = j by omega]
  · rw [upd_n h1]
    by_cases h2 : b ≤ k ∧ k < b + j
    · rw [if_pos h2, if_pos (by omega)]
    · rw [if_neg h2, if_neg (by omega)]
/-- what the reference's own instructions do -/
def ownS (F : Nat) (g : GS) (o : Int32) (d : Nat) (a n : Int32) : GS :=
  if o = 21 then gu g 3 d (if n = 9 then nI F else g 4 n.toNatClampNeg)
  else if o = 22 then (if n = 5 then fillC (gu g 4 n.toNatClampNeg (if n = 0 then a &&& 1799 else a)) else gu g 4 n.toNatClampNeg (if n = 0 then a &&& 1799 else a))
  else if o = 23 then leaveS g
  else if o = 24 then fillC g
  else if o = 25 then gu g 5 (a &&& 255).toNatClampNeg (-1)
  else if o = 26 then (if timeUpv (g 4 8) (g 4 6) = 0 ∧ g 0 14 = 0 ∧ g 4 6 = 0 then gu g 0 1 2 else g)
  else if o = 27 then gu g 0 1 3
  else if o = 28 then gu (inS g n).1 3 d (inS g n).2
  else outS F g a n
theorem gu_cm {g : GS} {r r' k k' : Nat} {v v' : Int32} (h : r ≠ r') : gu (gu g r k v) r' k' v' = gu (gu g r' k' v') r k v := by
  funext a
  by_cases h1 : a = r
  · subst h1; rw [gu_o h, gu_s, gu_s, gu_o h]
  · by_cases h2 : a = r'
    · subst h2; rw [gu_s, gu_o h1, gu_o h1, gu_s]
    · rw [gu_o h2, gu_o h1, gu_o h1, gu_o h2]
theorem gu_gu {g : GS} {r k : Nat} {v v' : Int32} : gu (gu g r k v) r k v' = gu g r k v' := by
  funext a
  by_cases h1 : a = r
  · subst h1; rw [gu_s, gu_s, gu_s, upd_uu]
  · rw [gu_o h1, gu_o h1, gu_o h1]
