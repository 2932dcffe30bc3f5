/-! ===== a step keeps what always holds of a machine ===== -/
theorem BR_nt2 {Z : ZT} {i F : Nat} {g : GS} {c a : Int32} (H : BRr Z i F g) : BRr (upr Z 40 i (upd (upd (Z 40 i) 17 c) 18 a)) i F g := by
  have q2 := BR_nt (d := 18) (x := a) (BR_nt (d := 17) (x := c) H (by decide)) (by decide)
  rw [upr_uu, upr_s] at q2
  exact q2
theorem SB2 {Z Z1 : ZT} {i : Nat} {c a : Int32} (S : SB Z i Z1) : SB Z i (upr Z1 40 i (upd (upd (Z1 40 i) 17 c) 18 a)) := by
  have s1 := SB.u40 (k := 18) (x := a) (SB.u40 (k := 17) (x := c) S (by decide)) (by decide)
  rw [upr_uu, upr_s] at s1
  exact s1
theorem upd_cm {f : Nat → Int32} {a b : Nat} {x y : Int32} (h : a ≠ b) : upd (upd f a x) b y = upd (upd f b y) a x := by
  funext k
  by_cases h1 : k = a
  · subst h1; rw [upd_n h, upd_s, upd_s]
  · by_cases h2 : k = b
    · subst h2; rw [upd_s, upd_n h1, upd_s]
    · rw [upd_n h2, upd_n h1, upd_n h1, upd_n h2]
theorem trap_eq {g : GS} {c b st : Int32} {n2 : Int32} : gu (gu (gu (gu (gu (gu (gu g 4 1 c) 4 2 (g 0 2)) 4 3 b) 4 0 st) 0 3 1) 0 2 n2) 0 5 (g 0 5 + 1) = gr (gr g 4 (upd (upd (upd (upd (g 4) 0 st) 1 c) 2 (g 0 2)) 3 b)) 0 (upd (upd (upd (g 0) 3 1) 2 n2) 5 (g 0 5 + 1)) := by
  funext r
  by_cases h0 : r = 0
  · subst h0
    rw [gr_s, gu_s, gu_s, gu_s, gu_o (by decide), gu_o (by decide), gu_o (by decide), gu_o (by decide)]
  · rw [gr_o h0, gu_o h0, gu_o h0, gu_o h0]
    by_cases h4 : r = 4
    · subst h4
      rw [gr_s, gu_s, gu_s, gu_s, gu_s, upd_cm (a := 3) (b := 0) (by decide), upd_cm (a := 2) (b := 0) (by decide), upd_cm (a := 1) (b := 0) (by decide)]
    · rw [gr_o h4, gu_o h4, gu_o h4, gu_o h4, gu_o h4]
theorem GInv_same {F : Nat} {g g' : GS} (h4 : g' 4 = g 4) (h5 : g' 5 = g 5) (h3 : g' 0 3 = g 0 3) (H : GInv F g) : GInv F g' := by
  unfold GInv at H ⊢
  rw [h4, h5, h3]
  exact H
theorem mk_a : ∀ i, i < 32 → (bt 1792 i && bt 1799 i) = bt 1792 i := by decide +kernel
theorem mk_2 : ∀ i, i < 32 → (bt 2 i && bt 1799 i) = bt 2 i := by decide +kernel
theorem mk_4 : ∀ i, i < 32 → (bt 4 i && bt 1799 i) = bt 4 i := by decide +kernel
theorem mk_1 : ∀ i, i < 32 → (bt 1 i && bt 1799 i) = bt 1 i := by decide +kernel
theorem mk_or {x y : Int32} (hx : x &&& 1799 = x) (hy : y &&& 1799 = y) : (x ||| y) &&& 1799 = x ||| y := by
  apply b_ext
  intro i hi
  have ex : (bt x i && bt 1799 i) = bt x i := by rw [← b_and, hx]
  have ey : (bt y i && bt 1799 i) = bt y i := by rw [← b_and, hy]
  rw [b_and, b_or]
  cases hbx : bt x i <;> cases hby : bt y i <;> cases hb : bt 1799 i <;> rw [hb] at ex ey <;> rw [hbx] at ex <;> rw [hby] at ey <;> simp_all
theorem mk_and (x : Int32) : (x &&& 1792) &&& 1799 = x &&& 1792 := by
  apply b_ext
  intro i hi
  rw [b_and, b_and, Bool.and_assoc, mk_a i hi]
theorem mk_1799 (x : Int32) : (x &&& 1799) &&& 1799 = x &&& 1799 := by
  apply b_ext
  intro i hi
  rw [b_and, b_and, Bool.and_assoc, Bool.and_self]
theorem GInv_4 {F k : Nat} {g : GS} {x : Int32} (h0 : k = 0 → x &&& 1799 = x) (h5 : k ≠ 5) (h9 : k ≠ 9) (H : GInv F g) : GInv F (gu g 4 k x) := by
  obtain ⟨a, b, c, d⟩ := H
  refine ⟨?_, by rw [gu_o (by decide)]; exact b, by rw [gu_s, upd_n (Ne.symm h9)]; exact c, ?_⟩
  · rw [gu_s]
    by_cases q : k = 0
    · subst q; rw [upd_s]; exact h0 rfl
    · rw [upd_n (Ne.symm q)]; exact a
  · rw [gu_o (show (5 : Nat) ≠ 4 by decide), gu_s, upd_n (Ne.symm h5)]; exact d
theorem GInv_m {F : Nat} {g : GS} {x : Int32} (h : x = 0 ∨ x = 1) (H : GInv F g) : GInv F (gu g 0 3 x) := by
  obtain ⟨a, b, c, d⟩ := H
  refine ⟨by rw [gu_o (by decide)]; exact a, by rw [gu_s, upd_s]; exact h, by rw [gu_o (by decide)]; exact c, ?_⟩
  rw [gu_o (show (5 : Nat) ≠ 0 by decide), gu_o (show (4 : Nat) ≠ 0 by decide)]; exact d
theorem GInv_0 {F k : Nat} {g : GS} {x : Int32} (h : k ≠ 3) (H : GInv F g) : GInv F (gu g 0 k x) := GInv_same (gu_o (by decide)) (gu_o (by decide)) (by rw [gu_s, upd_n (Ne.symm h)]) H
theorem GInv_r {F r k : Nat} {g : GS} {x : Int32} (h0 : r ≠ 0) (h4 : r ≠ 4) (h5 : r ≠ 5) (H : GInv F g) : GInv F (gu g r k x) := GInv_same (gu_o (Ne.symm h4)) (gu_o (Ne.symm h5)) (by rw [gu_o (Ne.symm h0)]) H
theorem GInv_gr {F r : Nat} {g : GS} {f : Nat → Int32} (h0 : r ≠ 0) (h4 : r ≠ 4) (h5 : r ≠ 5) (H : GInv F g) : GInv F (gr g r f) := GInv_same (gr_o (Ne.symm h4)) (gr_o (Ne.symm h5)) (by rw [gr_o (Ne.symm h0)]) H
theorem GInv_f {F : Nat} {g : GS} {x : Int32} (H : GInv F g) (k : Nat) (hk : k = 5 ∨ (k ≠ 0 ∧ k ≠ 9)) : GInv F (fillC (gu g 4 k x)) := by
  obtain ⟨a, b, c, d⟩ := H
  unfold fillC
  refine ⟨?_, ?_, ?_, ?_⟩
  · rw [gr_o (by decide), gu_s, upd_n (by omega)]; exact a
  · rw [gr_o (by decide), gu_o (by decide)]; exact b
  · rw [gr_o (by decide), gu_s, upd_n (by omega)]; exact c
  · intro p hp
    left
    rw [gr_s]
    unfold fillR
    rw [if_pos hp]
theorem gu_id {g : GS} {r k : Nat} : gu g r k (g r k) = g := by
  rw [gu_gr, upd_id, gr_id]
theorem GInv_fc {F : Nat} {g : GS} (H : GInv F g) : GInv F (fillC g) := by
  have := GInv_f (x := g 4 5) H 5 (Or.inl rfl)
  rw [gu_id] at this
  exact this
theorem GInv_c1 {F k : Nat} {g : GS} (H : GInv F g) : GInv F (gu g 5 k (-1)) := by
  obtain ⟨a, b, c, d⟩ := H
  refine ⟨by rw [gu_o (by decide)]; exact a, by rw [gu_o (by decide)]; exact b, by rw [gu_o (by decide)]; exact c, ?_⟩
  intro p hp
  rw [gu_s, gu_o (show (4 : Nat) ≠ 5 by decide)]
  by_cases q : p = k
  · subst q; left; rw [upd_s]
  · rw [upd_n q]; exact d p hp
theorem GInv_trap {F : Nat} {g : GS} {c b : Int32} (H : GInv F g) : GInv F (trapS g c b) := by
  unfold trapS
  rw [← trap_eq]
  refine GInv_0 (by decide) (GInv_0 (by decide) (GInv_m (Or.inr rfl) (GInv_4 (fun _ => ?_) (by decide) (by decide) (GInv_4 (fun q => absurd q (by decide)) (by decide) (by decide) (GInv_4 (fun q => absurd q (by decide)) (by decide) (by decide) (GInv_4 (fun q => absurd q (by decide)) (by decide) (by decide) H))))))
  refine mk_or (mk_and _) (mk_or ?_ ?_)
  · split <;> decide
  · split <;> decide
theorem useS_inv {F : Nat} {g : GS} {w : Int32} (hF : F ≤ 64) (H : GInv F g) : GInv F (useS F g w).1 := by
  have h1 := locS_inv (a := g 3 (fA w) + numS w) (kind := if opc w = 11 then 12 else 13) hF H (by split <;> decide)
  unfold useS
  dsimp only
  generalize locS F g (g 3 (fA w) + numS w) (if opc w = 11 then 12 else 13) = q at h1 ⊢
  split
  · exact h1
  · dsimp only
    have h2 : GInv F (if opc w = 12 then q.1 else gu q.1 3 (fD w) (q.1 1 q.2.2.2.toNatClampNeg)) := by
      split
      · exact h1
      · exact GInv_r (by decide) (by decide) (by decide) h1
    split
    · exact h2
    · exact GInv_r (by decide) (by decide) (by decide) h2
theorem jumpS_inv {F : Nat} {g : GS} {w nx : Int32} (H : GInv F g) : GInv F (jumpS g w nx).1 := by
  unfold jumpS
  split
  · exact H
  · split
    · exact H
    · split
      · exact H
      · split
        · exact GInv_r (by decide) (by decide) (by decide) H
        · exact GInv_r (by decide) (by decide) (by decide) H
theorem inS_inv {F : Nat} {g : GS} {n : Int32} (H : GInv F g) : GInv F (inS g n).1 := by
  unfold inS
  split
  · unfold popS
    split
    · exact H
    · exact GInv_gr (by decide) (by decide) (by decide) (GInv_0 (by decide) H)
  · split
    · exact H
    · split
      · exact H
      · split <;> exact H
theorem outS_inv {F : Nat} {g : GS} {a n : Int32} (H : GInv F g) : GInv F (outS F g a n) := by
  unfold outS
  split
  · unfold putS
    refine GInv_0 (by decide) ?_
    split
    · exact H
    · exact GInv_r (by decide) (by decide) (by decide) H
  · split
    · exact GInv_0 (by decide) H
    · split
      · unfold diskS
        split
        · exact GInv_gr (by decide) (by decide) (by decide) H
        · exact GInv_gr (by decide) (by decide) (by decide) H
      · exact H
theorem wcS_inv {F : Nat} {g : GS} {w nx cn : Int32} (H : GInv F g) : GInv F (wcS g w nx cn).1 := by
  unfold wcS
  split
  · exact H
  · rename_i hn
    have a0 : ¬ numS w < 0 := fun q => hn (Or.inl q)
    have a9 : numS w < 9 := Classical.not_not.mp (fun q => hn (Or.inr q))
    split
    · exact H
    · obtain ⟨j, hj, ej⟩ := nI_of a0
      have hj9 : j < 9 := (nI_ltI hj (by decide)).mp (by rw [ej] at a9; exact a9)
      rw [ej, nI_clamp hj]
      dsimp only
      split
      · rename_i e5
        have : j = 5 := nI_inj hj (by decide) e5
        subst this
        exact GInv_f H 5 (Or.inl rfl)
      · rename_i e5
        refine GInv_4 (fun q => ?_) (fun q => e5 (by rw [q]; rfl)) (by omega) H
        subst q
        rw [if_pos (show nI 0 = 0 from rfl)]
        exact mk_1799 _
theorem supS_inv {F : Nat} {g : GS} {w nx cn : Int32} (H : GInv F g) : GInv F (supS F g w nx cn).1 := by
  unfold supS
  split
  · unfold rcS
    split
    · exact H
    · exact GInv_r (by decide) (by decide) (by decide) H
  · split
    · exact wcS_inv H
    · split
      · have h1 : GInv F (gu g 4 0 (((g 4 0 &&& 1792) ||| 2) ||| (if g 4 0 &&& 2 = 0 then 0 else 1))) := GInv_4 (fun _ => mk_or (mk_or (mk_and _) (by decide)) (by split <;> decide)) (by decide) (by decide) H
        have h2 := GInv_m (x := if g 4 0 &&& 4 = 0 then 0 else 1) (by split <;> simp) h1
        rw [gu_gr (r := 0), gu_o (show (0 : Nat) ≠ 4 by decide)] at h2
        exact h2
      · split
        · exact GInv_fc H
        · split
          · exact GInv_c1 H
          · split
            · unfold waitS
              split
              · exact H
              · split
                · exact H
                · exact GInv_0 (by decide) H
            · split
              · exact GInv_0 (by decide) H
              · split
                · exact GInv_r (by decide) (by decide) (by decide) (inS_inv H)
                · dsimp only
                  exact outS_inv H
theorem execS_inv {F : Nat} {g : GS} {w nx cn : Int32} (hF : F ≤ 64) (H : GInv F g) : GInv F (execS F g w nx cn).1 := by
  unfold execS
  split
  · exact GInv_r (by decide) (by decide) (by decide) H
  · split
    · exact useS_inv hF H
    · split
      · exact jumpS_inv H
      · split
        · unfold cotS
          split
          · exact H
          · split
            · exact H
            · exact GInv_r (by decide) (by decide) (by decide) H
        · split
          · exact H
          · split
            · exact H
            · exact supS_inv H
theorem stepS_inv {F : Nat} {g : GS} (hF : F ≤ 64) (H : GInv F g) : GInv F (stepS F g) := by
  unfold stepS
  split
  · exact GInv_trap H
  · split
    · exact GInv_trap (locS_inv hF H (by decide))
    · have h1 := execS_inv (w := (locS F g (g 0 2) 11).1 1 (locS F g (g 0 2) 11).2.2.2.toNatClampNeg) (nx := g 0 2 + 1) (cn := g 4 8 + 1) hF (locS_inv (a := g 0 2) hF H (show (11 : Int32) ≠ 0 by decide))
      generalize execS F (locS F g (g 0 2) 11).1 ((locS F g (g 0 2) 11).1 1 (locS F g (g 0 2) 11).2.2.2.toNatClampNeg) (g 0 2 + 1) (g 4 8 + 1) = x at h1 ⊢
      unfold finS
      split
      · exact GInv_4 (fun q => absurd q (by decide)) (by decide) (by decide) (GInv_0 (by decide) h1)
      · exact GInv_trap h1
