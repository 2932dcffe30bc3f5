/-! ===== the supervisor's instructions: the class's way and the reference's ===== -/
theorem sc {a b x : Int32} (e : b.toInt = a.toInt + 1) : b ≤ x ↔ a < x := by
  rw [Int32.le_iff_toInt_le, Int32.lt_iff_toInt_lt]; omega
theorem fD_nI (w : Int32) : (w >>> ((23 : Int32) &&& 31)) &&& 7 = nI (fD w) := by
  rw [show (w >>> ((23 : Int32) &&& 31)) &&& 7 = ush w 23 &&& 7 from sa7 w 23 (by decide)]
  unfold fD
  obtain ⟨j, hj, e⟩ := pk_andE (ush w 23) (m := 7) 3 (by decide)
  rw [e, nI_clamp (by omega)]
theorem fA_nI (w : Int32) : (w >>> ((20 : Int32) &&& 31)) &&& 7 = nI (fA w) := by
  rw [show (w >>> ((20 : Int32) &&& 31)) &&& 7 = ush w 20 &&& 7 from sa7 w 20 (by decide)]
  unfold fA
  obtain ⟨j, hj, e⟩ := pk_andE (ush w 20) (m := 7) 3 (by decide)
  rw [e, nI_clamp (by omega)]
theorem fB_nI (w : Int32) : (w >>> ((17 : Int32) &&& 31)) &&& 7 = nI (fB w) := by
  rw [show (w >>> ((17 : Int32) &&& 31)) &&& 7 = ush w 17 &&& 7 from sa7 w 17 (by decide)]
  unfold fB
  obtain ⟨j, hj, e⟩ := pk_andE (ush w 17) (m := 7) 3 (by decide)
  rw [e, nI_clamp (by omega)]
theorem popS_o {g : GS} {r : Nat} (h0 : r ≠ 0) (h6 : r ≠ 6) : (popS g).1 r = g r := by
  unfold popS
  split
  · rfl
  · show gr (gu g 0 14 (g 0 14 - 1)) 6 (fun j => g 6 (j + 1)) r = g r
    rw [gr_o h6, gu_o h0]
theorem inS_o {g : GS} {r : Nat} {n : Int32} (h0 : r ≠ 0) (h6 : r ≠ 6) : (inS g n).1 r = g r := by
  unfold inS
  split
  · exact popS_o h0 h6
  · split
    · rfl
    · split
      · rfl
      · split <;> rfl
theorem outS_o {F : Nat} {g : GS} {r : Nat} {a n : Int32} (h0 : r ≠ 0) (h1 : r ≠ 1) (h2 : r ≠ 2) (h7 : r ≠ 7) : outS F g a n r = g r := by
  unfold outS
  split
  · unfold putS
    rw [gu_o h0]
    split
    · rfl
    · rw [gu_o h7]
  · split
    · rw [gu_o h0]
    · split
      · unfold diskS
        split
        · rw [gr_o h1]
        · rw [gr_o h2]
      · rfl
theorem own_sup {F : Nat} {g : GS} {w nx cn : Int32} (hV : GInv F g) (h14 : ¬ g 0 14 < 0) (n21 : opc w = 21 → ¬ numS w < 0 ∧ numS w ≤ 9) (n22 : opc w = 22 → ¬ numS w < 0 ∧ numS w ≤ 8) (hcn : cn = g 4 8 + 1) :
    (supS F g w nx cn).2.1 = 0 ∧ gu (gu (supS F g w nx cn).1 0 2 (supS F g w nx cn).2.2.2.1) 4 8 (supS F g w nx cn).2.2.2.2 =
      gu (gu (ownS F g (opc w) (fD w) (g 3 (fA w)) (numS w)) 0 2 (if opc w = 23 then g 4 2 else nx)) 4 8 (if (opc w = 26 ∧ timeUpv (g 4 8) (g 4 6) = 0 ∧ g 0 14 = 0 ∧ ¬ g 4 6 = 0) then ownS F g (opc w) (fD w) (g 3 (fA w)) (numS w) 4 6 else ownS F g (opc w) (fD w) (g 3 (fA w)) (numS w) 4 8 + 1) := by
  have nsk : ¬ opc w = 26 → ¬ (opc w = 26 ∧ timeUpv (g 4 8) (g 4 6) = 0 ∧ g 0 14 = 0 ∧ ¬ g 4 6 = 0) := fun h q => h q.1
  by_cases e21 : opc w = 21
  · obtain ⟨a0, a9⟩ := n21 e21
    have es : supS F g w nx cn = (gu g 3 (fD w) (g 4 (numS w).toNatClampNeg), 0, 0, nx, cn) := by
      unfold supS rcS
      rw [if_pos e21, if_neg (fun q => q.elim a0 (fun q => q (Int32.lt_of_le_of_lt a9 (by decide))))]
    have eo : ownS F g (opc w) (fD w) (g 3 (fA w)) (numS w) = gu g 3 (fD w) (g 4 (numS w).toNatClampNeg) := by
      unfold ownS
      rw [if_pos e21]
      by_cases c : numS w = 9
      · rw [if_pos c, c, ← hV.2.2.1]; rfl
      · rw [if_neg c]
    rw [es, eo, if_neg (fun q => absurd (e21.symm.trans q) (by decide)), if_neg (nsk (fun q => absurd (e21.symm.trans q) (by decide))), gu_o (show (4 : Nat) ≠ 3 by decide), hcn]
    exact ⟨rfl, by dsimp only⟩
  by_cases e22 : opc w = 22
  · obtain ⟨a0, a8⟩ := n22 e22
    have n23 : ¬ opc w = 23 := fun q => absurd (e22.symm.trans q) (by decide)
    have n26 : ¬ opc w = 26 := fun q => absurd (e22.symm.trans q) (by decide)
    have hn9 : ¬ (numS w < 0 ∨ ¬ numS w < 9) := fun q => q.elim a0 (fun q => q (Int32.lt_of_le_of_lt a8 (by decide)))
    rw [if_neg n23, if_neg (nsk n26)]
    by_cases c8 : numS w = 8
    · have es : supS F g w nx cn = (g, 0, 0, nx, g 3 (fA w) + 1) := by
        unfold supS wcS
        rw [if_neg e21, if_pos e22, if_neg hn9, if_pos c8]
      have eo : ownS F g (opc w) (fD w) (g 3 (fA w)) (numS w) = gu g 4 8 (g 3 (fA w)) := by
        unfold ownS
        rw [if_neg e21, if_pos e22, c8, if_neg (by decide), if_neg (by decide)]
        rfl
      rw [es, eo, gu_s, upd_s]
      refine ⟨rfl, ?_⟩
      show gu (gu g 0 2 nx) 4 8 (g 3 (fA w) + 1) = _
      rw [gu_cm (r := 4) (r' := 0) (by decide), gu_gu]
    · have es : supS F g w nx cn = (if numS w = 5 then fillC (gu g 4 (numS w).toNatClampNeg (if numS w = 0 then g 3 (fA w) &&& 1799 else g 3 (fA w))) else gu g 4 (numS w).toNatClampNeg (if numS w = 0 then g 3 (fA w) &&& 1799 else g 3 (fA w)), 0, 0, nx, cn) := by
        unfold supS wcS
        rw [if_neg e21, if_pos e22, if_neg hn9, if_neg c8]
      have eo : ownS F g (opc w) (fD w) (g 3 (fA w)) (numS w) = if numS w = 5 then fillC (gu g 4 (numS w).toNatClampNeg (if numS w = 0 then g 3 (fA w) &&& 1799 else g 3 (fA w))) else gu g 4 (numS w).toNatClampNeg (if numS w = 0 then g 3 (fA w) &&& 1799 else g 3 (fA w)) := by
        unfold ownS
        rw [if_neg e21, if_pos e22]
      have k8 : (if numS w = 5 then fillC (gu g 4 (numS w).toNatClampNeg (if numS w = 0 then g 3 (fA w) &&& 1799 else g 3 (fA w))) else gu g 4 (numS w).toNatClampNeg (if numS w = 0 then g 3 (fA w) &&& 1799 else g 3 (fA w))) 4 8 = g 4 8 := by
        have : 8 ≠ (numS w).toNatClampNeg := by
          obtain ⟨j, hj, ej⟩ := nI_of a0
          rw [ej, nI_clamp hj]
          intro q
          exact c8 (by rw [ej, ← q]; rfl)
        split
        · unfold fillC; rw [gr_o (by decide), gu_s, upd_n this]
        · rw [gu_s, upd_n this]
      rw [es, eo, k8, hcn]
      exact ⟨rfl, by dsimp only⟩
  by_cases e23 : opc w = 23
  · have n26 : ¬ opc w = 26 := fun q => absurd (e23.symm.trans q) (by decide)
    have es : supS F g w nx cn = (leaveS g, 0, 0, g 4 2, cn) := by unfold supS; rw [if_neg e21, if_neg e22, if_pos e23]
    have eo : ownS F g (opc w) (fD w) (g 3 (fA w)) (numS w) = leaveS g := by unfold ownS; rw [if_neg e21, if_neg e22, if_pos e23]
    have k8 : leaveS g 4 8 = g 4 8 := by unfold leaveS; rw [gr_o (by decide), gu_s, upd_n (by decide)]
    rw [es, eo, k8, hcn, if_pos e23, if_neg (nsk n26)]
    exact ⟨rfl, by dsimp only⟩
  rw [if_neg e23]
  by_cases e24 : opc w = 24
  · have n26 : ¬ opc w = 26 := fun q => absurd (e24.symm.trans q) (by decide)
    have es : supS F g w nx cn = (fillC g, 0, 0, nx, cn) := by unfold supS; rw [if_neg e21, if_neg e22, if_neg e23, if_pos e24]
    have eo : ownS F g (opc w) (fD w) (g 3 (fA w)) (numS w) = fillC g := by unfold ownS; rw [if_neg e21, if_neg e22, if_neg e23, if_pos e24]
    have k8 : fillC g 4 8 = g 4 8 := by unfold fillC; rw [gr_o (by decide)]
    rw [es, eo, k8, hcn, if_neg (nsk n26)]
    exact ⟨rfl, by dsimp only⟩
  by_cases e25 : opc w = 25
  · have n26 : ¬ opc w = 26 := fun q => absurd (e25.symm.trans q) (by decide)
    have es : supS F g w nx cn = (gu g 5 (g 3 (fA w) &&& 255).toNatClampNeg (-1), 0, 0, nx, cn) := by unfold supS; rw [if_neg e21, if_neg e22, if_neg e23, if_neg e24, if_pos e25]
    have eo : ownS F g (opc w) (fD w) (g 3 (fA w)) (numS w) = gu g 5 (g 3 (fA w) &&& 255).toNatClampNeg (-1) := by unfold ownS; rw [if_neg e21, if_neg e22, if_neg e23, if_neg e24, if_pos e25]
    rw [es, eo, gu_o (show (4 : Nat) ≠ 5 by decide), hcn, if_neg (nsk n26)]
    exact ⟨rfl, by dsimp only⟩
  by_cases e26 : opc w = 26
  · have es : supS F g w nx cn = waitS g nx cn := by unfold supS; rw [if_neg e21, if_neg e22, if_neg e23, if_neg e24, if_neg e25, if_pos e26]
    have eo : ownS F g (opc w) (fD w) (g 3 (fA w)) (numS w) = if timeUpv (g 4 8) (g 4 6) = 0 ∧ g 0 14 = 0 ∧ g 4 6 = 0 then gu g 0 1 2 else g := by unfold ownS; rw [if_neg e21, if_neg e22, if_neg e23, if_neg e24, if_neg e25, if_pos e26]
    rw [es, eo]
    unfold waitS
    by_cases c1 : ¬ timeUpv (g 4 8) (g 4 6) = 0 ∨ ¬ g 0 14 ≤ 0
    · have c1' : ¬ (timeUpv (g 4 8) (g 4 6) = 0 ∧ g 0 14 = 0) := fun q => c1.elim (fun r => r q.1) (fun r => r (by rw [q.2]; decide))
      rw [if_pos c1, if_neg (fun q => c1' ⟨q.1, q.2.1⟩), if_neg (fun q : (opc w = 26 ∧ timeUpv (g 4 8) (g 4 6) = 0 ∧ g 0 14 = 0 ∧ ¬ g 4 6 = 0) => c1' ⟨q.2.1, q.2.2.1⟩), hcn]
      exact ⟨rfl, by dsimp only⟩
    · have t0 : timeUpv (g 4 8) (g 4 6) = 0 := Classical.not_not.mp (fun q => c1 (Or.inl q))
      have i0 : g 0 14 = 0 := Int32.le_antisymm (Classical.not_not.mp (fun q => c1 (Or.inr q))) (Int32.not_lt.mp h14)
      rw [if_neg c1]
      by_cases c6 : g 4 6 = 0
      · rw [if_neg (fun q => q c6), if_pos ⟨t0, i0, c6⟩, if_neg (fun q : (opc w = 26 ∧ timeUpv (g 4 8) (g 4 6) = 0 ∧ g 0 14 = 0 ∧ ¬ g 4 6 = 0) => q.2.2.2 c6), gu_o (show (4 : Nat) ≠ 0 by decide), hcn]
        exact ⟨rfl, by dsimp only⟩
      · rw [if_pos c6, if_neg (fun q => c6 q.2.2), if_pos (show (opc w = 26 ∧ timeUpv (g 4 8) (g 4 6) = 0 ∧ g 0 14 = 0 ∧ ¬ g 4 6 = 0) from ⟨e26, t0, i0, c6⟩)]
        exact ⟨rfl, by dsimp only⟩
  rw [if_neg (nsk e26)]
  by_cases e27 : opc w = 27
  · have es : supS F g w nx cn = (gu g 0 1 3, 0, 0, nx, cn) := by unfold supS; rw [if_neg e21, if_neg e22, if_neg e23, if_neg e24, if_neg e25, if_neg e26, if_pos e27]
    have eo : ownS F g (opc w) (fD w) (g 3 (fA w)) (numS w) = gu g 0 1 3 := by unfold ownS; rw [if_neg e21, if_neg e22, if_neg e23, if_neg e24, if_neg e25, if_neg e26, if_pos e27]
    rw [es, eo, gu_o (show (4 : Nat) ≠ 0 by decide), hcn]
    exact ⟨rfl, by dsimp only⟩
  by_cases e28 : opc w = 28
  · have es : supS F g w nx cn = (gu (inS g (numS w)).1 3 (fD w) (inS g (numS w)).2, 0, 0, nx, cn) := by unfold supS; rw [if_neg e21, if_neg e22, if_neg e23, if_neg e24, if_neg e25, if_neg e26, if_neg e27, if_pos e28]
    have eo : ownS F g (opc w) (fD w) (g 3 (fA w)) (numS w) = gu (inS g (numS w)).1 3 (fD w) (inS g (numS w)).2 := by unfold ownS; rw [if_neg e21, if_neg e22, if_neg e23, if_neg e24, if_neg e25, if_neg e26, if_neg e27, if_pos e28]
    rw [es, eo, gu_o (show (4 : Nat) ≠ 3 by decide), inS_o (show (4 : Nat) ≠ 0 by decide) (by decide), hcn]
    exact ⟨rfl, by dsimp only⟩
  · have es : supS F g w nx cn = (outS F g (g 3 (fA w)) (numS w), 0, 0, nx, cn) := by unfold supS; rw [if_neg e21, if_neg e22, if_neg e23, if_neg e24, if_neg e25, if_neg e26, if_neg e27, if_neg e28]
    have eo : ownS F g (opc w) (fD w) (g 3 (fA w)) (numS w) = outS F g (g 3 (fA w)) (numS w) := by unfold ownS; rw [if_neg e21, if_neg e22, if_neg e23, if_neg e24, if_neg e25, if_neg e26, if_neg e27, if_neg e28]
    rw [es, eo, outS_o (show (4 : Nat) ≠ 0 by decide) (by decide) (by decide) (by decide), hcn]
    refine ⟨rfl, ?_⟩
    dsimp only
