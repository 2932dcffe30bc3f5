/-- what always holds of a guest's machine -/
def GInv (F : Nat) (g : GS) : Prop :=
  (g 4 0 &&& 1799 = g 4 0) ∧ (g 0 3 = 0 ∨ g 0 3 = 1) ∧ g 4 9 = nI F ∧
  (∀ p, p < 256 → g 5 p = -1 ∨ ∃ e, e < 8 * F ∧ g 5 p = nI e ∧ g 4 5 < 0 ∧ ¬ hasWv (nI F) (64 * (g 4 5 &&& 63) + nI p) = 0)
theorem GR_write {X X' : Sh} {Z Z' : ZT} {h gp k n i F t : Nat} {g : GS} {a b : Int32} (hM : HM X Z h gp X' Z' k n (fun j k w => if hasWv (nI F) a ≠ 0 ∧ j = i ∧ k = a.toNatClampNeg / 64 ∧ w = a.toNatClampNeg % 64 then b else mw Z j k w)) (L : GL X Z i F) (ht : t < 64 * F) (ha : a = nI t) (H : GR Z i F g) : GR Z' i F (gu g 1 t b) := by
  obtain ⟨hi, hF, -, hF1, hF64⟩ := L
  subst ha
  refine GR_HM hM hi hF (upd (g 1) t b) (fun c hc => ?_) H
  show (if hasWv (nI F) (nI t) ≠ 0 ∧ i = i ∧ c / 64 = (nI t).toNatClampNeg / 64 ∧ c % 64 = (nI t).toNatClampNeg % 64 then b else mw Z i (c / 64) (c % 64)) = upd (g 1) t b c
  rw [nI_clamp (by omega), hasWv_nI hF64 ht]
  by_cases e : c = t
  · subst e
    rw [if_pos ⟨by decide, rfl, rfl, rfl⟩, upd_s]
  · rw [if_neg (fun q => e (by omega)), upd_n e]
    exact H.2.1 c hc
theorem SFp.ofW {X X' : Sh} {Z Z' : ZT} {h i gp k n F : Nat} {a b : Int32} (hM : HM X Z h gp X' Z' k n (fun j k w => if hasWv (nI F) a ≠ 0 ∧ j = i ∧ k = a.toNatClampNeg / 64 ∧ w = a.toNatClampNeg % 64 then b else mw Z j k w)) : ∃ gp', SFp X Z h i gp X' Z' k n gp' :=
  SFp.ofHM hM (fun j k w hne => by
    show (if hasWv (nI F) a ≠ 0 ∧ j = i ∧ k = a.toNatClampNeg / 64 ∧ w = a.toNatClampNeg % 64 then b else mw Z j k w) = mw Z j k w
    rw [if_neg (fun q => hne q.2.1)])
theorem rdv_g {Z : ZT} {i F t : Nat} {g : GS} (hF : F ≤ 64) (ht : t < 64 * F) (H : GR Z i F g) : rdv Z i F (nI t) = g 1 t := by
  rw [rdv_nI hF ht]
  exact H.2.1 t ht
theorem HM.r12 {X X' : Sh} {Z Z' : ZT} {h gp k n : Nat} {M' : Nat → Nat → Nat → Int32} (hM : HM X Z h gp X' Z' k n M') : Z' 12 0 = Z 12 0 := by
  obtain ⟨V, gp', rfl, -, -, -, -, e6⟩ := hM
  exact e6 12 0 (by omega) (by decide)
theorem page_of {a : Int32} (h0 : ¬ a < 0) (h1 : a < 16384) : ∃ p, p < 256 ∧ a >>> ((6 : Int32) &&& 31) = nI p := by
  obtain ⟨n, hn, rfl⟩ := nI_of h0
  have hn2 : n < 16384 := (nI_ltI hn (by decide)).mp (show nI n < nI 16384 from h1)
  exact ⟨n / 64, by omega, shr6 hn⟩
