theorem GR_22 {Z : ZT} {i F : Nat} {g : GS} {f m : Nat → Int32} (hm : ∀ k, k < 1024 → f k = m k) (H : GR Z i F g) : GR (upr Z 22 i f) i F (gr g 2 m) := by
  obtain ⟨h0, h1, h2, h3, h4, h5, h6, h7⟩ := H
  refine ⟨?_, ?_, ?_, ?_, ?_, ?_, ?_, ?_⟩
  · rw [upr_k (by decide), gr_o (by decide)]; exact h0
  · intro a ha; rw [mw_upr (by decide) (by decide), gr_o (by decide)]; exact h1 a ha
  · rw [upr_s, gr_s]; exact hm
  · rw [upr_k (by decide), gr_o (by decide)]; exact h3
  · rw [upr_k (by decide), gr_o (by decide)]; exact h4
  · rw [upr_k (by decide), gr_o (by decide)]; exact h5
  · rw [upr_k (by decide), upr_k (by decide), gr_o (by decide)]; exact h6
  · rw [upr_k (by decide), upr_k (by decide), gr_o (by decide)]; exact h7
theorem SFp.hI {X X' : Sh} {Z Z' : ZT} {h i gp k n gp' : Nat} (S : SFp X Z h i gp X' Z' k n gp') : HI X' Z' h gp' := S.2.1
/-- a frame goes to the disk -/
theorem GR_save {X X' : Sh} {Z Z1 : ZT} {h gp k n i F fr : Nat} {g : GS} {a : Int32} (hM : HM X Z h gp X' Z1 k n (mw Z)) (L : GL X Z i F) (hfr : fr < F) (e4 : g 0 4 = nI fr) (h1 : ¬ a &&& 1 = 0) (H : GR Z i F g) : GR (upr Z1 22 i (svR Z i fr (secN (a >>> ((1 : Int32) &&& 31))))) i F (diskS g a) := by
  obtain ⟨hi, hF, -, hF1, hF64⟩ := L
  have H1 := GR_HMs hM hi hF H
  unfold diskS
  rw [if_neg h1, e4, nI_clamp (by omega)]
  refine GR_22 (fun k hk => ?_) H1
  unfold svR
  by_cases q : 64 * secN (a >>> ((1 : Int32) &&& 31)) ≤ k ∧ k < 64 * secN (a >>> ((1 : Int32) &&& 31)) + 64
  · rw [if_pos q, if_pos q, ← H.2.1 _ (by omega)]
    congr 1 <;> omega
  · rw [if_neg q, if_neg q]; exact H.2.2.1 k hk
/-- a frame comes from the disk -/
theorem GR_load {X X' : Sh} {Z Z1 : ZT} {h gp k n i F fr : Nat} {g : GS} {a : Int32} (hM : HM X Z h gp X' Z1 k n (fun j k w => if j = i ∧ k = fr then Z 22 i (64 * secN (a >>> ((1 : Int32) &&& 31)) + w) else mw Z j k w)) (L : GL X Z i F) (hfr : fr < F) (e4 : g 0 4 = nI fr) (h1 : a &&& 1 = 0) (H : GR Z i F g) : GR Z1 i F (diskS g a) := by
  obtain ⟨hi, hF, -, hF1, hF64⟩ := L
  have hs := (sec_nI (a >>> ((1 : Int32) &&& 31))).2
  unfold diskS
  rw [if_pos h1, e4, nI_clamp (by omega)]
  refine GR_HM hM hi hF _ (fun c hc => ?_) H
  show (if i = i ∧ c / 64 = fr then Z 22 i (64 * secN (a >>> ((1 : Int32) &&& 31)) + c % 64) else mw Z i (c / 64) (c % 64)) = if 64 * fr ≤ c ∧ c < 64 * fr + 64 then g 2 (64 * secN (a >>> ((1 : Int32) &&& 31)) + (c - 64 * fr)) else g 1 c
  by_cases q : 64 * fr ≤ c ∧ c < 64 * fr + 64
  · rw [if_pos ⟨rfl, by omega⟩, if_pos q, ← H.2.2.1 _ (by omega)]
    congr 1
    omega
  · rw [if_neg (fun p => q (by omega)), if_neg q]; exact H.2.1 c hc
