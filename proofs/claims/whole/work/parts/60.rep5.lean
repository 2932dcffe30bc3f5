theorem GR_trap {Z : ZT} {i F : Nat} {g : GS} {a b : Int32} (H : GR Z i F g) : GR (upr (upr Z 24 i (upd (upd (upd (upd (Z 24 i) 0 ((Z 24 i 0 &&& 1792) ||| ((if Z 24 i 0 &&& 1 = 0 then 0 else 2) ||| (if Z 20 i 3 = 0 then 0 else 4)))) 1 a) 2 (Z 20 i 2)) 3 b)) 20 i (upd (upd (upd (Z 20 i) 3 1) 2 (Z 24 i 4)) 5 (Z 20 i 5 + 1))) i F (trapS g a b) := by
  obtain ⟨⟨a1, a2, a3, a4, a5, a6, a7⟩, h1, h2, h3, h4, h5, h6, h7⟩ := H
  unfold trapS
  rw [h4 0 (by decide), h4 4 (by decide), a3, a2, a5]
  refine ⟨?_, ?_, ?_, ?_, ?_, ?_, ?_, ?_⟩
  · rw [upr_s, gr_s]
    refine ⟨?_, ?_, ?_, ?_, ?_, ?_, ?_⟩
    · rw [upd_n (by decide), upd_n (by decide), upd_n (by decide), upd_n (by decide), upd_n (by decide), upd_n (by decide)]; exact a1
    · rw [upd_n (by decide), upd_s, upd_n (by decide), upd_s]
    · rw [upd_n (by decide), upd_n (by decide), upd_s, upd_n (by decide), upd_n (by decide), upd_s]
    · rw [upd_n (by decide), upd_n (by decide), upd_n (by decide), upd_n (by decide), upd_n (by decide), upd_n (by decide)]; exact a4
    · rw [upd_s, upd_s]
    · rw [upd_n (by decide), upd_n (by decide), upd_n (by decide), upd_n (by decide), upd_n (by decide), upd_n (by decide)]; exact a6
    · rw [upd_n (by decide), upd_n (by decide), upd_n (by decide), upd_n (by decide), upd_n (by decide), upd_n (by decide)]; exact a7
  · intro c hc; rw [mw_upr (by decide) (by decide), mw_upr (by decide) (by decide), gr_o (by decide), gr_o (by decide)]; exact h1 c hc
  · rw [upr_k (by decide), upr_k (by decide), gr_o (by decide), gr_o (by decide)]; exact h2
  · rw [upr_k (by decide), upr_k (by decide), gr_o (by decide), gr_o (by decide)]; exact h3
  · rw [upr_k (by decide), upr_s, gr_o (by decide), gr_s]; exact upd_eq (upd_eq (upd_eq (upd_eq h4)))
  · rw [upr_k (by decide), upr_k (by decide), gr_o (by decide), gr_o (by decide)]; exact h5
  · rw [upr_s, upr_k (by decide), upr_k (by decide), gr_o (by decide), gr_o (by decide), upd_n (by decide), upd_n (by decide), upd_n (by decide), upd_n (by decide), upd_n (by decide), upd_n (by decide)]; exact h6
  · rw [upr_s, upr_k (by decide), upr_k (by decide), gr_o (by decide), gr_o (by decide), upd_n (by decide), upd_n (by decide), upd_n (by decide)]; exact h7
theorem rowE_fin {z : Nat → Int32} {r : ER} (h : z 1 = 0) : (if rowE z r 1 = 0 then gu (gu r.1 0 2 (rowE z r 3)) 4 8 (rowE z r 4) else trapS r.1 (rowE z r 1) (rowE z r 2)) = finS r := by
  unfold rowE finS
  by_cases q : r.2.1 = 0
  · rw [if_pos q, if_pos q, upd_n (show (1 : Nat) ≠ 4 by decide), upd_n (show (1 : Nat) ≠ 3 by decide), h, if_pos rfl, upd_n (show (3 : Nat) ≠ 4 by decide), upd_s, upd_s]
  · rw [if_neg q, if_neg q, upd_n (show (1 : Nat) ≠ 2 by decide), upd_s, if_neg q, upd_s]
theorem rowE_use {z : Nat → Int32} {g : GS} {t b : Int32} : (if t = 0 then z else upd (upd z 1 t) 2 b) = rowE z (g, t, b, z 3, z 4) := by
  unfold rowE
  by_cases q : t = 0
  · rw [if_pos q, if_pos q, upd_id, upd_id]
  · rw [if_neg q, if_neg q]
theorem rowE_jump {z : Nat → Int32} {g : GS} {x : Int32} : upd z 3 x = rowE z (g, 0, 0, x, z 4) := by
  unfold rowE
  rw [if_pos rfl]
  have : z 4 = upd z 3 x 4 := by rw [upd_n (by decide)]
  show upd z 3 x = upd (upd z 3 x) 4 (z 4)
  rw [this, upd_id]
theorem leaveS_eq {g : GS} : leaveS g = gu (gu g 4 0 (((g 4 0 &&& 1792) ||| 2) ||| (if g 4 0 &&& 2 = 0 then 0 else 1))) 0 3 (if g 4 0 &&& 4 = 0 then 0 else 1) := rfl
