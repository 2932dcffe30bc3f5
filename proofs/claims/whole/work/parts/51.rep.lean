/-! ===== guest i of the class shows the machine g ===== -/
def GR (Z : ZT) (i F : Nat) (g : GS) : Prop :=
  (Z 20 i 1 = g 0 1 ∧ Z 20 i 2 = g 0 2 ∧ Z 20 i 3 = g 0 3 ∧ Z 20 i 4 = g 0 4 ∧ Z 20 i 5 = g 0 5 ∧ Z 20 i 14 = g 0 14 ∧ Z 20 i 16 = g 0 16) ∧
  (∀ a, a < 64 * F → mw Z i (a / 64) (a % 64) = g 1 a) ∧ (∀ k, k < 1024 → Z 22 i k = g 2 k) ∧ (∀ k, k < 8 → Z 23 i k = g 3 k) ∧ (∀ k, k < 10 → Z 24 i k = g 4 k) ∧ (∀ k, k < 256 → Z 25 i k = g 5 k) ∧
  (∃ o w, o < 64 ∧ w ≤ 64 ∧ Z 20 i 13 = nI o ∧ Z 20 i 14 = nI w ∧ ∀ j, j < w → Z 26 i ((o + j) % 64) = g 6 j) ∧ (∀ j, j < 1000 → nI j < Z 20 i 16 → Z 27 i j = g 7 j)
theorem mw_rows {Z Z' : ZT} {j k w : Nat} (r3 : Z' 3 0 = Z 3 0) (r4 : Z' 4 0 = Z 4 0) (r8 : Z' 8 0 = Z 8 0) (r21 : Z' 21 j = Z 21 j) : mw Z' j k w = mw Z j k w := by
  unfold mw
  rw [r21, scn_rows r3 r4 r8]
theorem mw_upr {Z : ZT} {c b j k w : Nat} {f : Nat → Int32} (h : 12 ≤ c) (h2 : c ≠ 21) : mw (upr Z c b f) j k w = mw Z j k w := mw_rows (upr_k (by omega)) (upr_k (by omega)) (upr_k (by omega)) (upr_k (by omega))
theorem gu_s {g : GS} {r k : Nat} {v : Int32} : gu g r k v r = upd (g r) k v := by unfold gu; rw [if_pos rfl]
theorem gu_o {g : GS} {r k r' : Nat} {v : Int32} (h : r' ≠ r) : gu g r k v r' = g r' := by unfold gu; rw [if_neg h]
theorem gr_s {g : GS} {r : Nat} {f : Nat → Int32} : gr g r f r = f := by unfold gr; rw [if_pos rfl]
theorem gr_o {g : GS} {r r' : Nat} {f : Nat → Int32} (h : r' ≠ r) : gr g r f r' = g r' := by unfold gr; rw [if_neg h]
theorem upd_eq {f g : Nat → Int32} {n d : Nat} {x : Int32} (h : ∀ k, k < n → f k = g k) : ∀ k, k < n → upd f d x k = upd g d x k := fun k hk => by
  by_cases q : k = d
  · subst q; rw [upd_s, upd_s]
  · rw [upd_n q, upd_n q]; exact h k hk
theorem GR_23 {Z : ZT} {i F d : Nat} {g : GS} {x : Int32} (H : GR Z i F g) : GR (upr Z 23 i (upd (Z 23 i) d x)) i F (gu g 3 d x) := by
  obtain ⟨h0, h1, h2, h3, h4, h5, h6, h7⟩ := H
  refine ⟨?_, ?_, ?_, ?_, ?_, ?_, ?_, ?_⟩
  · rw [upr_k (by decide), gu_o (by decide)]; exact h0
  · intro a ha; rw [mw_upr (by decide) (by decide), gu_o (by decide)]; exact h1 a ha
  · rw [upr_k (by decide), gu_o (by decide)]; exact h2
  · rw [upr_s, gu_s]; exact upd_eq h3
  · rw [upr_k (by decide), gu_o (by decide)]; exact h4
  · rw [upr_k (by decide), gu_o (by decide)]; exact h5
  · rw [upr_k (by decide), upr_k (by decide), gu_o (by decide)]; exact h6
  · rw [upr_k (by decide), upr_k (by decide), gu_o (by decide)]; exact h7
theorem GR_24 {Z : ZT} {i F d : Nat} {g : GS} {x : Int32} (H : GR Z i F g) : GR (upr Z 24 i (upd (Z 24 i) d x)) i F (gu g 4 d x) := by
  obtain ⟨h0, h1, h2, h3, h4, h5, h6, h7⟩ := H
  refine ⟨?_, ?_, ?_, ?_, ?_, ?_, ?_, ?_⟩
  · rw [upr_k (by decide), gu_o (by decide)]; exact h0
  · intro a ha; rw [mw_upr (by decide) (by decide), gu_o (by decide)]; exact h1 a ha
  · rw [upr_k (by decide), gu_o (by decide)]; exact h2
  · rw [upr_k (by decide), gu_o (by decide)]; exact h3
  · rw [upr_s, gu_s]; exact upd_eq h4
  · rw [upr_k (by decide), gu_o (by decide)]; exact h5
  · rw [upr_k (by decide), upr_k (by decide), gu_o (by decide)]; exact h6
  · rw [upr_k (by decide), upr_k (by decide), gu_o (by decide)]; exact h7
theorem GR_25 {Z : ZT} {i F d : Nat} {g : GS} {x : Int32} (H : GR Z i F g) : GR (upr Z 25 i (upd (Z 25 i) d x)) i F (gu g 5 d x) := by
  obtain ⟨h0, h1, h2, h3, h4, h5, h6, h7⟩ := H
  refine ⟨?_, ?_, ?_, ?_, ?_, ?_, ?_, ?_⟩
  · rw [upr_k (by decide), gu_o (by decide)]; exact h0
  · intro a ha; rw [mw_upr (by decide) (by decide), gu_o (by decide)]; exact h1 a ha
  · rw [upr_k (by decide), gu_o (by decide)]; exact h2
  · rw [upr_k (by decide), gu_o (by decide)]; exact h3
  · rw [upr_k (by decide), gu_o (by decide)]; exact h4
  · rw [upr_s, gu_s]; exact upd_eq h5
  · rw [upr_k (by decide), upr_k (by decide), gu_o (by decide)]; exact h6
  · rw [upr_k (by decide), upr_k (by decide), gu_o (by decide)]; exact h7
theorem GR_25f {Z : ZT} {i F : Nat} {g : GS} (H : GR Z i F g) : GR (upr Z 25 i (fillR 256 (-1) (Z 25 i))) i F (gr g 5 (fillR 256 (-1) (g 5))) := by
  obtain ⟨h0, h1, h2, h3, h4, h5, h6, h7⟩ := H
  refine ⟨?_, ?_, ?_, ?_, ?_, ?_, ?_, ?_⟩
  · rw [upr_k (by decide), gr_o (by decide)]; exact h0
  · intro a ha; rw [mw_upr (by decide) (by decide), gr_o (by decide)]; exact h1 a ha
  · rw [upr_k (by decide), gr_o (by decide)]; exact h2
  · rw [upr_k (by decide), gr_o (by decide)]; exact h3
  · rw [upr_k (by decide), gr_o (by decide)]; exact h4
  · rw [upr_s, gr_s]; intro k hk; unfold fillR; rw [if_pos hk, if_pos hk]
  · rw [upr_k (by decide), upr_k (by decide), gr_o (by decide)]; exact h6
  · rw [upr_k (by decide), upr_k (by decide), gr_o (by decide)]; exact h7
/-- phase, pc, mode, place or traps -/
theorem GR_20 {Z : ZT} {i F d : Nat} {g : GS} {x : Int32} (hd : 1 ≤ d ∧ d ≤ 5) (H : GR Z i F g) : GR (upr Z 20 i (upd (Z 20 i) d x)) i F (gu g 0 d x) := by
  obtain ⟨⟨a1, a2, a3, a4, a5, a6, a7⟩, h1, h2, h3, h4, h5, h6, h7⟩ := H
  have e : ∀ k, Z 20 i k = g 0 k → upd (Z 20 i) d x k = upd (g 0) d x k := fun k q => by
    by_cases p : k = d
    · subst p; rw [upd_s, upd_s]
    · rw [upd_n p, upd_n p]; exact q
  refine ⟨?_, ?_, ?_, ?_, ?_, ?_, ?_, ?_⟩
  · rw [upr_s, gu_s]
    exact ⟨e 1 a1, e 2 a2, e 3 a3, e 4 a4, e 5 a5, e 14 a6, e 16 a7⟩
  · intro a ha; rw [mw_upr (by decide) (by decide), gu_o (by decide)]; exact h1 a ha
  · rw [upr_k (by decide), gu_o (by decide)]; exact h2
  · rw [upr_k (by decide), gu_o (by decide)]; exact h3
  · rw [upr_k (by decide), gu_o (by decide)]; exact h4
  · rw [upr_k (by decide), gu_o (by decide)]; exact h5
  · rw [upr_s, upr_k (by decide), gu_o (by decide), upd_n (by omega), upd_n (by omega)]; exact h6
  · rw [upr_s, upr_k (by decide), gu_o (by decide), upd_n (by omega)]; exact h7
theorem GR_12 {Z : ZT} {i F : Nat} {g : GS} {f : Nat → Int32} (H : GR Z i F g) : GR (upr Z 12 0 f) i F g := by
  obtain ⟨h0, h1, h2, h3, h4, h5, h6, h7⟩ := H
  have z : ∀ c b, c ≠ 12 → upr Z 12 0 f c b = Z c b := fun c b q => upr_k q
  refine ⟨?_, ?_, ?_, ?_, ?_, ?_, ?_, ?_⟩
  · rw [z 20 i (by decide)]; exact h0
  · intro a ha; rw [mw_upr (by decide) (by decide)]; exact h1 a ha
  · rw [z 22 i (by decide)]; exact h2
  · rw [z 23 i (by decide)]; exact h3
  · rw [z 24 i (by decide)]; exact h4
  · rw [z 25 i (by decide)]; exact h5
  · rw [z 20 i (by decide), z 26 i (by decide)]; exact h6
  · rw [z 20 i (by decide), z 27 i (by decide)]; exact h7
/-- the host has moved -/
theorem GR_HM {X X' : Sh} {Z Z' : ZT} {h gp k n i F : Nat} {g : GS} {M' : Nat → Nat → Nat → Int32} (hM : HM X Z h gp X' Z' k n M') (hi : i < 8) (hF : gfr X Z i = F) (m : Nat → Int32) (hm : ∀ a, a < 64 * F → M' i (a / 64) (a % 64) = m a) (H : GR Z i F g) : GR Z' i F (gr g 1 m) := by
  obtain ⟨V, gp', rfl, -, -, -, e5, e6⟩ := hM
  obtain ⟨h0, h1, h2, h3, h4, h5, h6, h7⟩ := H
  have z : ∀ c, 20 ≤ c → c ≠ 21 → Z' c i = Z c i := fun c q1 q2 => e6 c i (by omega) q2
  refine ⟨?_, ?_, ?_, ?_, ?_, ?_, ?_, ?_⟩
  · rw [z 20 (by decide) (by decide), gr_o (by decide)]; exact h0
  · intro a ha; rw [gr_s, e5 i _ _ hi (by rw [hF]; omega) (by omega)]; exact hm a ha
  · rw [z 22 (by decide) (by decide), gr_o (by decide)]; exact h2
  · rw [z 23 (by decide) (by decide), gr_o (by decide)]; exact h3
  · rw [z 24 (by decide) (by decide), gr_o (by decide)]; exact h4
  · rw [z 25 (by decide) (by decide), gr_o (by decide)]; exact h5
  · rw [z 20 (by decide) (by decide), z 26 (by decide) (by decide), gr_o (by decide)]; exact h6
  · rw [z 20 (by decide) (by decide), z 27 (by decide) (by decide), gr_o (by decide)]; exact h7
theorem gr_id {g : GS} {r : Nat} : gr g r (g r) = g := by
  funext r'
  unfold gr
  split
  · rename_i e; rw [e]
  · rfl
theorem GR_HMs {X X' : Sh} {Z Z' : ZT} {h gp k n i F : Nat} {g : GS} (hM : HM X Z h gp X' Z' k n (mw Z)) (hi : i < 8) (hF : gfr X Z i = F) (H : GR Z i F g) : GR Z' i F g := by
  have := GR_HM hM hi hF (g 1) (fun a ha => H.2.1 a ha) H
  rw [gr_id] at this
  exact this
/-- the host's state does not hang on other rows -/
theorem HI_rows {X : Sh} {Z Z' : ZT} {h gp : Nat} (H : HI X Z h gp) (r : ∀ c, 2 ≤ c → c ≤ 10 → Z' c 0 = Z c 0) (r21 : ∀ j, Z' 21 j = Z 21 j) (r20 : ∀ j, Z' 20 j 0 = Z 20 j 0 ∧ Z' 20 j 6 = Z 20 j 6) : HI X Z' h gp := by
  obtain ⟨o, hd, g3, g4, fc, hA, hB, hg⟩ := H
  have hgf : ∀ j, gfr X Z' j = gfr X Z j := fun j => by unfold gfr; rw [(r20 j).1, (r20 j).2]
  have hcn : ∀ s, cnt X Z' s = cnt X Z s := fun s => cnt_same (fun j _ => hgf j) (fun j k _ _ => by rw [r21])
  refine ⟨o, hd, g3, g4, fc, hA.rows (fun j _ => by rw [r 2 (by decide) (by decide)]) (r 3 (by decide) (by decide)) (r 4 (by decide) (by decide)) (r 5 (by decide) (by decide)) (r 8 (by decide) (by decide)) (r 9 (by decide) (by decide)), ?_, hg⟩
  exact hB.c.to (fun s _ => hcn s) rfl (r 7 (by decide) (by decide)) (r 8 (by decide) (by decide)) (r 10 (by decide) (by decide)) (by rw [r 2 (by decide) (by decide)]) (fun j k hj hk => by rw [r21]; exact hB.2.1 j k hj (by rw [← hgf]; exact hk)) (fun j hj => by rw [hgf]; exact hB.2.2.1 j hj)
/-- a step's own: guest i, the processor's notes, the host; all else stays -/
def SFp (X : Sh) (Z : ZT) (h i gp : Nat) (X' : Sh) (Z' : ZT) (k n gp' : Nat) : Prop :=
  (∃ V, X' = (X.1, V, X.2.2)) ∧ HI X' Z' h gp' ∧ k + gp' ≤ gp ∧ n ≤ 32832 * k ∧ (∀ j k w, j < 8 → j ≠ i → k < gfr X Z j → w < 64 → mw Z' j k w = mw Z j k w) ∧
  (∀ c i', ¬ (i' = 0 ∧ 2 ≤ c ∧ c ≤ 10) → c ≠ 21 → ¬ (i' = i ∧ 20 ≤ c ∧ c ≤ 27) → ¬ (c = 12 ∧ i' = 0) → Z' c i' = Z c i') ∧ Z' 20 i 0 = Z 20 i 0 ∧ Z' 20 i 6 = Z 20 i 6
theorem SFp.gf {X X' : Sh} {Z Z' : ZT} {h i gp k n gp' : Nat} (S : SFp X Z h i gp X' Z' k n gp') (j : Nat) : gfr X' Z' j = gfr X Z j := by
  obtain ⟨⟨V, rfl⟩, -, -, -, -, r, r0, r6⟩ := S
  by_cases e : j = i
  · subst e
    unfold gfr
    rw [r0, r6]
  · exact gfr_same rfl (r 20 j (by omega) (by decide) (by omega) (by omega))
theorem SFp.refl {X : Sh} {Z : ZT} {h i gp : Nat} (H : HI X Z h gp) : SFp X Z h i gp X Z 0 0 gp := ⟨⟨X.2.1, rfl⟩, H, by omega, by omega, fun _ _ _ _ _ _ _ => rfl, fun _ _ _ _ _ _ => rfl, rfl, rfl⟩
theorem SFp.trans {X X1 X2 : Sh} {Z Z1 Z2 : ZT} {h i gp k1 n1 gp1 k2 n2 gp2 : Nat} (S : SFp X Z h i gp X1 Z1 k1 n1 gp1) (T : SFp X1 Z1 h i gp1 X2 Z2 k2 n2 gp2) : SFp X Z h i gp X2 Z2 (k1 + k2) (n1 + n2) gp2 := by
  have hg := S.gf
  obtain ⟨⟨V, rfl⟩, -, s2, s3, s4, s5, s6, s7⟩ := S
  obtain ⟨⟨V2, rfl⟩, t1, t2, t3, t4, t5, t6, t7⟩ := T
  refine ⟨⟨V2, rfl⟩, t1, by omega, by omega, fun j k w hj hne hk hw => ?_, fun c i' q1 q2 q3 q4 => ?_, by rw [t6, s6], by rw [t7, s7]⟩
  · rw [t4 j k w hj hne (by rw [hg]; exact hk) hw]; exact s4 j k w hj hne hk hw
  · rw [t5 c i' q1 q2 q3 q4]; exact s5 c i' q1 q2 q3 q4
/-- a row of the guest's own, or the processor's notes -/
theorem SFp.ofU {X : Sh} {Z : ZT} {h i gp c b : Nat} {f : Nat → Int32} (H : HI X Z h gp) (hc : (b = i ∧ 22 ≤ c ∧ c ≤ 27) ∨ (c = 12 ∧ b = 0) ∨ (c = 20 ∧ b = i ∧ f 0 = Z 20 i 0 ∧ f 6 = Z 20 i 6)) : SFp X Z h i gp X (upr Z c b f) 0 0 gp := by
  have h12 : 12 ≤ c ∧ c ≠ 21 := by omega
  have z : ∀ j, (upr Z c b f) 20 j 0 = Z 20 j 0 ∧ (upr Z c b f) 20 j 6 = Z 20 j 6 := fun j => by
    by_cases e : 20 = c ∧ j = b
    · obtain ⟨rfl, rfl⟩ := e
      rw [upr_s]
      rcases hc with q | q | ⟨-, rfl, q1, q2⟩
      · omega
      · omega
      · exact ⟨q1, q2⟩
    · rw [upr_n e]; exact ⟨rfl, rfl⟩
  refine ⟨⟨X.2.1, rfl⟩, HI_rows H (fun c' q1 q2 => upr_k (by omega)) (fun j => upr_k (by omega)) z, by omega, by omega, fun j k w _ _ _ _ => mw_upr h12.1 h12.2, fun c' i' q1 q2 q3 q4 => upr_n (fun q => ?_), (z i).1, (z i).2⟩
  obtain ⟨rfl, rfl⟩ := q
  rcases hc with q | q | q
  · exact q3 (by omega)
  · exact q4 q
  · exact q3 (by omega)
theorem SFp.ofHM {X X' : Sh} {Z Z' : ZT} {h i gp k n : Nat} {M' : Nat → Nat → Nat → Int32} (hM : HM X Z h gp X' Z' k n M') (hm : ∀ j k w, j ≠ i → M' j k w = mw Z j k w) : ∃ gp', SFp X Z h i gp X' Z' k n gp' := by
  obtain ⟨V, gp', rfl, e2, e3, e4, e5, e6⟩ := hM
  refine ⟨gp', ⟨V, rfl⟩, e2, e3, e4, fun j k w hj hne hk hw => by rw [e5 j k w hj hk hw, hm j k w hne], fun c i' q1 q2 _ _ => e6 c i' q1 q2, ?_, ?_⟩
  · rw [e6 20 i (by omega) (by decide)]
  · rw [e6 20 i (by omega) (by decide)]
theorem SFp.gl {X X' : Sh} {Z Z' : ZT} {h i gp k n gp' F : Nat} (S : SFp X Z h i gp X' Z' k n gp') (L : GL X Z i F) : GL X' Z' i F := by
  have hg := S.gf i
  obtain ⟨-, -, -, -, -, -, -, r6⟩ := S
  obtain ⟨l1, l2, l3, l4, l5⟩ := L
  exact ⟨l1, by rw [hg]; exact l2, by rw [r6]; exact l3, l4, l5⟩
