/-! ===== the class's house shows S ===== -/
def CRx (X : Sh) : Prop := HXI X ∧ (HUI X ∧ ∀ c i, 20 ≤ c → c ≤ 27 → (c, i) ∈ X.2.2.2 → X.2.2.1 i = true) ∧ ∀ i, i < 8 → X.2.2.1 i = true → GI X i
def CR (X : Sh) (Z : ZT) (S : HS) (h gp : Nat) : Prop :=
  HI X Z h gp ∧ (Z 0 0 3 = S.2.2 0 ∧ Z 0 0 4 = S.2.2 1 ∧ Z 0 0 5 = S.2.2 2 ∧ Z 0 0 6 = S.2.2 3) ∧
  ∀ i, i < 8 → (S.1 i = 0 → ¬ (X.2.2.1 i = true ∧ Z 20 i 0 ≠ 0)) ∧ (S.1 i ≠ 0 → X.2.2.1 i = true ∧ Z 20 i 0 = 1 ∧ Z 20 i 6 = nI (S.1 i) ∧ GR Z i (S.1 i) (S.2.1 i))
def unm (X : Sh) : Nat := sumN 8 (fun i => if X.2.2.1 i = true then 0 else 1)
def KX (X X' : Sh) : Prop := (∀ c i, c < 20 ∨ 30 ≤ c → X'.1 c i = X.1 c i) ∧ (∀ i, X'.2.2.1 (100 + i) = X.2.2.1 (100 + i)) ∧ (∀ r, r ∈ X.2.2.2 → r ∈ X'.2.2.2)
theorem KX.refl {X : Sh} : KX X X := ⟨fun _ _ _ => rfl, fun _ => rfl, fun _ h => h⟩
theorem KX.trans {X X1 X2 : Sh} (h : KX X X1) (k : KX X1 X2) : KX X X2 := ⟨fun c i q => (k.1 c i q).trans (h.1 c i q), fun i => (k.2.1 i).trans (h.2.1 i), fun r q => k.2.2 r (h.2.2 r q)⟩
theorem KX.mr {X X' : Sh} (h : KX X X') (H : MRx X) : MRx X' := ⟨fun c a b => h.2.2 _ (H.1 c a b), fun i hi c a b => h.2.2 _ (H.2.1 i hi c a b), fun i hi => by rw [h.2.1]; exact H.2.2 i hi⟩
/-- the post of a call on the class's house -/
def CPo (X : Sh) (Z : ZT) (Y : va_W) (gp : Nat) (S' : HS) (v0 : Int32) : Sh → ZT → va_W → Option Value → Nat → Nat → Prop := fun X' Z' Y' v k n =>
  Y = Y' ∧ v = some (.int v0) ∧ ∃ h' gp', CRx X' ∧ CR X' Z' S' h' gp' ∧ k + gp' + 8 * unm X' ≤ gp + 8 * unm X ∧ n ≤ 32832 * k ∧ KX X X' ∧ ∀ c i, 30 ≤ c → Z' c i = Z c i
theorem CPo_z {X : Sh} {Z Z' : ZT} {Y : va_W} {gp h : Nat} {S' : HS} {v0 x : Int32} (hX : CRx X) (H : CR X Z' S' h gp) (r : ∀ c i, 30 ≤ c → Z' c i = Z c i) (e : x = v0) : CPo X Z Y gp S' v0 X Z' Y (some (.int x)) 0 0 :=
  ⟨rfl, by rw [e], h, gp, hX, H, by omega, by omega, KX.refl, r⟩
theorem GR_rows {Z Z' : ZT} {i F : Nat} {g : GS} (r : ∀ c, 20 ≤ c → c ≤ 27 → c ≠ 21 → Z' c i = Z c i) (hm : ∀ k w, k < F → w < 64 → mw Z' i k w = mw Z i k w) (H : GR Z i F g) : GR Z' i F g := by
  obtain ⟨h0, h1, h2, h3, h4, h5, h6, h7⟩ := H
  refine ⟨?_, ?_, ?_, ?_, ?_, ?_, ?_, ?_⟩
  · rw [r 20 (by decide) (by decide) (by decide)]; exact h0
  · intro a ha; rw [hm _ _ (by omega) (by omega)]; exact h1 a ha
  · rw [r 22 (by decide) (by decide) (by decide)]; exact h2
  · rw [r 23 (by decide) (by decide) (by decide)]; exact h3
  · rw [r 24 (by decide) (by decide) (by decide)]; exact h4
  · rw [r 25 (by decide) (by decide) (by decide)]; exact h5
  · rw [r 20 (by decide) (by decide) (by decide), r 26 (by decide) (by decide) (by decide)]; exact h6
  · rw [r 20 (by decide) (by decide) (by decide), r 27 (by decide) (by decide) (by decide)]; exact h7
theorem CR.gl {X : Sh} {Z : ZT} {S : HS} {h gp i : Nat} (H : CR X Z S h gp) (hS : HOK S) (hi : i < 8) (h0 : S.1 i ≠ 0) : GL X Z i (S.1 i) := by
  obtain ⟨a1, a2, a3, -⟩ := (H.2.2 i hi).2 h0
  have hF := (hS.1 i hi).1
  refine ⟨hi, ?_, a3, by omega, hF⟩
  unfold gfr
  rw [if_pos ⟨a1, by rw [a2]; decide⟩, a3, nI_clamp (by omega)]
theorem CR.g0 {X : Sh} {Z : ZT} {S : HS} {h gp i : Nat} (H : CR X Z S h gp) (hi : i < 8) (h0 : S.1 i = 0) : gfr X Z i = 0 := by
  unfold gfr
  rw [if_neg ((H.2.2 i hi).1 h0)]
theorem CR.gf {X : Sh} {Z : ZT} {S : HS} {h gp i : Nat} (H : CR X Z S h gp) (hS : HOK S) (hi : i < 8) : gfr X Z i = S.1 i := by
  by_cases h0 : S.1 i = 0
  · rw [H.g0 hi h0, h0]
  · exact (H.gl hS hi h0).2.1
theorem CR_rows {X : Sh} {Z Z' : ZT} {S : HS} {h gp : Nat} (H : CR X Z S h gp) (r : ∀ c i, c < 30 → Z' c i = Z c i) : CR X Z' S h gp := by
  obtain ⟨a, b, c⟩ := H
  refine ⟨HI_rows a (fun c _ _ => r c 0 (by omega)) (fun j => r 21 j (by decide)) (fun j => by rw [r 20 j (by decide)]; exact ⟨rfl, rfl⟩), by rw [r 0 0 (by decide)]; exact b, fun i hi => ?_⟩
  rw [r 20 i (by decide)]
  exact ⟨(c i hi).1, fun q => ⟨((c i hi).2 q).1, ((c i hi).2 q).2.1, ((c i hi).2 q).2.2.1, GR_rows (fun c _ _ _ => r c i (by omega)) (fun k w _ _ => mw_rows (r 3 0 (by decide)) (r 4 0 (by decide)) (r 8 0 (by decide)) (r 21 i (by decide))) ((c i hi).2 q).2.2.2⟩⟩
theorem CR_num {X : Sh} {Z : ZT} {S : HS} {h gp : Nat} {f n : Nat → Int32} (H : CR X Z S h gp) (e : f 3 = n 0 ∧ f 4 = n 1 ∧ f 5 = n 2 ∧ f 6 = n 3) : CR X (upr Z 0 0 f) (S.1, S.2.1, n) h gp := by
  obtain ⟨a, b, c⟩ := H
  refine ⟨HI_rows a (fun c _ _ => upr_k (by omega)) (fun j => upr_k (by decide)) (fun j => by rw [upr_k (by decide)]; exact ⟨rfl, rfl⟩), by rw [upr_s]; exact e, fun i hi => ?_⟩
  rw [upr_k (by decide)]
  exact ⟨(c i hi).1, fun q => ⟨((c i hi).2 q).1, ((c i hi).2 q).2.1, ((c i hi).2 q).2.2.1, GR_rows (fun c _ _ _ => upr_k (by omega)) (fun k w _ _ => mw_rows (upr_k (by decide)) (upr_k (by decide)) (upr_k (by decide)) (upr_k (by decide))) ((c i hi).2 q).2.2.2⟩⟩
theorem CRx_V {X X' : Sh} {V : Nat → Nat} (H : CRx X) (e : X' = (X.1, V, X.2.2)) : CRx X' := by subst e; exact H
theorem KX_V {X X' : Sh} {V : Nat → Nat} (e : X' = (X.1, V, X.2.2)) : KX X X' := by subst e; exact KX.refl
theorem unm_V {X X' : Sh} {V : Nat → Nat} (e : X' = (X.1, V, X.2.2)) : unm X' = unm X := by subst e; rfl
/-- a step, or anything else that moves guest i alone -/
theorem CR_set {X X' : Sh} {Z Z' : ZT} {S : HS} {h gp i k n gp' : Nat} {g : GS} (H : CR X Z S h gp) (hS : HOK S) (hi : i < 8) (h0 : S.1 i ≠ 0) (T : SFp X Z h i gp X' Z' k n gp') (hR : GR Z' i (S.1 i) g) : CR X' Z' (setM S i g) h gp' := by
  have hgf := fun j hj => H.gf hS (i := j) hj
  obtain ⟨a, b, c⟩ := H
  obtain ⟨⟨V, rfl⟩, t1, t2, t3, t4, t5, t6, t7⟩ := T
  refine ⟨t1, by rw [t5 0 0 (by omega) (by decide) (by omega) (by omega)]; exact b, fun j hj => ?_⟩
  show (S.1 j = 0 → ¬ (X.2.2.1 j = true ∧ Z' 20 j 0 ≠ 0)) ∧ (S.1 j ≠ 0 → X.2.2.1 j = true ∧ Z' 20 j 0 = 1 ∧ Z' 20 j 6 = nI (S.1 j) ∧ GR Z' j (S.1 j) (upm S.2.1 i g j))
  by_cases e : j = i
  · subst e
    rw [upm_s, t6, t7]
    exact ⟨fun q => absurd q h0, fun q => ⟨((c j hj).2 q).1, ((c j hj).2 q).2.1, ((c j hj).2 q).2.2.1, hR⟩⟩
  · rw [upm_n e, t5 20 j (by omega) (by decide) (by omega) (by omega)]
    exact ⟨(c j hj).1, fun q => ⟨((c j hj).2 q).1, ((c j hj).2 q).2.1, ((c j hj).2 q).2.2.1, GR_rows (fun c _ _ q21 => t5 c j (by omega) q21 (by omega) (by omega)) (fun k w hk hw => t4 j k w hj e (by rw [hgf j hj]; exact hk) hw) ((c j hj).2 q).2.2.2⟩⟩
theorem SFp.up30 {X X' : Sh} {Z Z' : ZT} {h i gp k n gp' : Nat} (T : SFp X Z h i gp X' Z' k n gp') : ∀ c j, 30 ≤ c → Z' c j = Z c j := fun c j q => T.2.2.2.2.2.1 c j (by omega) (by omega) (by omega) (by omega)
theorem CPo_S {X X' : Sh} {Z Z' : ZT} {Y : va_W} {S : HS} {h gp i k n gp' : Nat} {g : GS} {v0 x : Int32} (hX : CRx X) (H : CR X Z S h gp) (hS : HOK S) (hi : i < 8) (h0 : S.1 i ≠ 0) (T : SFp X Z h i gp X' Z' k n gp') (hR : GR Z' i (S.1 i) g) (e : x = v0) : CPo X Z Y gp (setM S i g) v0 X' Z' Y (some (.int x)) k n := by
  have h2 := CR_set H hS hi h0 T hR
  have h3 := T.up30
  obtain ⟨⟨V, eV⟩, -, t2, t3, -⟩ := T
  exact ⟨rfl, by rw [e], h, gp', CRx_V hX eV, h2, by rw [unm_V eV]; omega, t3, KX_V eV, h3⟩
/-! the uses of the sheets when a guest comes or goes -/
theorem cnt_add {X X' : Sh} {Z Z' : ZT} {i s : Nat} (hi : i < 8) (h0 : gfr X Z i = 0) (hX : ∀ j, j < 8 → j ≠ i → gfr X' Z' j = gfr X Z j) (h21 : ∀ j k, j < 8 → j ≠ i → k < gfr X Z j → Z' 21 j k = Z 21 j k) : cnt X' Z' s = cnt X Z s + sumN (gfr X' Z' i) (fun k => use1 Z' i k s) := by
  have := sumN_chg (n := 8) (f := fun j => sumN (gfr X' Z' j) (fun k => use1 Z' j k s)) (g := fun j => sumN (gfr X Z j) (fun k => use1 Z j k s)) hi (fun j hj hne => by
    show sumN (gfr X' Z' j) (fun k => use1 Z' j k s) = sumN (gfr X Z j) (fun k => use1 Z j k s)
    rw [hX j hj hne]
    exact sumN_congr fun k hk => by unfold use1; rw [h21 j k hj hne hk])
  unfold cnt
  try dsimp only at this
  rw [h0] at this
  have e0 : sumN 0 (fun k => use1 Z i k s) = 0 := rfl
  omega
theorem HB_inc {X X' : Sh} {Z Z' : ZT} {fc : Nat} {a : Nat → Nat} (B : HB X Z fc) (hc : ∀ s, s < 513 → cnt X' Z' s = cnt X Z s + a s) (ha : ∀ s, s < 513 → a s ≠ 0 → cnt X Z s ≠ 0) (r7 : ∀ s, s < 513 → Z' 7 0 s = Z 7 0 s + nI (a s)) (r8 : Z' 8 0 = Z 8 0) (r10 : Z' 10 0 = Z 10 0) (r2 : Z' 2 0 = Z 2 0) (h4 : X'.2.1 4 = X.2.1 4)
    (h2 : ∀ j k, j < 8 → k < gfr X' Z' j → ∃ s, s < 513 ∧ Z' 21 j k = nI s) (h3 : ∀ j, j < 8 → gfr X' Z' j ≤ 64) : HB X' Z' fc := by
  obtain ⟨d1, d2, d3, d4, d5, d6, d7, d8, d9⟩ := B
  have z : ∀ s, s < 513 → (cnt X' Z' s = 0 ↔ cnt X Z s = 0) := fun s hs => by
    have h1 := hc s hs
    have h5 := ha s hs
    constructor
    · intro q; omega
    · intro q; by_cases q2 : a s = 0
      · omega
      · exact absurd q (h5 q2)
  refine ⟨fun s hs => ?_, h2, h3, fun s hs q => ?_, fun s hs q => ?_, by rw [r2]; exact d6, fun j hj => ?_, by rw [r10]; exact d8, ?_⟩
  · rw [r7 s hs, d1 s hs, nI_add, hc s hs]
  · rw [h4]; exact d4 s hs (fun w => q ((z s hs).mpr w))
  · rw [r8] at q; exact fun w => d5 s hs q ((z s hs).mp w)
  · obtain ⟨s, q1, q2, q3⟩ := d7 j hj
    exact ⟨s, q1, by rw [r10]; exact q2, (z s q1).mpr q3⟩
  · rw [← d9]
    refine sumN_congr fun k hk => ?_
    by_cases q : cnt X Z k = 0
    · rw [if_pos q, if_pos ((z k hk).mpr q)]
    · rw [if_neg q, if_neg (fun w => q ((z k hk).mp w))]
theorem HA.blank {X : Sh} {Z : ZT} {h o hd g3 g4 k : Nat} (H : HA X Z h o hd g3 g4) (hk : k < 64) : scn Z 0 k = 0 := by
  obtain ⟨⟨a1, a2, a3, a4⟩, -, -, -, c3, -, c5, c6, c7⟩ := H
  rcases c3 0 (by decide) with q | ⟨f, hf, e8, -, -⟩
  · rw [scn_away q, Nat.mul_zero, Nat.zero_add]; exact c7 k hk
  · rw [scn_mem (by omega) e8]
    have h9 : Z 9 0 0 = 0 := by
      rcases c5 0 (by decide) with q | q
      · exact q
      · exact absurd rfl q.2.2
    rw [c6 0 f k (by decide) hf hk e8 h9, Nat.mul_zero, Nat.zero_add]
    exact c7 k hk
theorem HA.congrX {X X' : Sh} {Z : ZT} {h o hd g3 g4 : Nat} (H : HA X Z h o hd g3 g4) (e3 : X'.2.1 3 = X.2.1 3) (e4 : X'.2.1 4 = X.2.1 4) : HA X' Z h o hd g3 g4 := by
  unfold HA at H ⊢
  rw [e3, e4]
  exact H
/-- guest i goes -/
theorem CR_drop {X : Sh} {Z Z1 : ZT} {S : HS} {h o hd g3 g4 fc gp i : Nat} (H : CR X Z S h gp) (hS : HOK S) (hi : i < 8) (h0 : S.1 i ≠ 0) (hA : HA X Z h o hd g3 g4) (hB : HB X Z fc) (hg : g3 + g4 ≤ gp) (T : RLs X Z h o hd g3 g4 i (S.1 i) Z1) :
    CR X (upr Z1 20 i (upd (Z1 20 i) 0 0)) (upn S.1 i 0, S.2.1, S.2.2) h gp := by
  have hgf := fun j hj => H.gf hS (i := j) hj
  obtain ⟨hI, b, c⟩ := H
  obtain ⟨t1, ⟨fc', t2⟩, t3, t4, t5⟩ := T
  have z20 : ∀ j, Z1 20 j = Z 20 j := fun j => t4 20 j (by omega)
  have z21 : ∀ j, Z1 21 j = Z 21 j := fun j => t4 21 j (by omega)
  have gi : gfr X (upr Z1 20 i (upd (Z1 20 i) 0 0)) i = 0 := by
    unfold gfr
    rw [upr_s, upd_s, if_neg (fun q => q.2 rfl)]
  have gj : ∀ j, j ≠ i → gfr X (upr Z1 20 i (upd (Z1 20 i) 0 0)) j = gfr X Z j := fun j hj => by
    unfold gfr
    rw [upr_i hj, z20]
  have hc : ∀ s, s < 513 → cnt X (upr Z1 20 i (upd (Z1 20 i) 0 0)) s = ctR X Z i (S.1 i) s := fun s _ => by
    have e := cnt_add (X := X) (Z := upr Z1 20 i (upd (Z1 20 i) 0 0)) (X' := X) (Z' := Z) (s := s) hi gi (fun j _ hne => (gj j hne).symm) (fun j k _ _ _ => by rw [upr_k (by decide), z21])
    rw [hgf i hi] at e
    unfold ctR
    omega
  have hmw : ∀ j k w, j < 8 → j ≠ i → k < gfr X Z j → w < 64 → mw (upr Z1 20 i (upd (Z1 20 i) 0 0)) j k w = mw Z j k w := fun j k w hj hne hk hw => by
    rw [mw_upr (by decide) (by decide)]
    unfold mw
    obtain ⟨s, hs, es⟩ := hB.2.1 j k hj hk
    rw [z21, es, nI_clamp (by omega)]
    refine t3 s w hs hw ?_
    rw [← hc s hs]
    have := cnt_ge (X := X) (Z := upr Z1 20 i (upd (Z1 20 i) 0 0)) (s := s) hj (by rw [gj j hne]; exact hk) (by rw [upr_k (by decide), z21]; exact es)
    omega
  refine ⟨⟨o, hd, g3, g4, fc', ?_, ?_, hg⟩, ?_, fun j hj => ?_⟩
  · exact t1.rows (fun j _ => by rw [upr_k (by decide)]) (upr_k (by decide)) (upr_k (by decide)) (upr_k (by decide)) (upr_k (by decide)) (upr_k (by decide))
  · refine t2.to hc rfl (upr_k (by decide)) (upr_k (by decide)) (upr_k (by decide)) (by rw [upr_k (by decide)]) (fun j k hj hk => ?_) (fun j hj => ?_)
    · by_cases e : j = i
      · subst e; rw [gi] at hk; omega
      · rw [gj j e] at hk; rw [upr_k (by decide), z21]; exact hB.2.1 j k hj hk
    · by_cases e : j = i
      · subst e; rw [gi]; omega
      · rw [gj j e]; exact hB.2.2.1 j hj
  · rw [upr_k (by decide), t4 0 0 (by omega)]; exact b
  · show (upn S.1 i 0 j = 0 → ¬ (X.2.2.1 j = true ∧ upr Z1 20 i (upd (Z1 20 i) 0 0) 20 j 0 ≠ 0)) ∧ (upn S.1 i 0 j ≠ 0 → X.2.2.1 j = true ∧ upr Z1 20 i (upd (Z1 20 i) 0 0) 20 j 0 = 1 ∧ upr Z1 20 i (upd (Z1 20 i) 0 0) 20 j 6 = nI (upn S.1 i 0 j) ∧ GR (upr Z1 20 i (upd (Z1 20 i) 0 0)) j (upn S.1 i 0 j) (S.2.1 j))
    by_cases e : j = i
    · subst e
      rw [upn_s, upr_s, upd_s]
      exact ⟨fun _ q => q.2 rfl, fun q => absurd rfl q⟩
    · rw [upn_n e, upr_i e, z20]
      exact ⟨(c j hj).1, fun q => ⟨((c j hj).2 q).1, ((c j hj).2 q).2.1, ((c j hj).2 q).2.2.1, GR_rows (fun c _ _ _ => by rw [upr_i e]; exact t4 c j (by omega)) (fun k w hk hw => hmw j k w hj e (by rw [hgf j hj]; exact hk) hw) ((c j hj).2 q).2.2.2⟩⟩
