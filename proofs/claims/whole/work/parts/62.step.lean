set_option maxHeartbeats 4000000 in
set_option maxRecDepth 100000 in
theorem c_X2_step (l : Launch) (sz0 : Nat) (D : va_G) (cs : Nat → ClassId) (X : Sh) (Z : ZT) (Y : va_W) (hX : HXI X) (hU : HUI X) (i : Nat) (hG : GI X i) (h gp kc ks F : Nat) (g : GS) (hI : HI X Z h gp) (hL : GL X Z i F) (hR : GR Z i F g) (hV : GInv F g) (hkc : gp ≤ kc) (hks : 32832 * gp ≤ ks) : Ctr l yX2_step (wsM yX2_step cX2_step 5 none) ({ frames := 7, cells := kc, slots := ks, locals := 176 } : Room) sz0 D cs [.ref (X.1 12 0), .ref (X.1 20 i)] X Z Y (fun X' Z' Y' v k n => Y = Y' ∧ v = none ∧ ∃ gp', SFp X Z h i gp X' Z' k n gp' ∧ GR Z' i F (stepS F g)) := by
  refine Ctr.ofW (by decide +kernel) (by intro v hv; simp at hv; rcases hv with rfl | rfl <;> rfl) (Nat.le_of_ble_eq_true rfl) ?_
  intro p e s m below meth c ls C hr hlocks hname hl hN hw
  obtain ⟨hx, hb, hml, hown, hts⟩ := id C
  have hF64 : F ≤ 64 := hL.2.2.2.2
  have hi : i < 8 := hL.1
  have epc : Z 20 i 2 = g 0 2 := hR.1.2.1
  have e14 : Z 20 i 14 = g 0 14 := hR.1.2.2.2.2.2.1
  have e240 : Z 24 i 0 = g 4 0 := hR.k (by decide)
  have e246 : Z 24 i 6 = g 4 6 := hR.k (by decide)
  have e248 : Z 24 i 8 = g 4 8 := hR.k (by decide)
  refine lv_aload_n hx hb dX2_step_0 rfl (hl.at rfl) ?_
  refine lv_aload_n hx hb dX2_step_1 rfl (hl.at rfl) ?_
  refine w_callS C hN hw (c_X2_lineTrap l sz0 D cs X _ Y i hG) ⟨(Nat.le_of_ble_eq_true rfl), (Nat.le_of_ble_eq_true rfl), mw347, mw19, cy_X2_lineTrap⟩ mw345 mw346 rfl hl.1.1 rfl (Nat.le_of_ble_eq_true rfl) dX2_step_2 ⟨by show 0 + 0 ≤ kc; omega, by show 0 + 0 ≤ ks; omega⟩ (fun X' Z' Y' v k n H locs hp hw => ?_)
  obtain ⟨rfl, rfl, rfl, rfl, rfl, rfl⟩ := hp
  rw [e240, e246, e248, e14]
  obtain ⟨lt, elt⟩ : ∃ lt, lt = lineS (g 4 0) (g 4 8) (g 4 6) (g 0 14) := ⟨_, rfl⟩
  rw [← elt]
  refine w_put C hw (c0 := 12) (i0 := 0) rfl inA2 tyX2_ok nmX2 1 (by decide) mw341 rfl rfl rfl dX2_step_5 (hX 12 (by decide)) rfl rfl rfl rfl (Nat.le_of_ble_eq_true rfl) rfl (fun H locs hw => ?_)
  refine lv_aload_n hx hb dX2_step_8 rfl (hl.at rfl) ?_
  refine lv_iconst (v := 0) hx hb dX2_step_9 (by decide) ?_
  refine w_put C hw (c0 := 12) (i0 := 0) rfl inA2 tyX2_ok nmX2 2 (by decide) mw342 rfl rfl rfl dX2_step_10 (hX 12 (by decide)) rfl rfl rfl rfl (Nat.le_of_ble_eq_true rfl) rfl (fun H locs hw => ?_)
  refine lv_aload_n hx hb dX2_step_13 rfl (hl.at rfl) ?_
  refine lv_aload_n hx hb dX2_step_14 rfl (hl.at rfl) ?_
  refine w_getN C hN hw (c0 := 20) (i0 := i) rfl inA0 2 (by decide) mw642 rfl dX2_step_15 (hG 20 (by decide) (by decide)) rfl rfl rfl ?_
  rw [upr_k (show (20 : Nat) ≠ 12 by decide), upr_k (show (20 : Nat) ≠ 12 by decide), epc]
  refine lv_iconst (v := 1) hx hb dX2_step_18 (by decide) ?_
  refine lv_iadd hx hb dX2_step_19 ?_
  refine w_put C hw (c0 := 12) (i0 := 0) rfl inA2 tyX2_ok nmX2 3 (by decide) mw343 rfl rfl rfl dX2_step_20 (hX 12 (by decide)) rfl rfl rfl rfl (Nat.le_of_ble_eq_true rfl) rfl (fun H locs hw => ?_)
  refine lv_aload_n hx hb dX2_step_23 rfl (hl.at rfl) ?_
  refine lv_aload_n hx hb dX2_step_24 rfl (hl.at rfl) ?_
  refine w_getN C hN hw (c0 := 20) (i0 := i) rfl inA0 10 (by decide) mw653 rfl dX2_step_25 (hG 20 (by decide) (by decide)) rfl rfl rfl ?_
  refine lv_bipush (v := 8) hx hb dX2_step_28 (by decide) ?_
  refine w_ild C hw (c0 := 24) (i0 := i) dX2_step_30 (hG 24 (by decide) (by decide)) rfl rfl (vpk (by decide)) (j := 8) (by decide) ?_
  simp only [upr_k (show (24 : Nat) ≠ 12 by decide)]
  rw [e248]
  refine lv_iconst (v := 1) hx hb dX2_step_31 (by decide) ?_
  refine lv_iadd hx hb dX2_step_32 ?_
  refine w_put C hw (c0 := 12) (i0 := 0) rfl inA2 tyX2_ok nmX2 4 (by decide) mw344 rfl rfl rfl dX2_step_33 (hX 12 (by decide)) rfl rfl rfl rfl (Nat.le_of_ble_eq_true rfl) rfl (fun H locs hw => ?_)
  simp only [upr_uu, upr_s] at hw
  obtain ⟨z, ez⟩ : ∃ z, z = upd (upd (upd (upd (Z 12 0) 1 lt) 2 0) 3 (g 0 2 + 1)) 4 (g 4 8 + 1) := ⟨_, rfl⟩
  rw [← ez] at hw
  have z1 : z 1 = lt := by rw [ez, upd_n (by decide), upd_n (by decide), upd_n (by decide), upd_s]
  have z2 : z 2 = 0 := by rw [ez, upd_n (by decide), upd_n (by decide), upd_s]
  have z3 : z 3 = g 0 2 + 1 := by rw [ez, upd_n (by decide), upd_s]
  have z4 : z 4 = g 4 8 + 1 := by rw [ez, upd_s]
  have hS1 : SFp X Z h i gp X (upr Z 12 0 z) 0 0 gp := SFp.ofU hI (Or.inr (Or.inl ⟨rfl, rfl⟩))
  have hR1 : GR (upr Z 12 0 z) i F g := GR_12 hR
  have fin : ∀ (X2 : Sh) (Z2 : ZT) (K N gp2 : Nat) (g2 : GS) (H : Heap) (locs : List Loc) (ls : Array Slot) (sa sb sc : Option Value), lo ls [some (.ref (X.1 12 0)), some (.ref (X.1 20 i)), sa, sb, sc] → Wd sz0 D cs s X2 Z2 Y H locs → SFp X Z h i gp X2 Z2 K N gp2 → GR Z2 i F g2 → stepS F g = (if Z2 12 0 1 = 0 then gu (gu g2 0 2 (Z2 12 0 3)) 4 8 (Z2 12 0 4) else trapS g2 (Z2 12 0 1) (Z2 12 0 2)) → W p l e ({ frames := 7, cells := kc, slots := ks, locals := 176 } : Room) s m ([.ref (X.1 12 0), .ref (X.1 20 i)] : List Value).toArray below meth c H locs K N (xQ below (CQ sz0 D cs (fun X' Z' Y' v k n => Y = Y' ∧ v = none ∧ ∃ gp', SFp X Z h i gp X' Z' k n gp' ∧ GR Z' i F (stepS F g))) ([.ref (X.1 12 0), .ref (X.1 20 i)] : List Value).toArray s (Asz sz0)) (F0 m 190 ls []) := by
    intro X2 Z2 K N gp2 g2 H locs ls sa sb sc hl hw hS2 hR2 eS
    have hS20 := hS2
    obtain ⟨⟨V2, rfl⟩, hI2, hk2, hn2, -⟩ := hS2
    refine lv_aload_n hx hb dX2_step_190 rfl (hl.at rfl) ?_
    refine w_get C hw (c0 := 12) (i0 := 0) rfl inA2 1 (by decide) mw341 rfl dX2_step_191 (hX 12 (by decide)) rfl rfl rfl ?_
    refine lv_if_ne (tgt := 219) hx hb dX2_step_194 (by decide) (fun h194 => ?_) (fun h194 => ?_)
    · rw [if_neg h194] at eS
      refine lv_aload_n hx hb dX2_step_219 rfl (hl.at rfl) ?_
      refine lv_aload_n hx hb dX2_step_220 rfl (hl.at rfl) ?_
      refine w_get C hw (c0 := 12) (i0 := 0) rfl inA2 1 (by decide) mw341 rfl dX2_step_221 (hX 12 (by decide)) rfl rfl rfl ?_
      refine lv_aload_n hx hb dX2_step_224 rfl (hl.at rfl) ?_
      refine w_get C hw (c0 := 12) (i0 := 0) rfl inA2 2 (by decide) mw342 rfl dX2_step_225 (hX 12 (by decide)) rfl rfl rfl ?_
      refine w_callV C hN hw (c_X0_enterTrap l sz0 D cs (X.1, V2, X.2.2) Z2 Y i hG _ _) ⟨(Nat.le_of_ble_eq_true rfl), (Nat.le_of_ble_eq_true rfl), mw440, mw111, cy_X0_enterTrap⟩ mw437 mw438 mw439 (w_rec hw (c0 := 20) (i0 := i) (hG 20 (by decide) (by decide)) rfl rfl) rfl hl.1.1 rfl (Nat.le_of_ble_eq_true rfl) dX2_step_228 ⟨by show K + 0 ≤ kc; omega, by show N + 0 ≤ ks; omega⟩ (fun X3 Z3 Y3 v3 k3 n3 H locs hp hw => ?_)
      obtain ⟨rfl, rfl, rfl, rfl, rfl, rfl⟩ := hp
      have hSa := SFp.ofU (i := i) (c := 24) (b := i) (f := upd (upd (upd (upd (Z2 24 i) 0 ((Z2 24 i 0 &&& 1792) ||| ((if Z2 24 i 0 &&& 1 = 0 then 0 else 2) ||| (if Z2 20 i 3 = 0 then 0 else 4)))) 1 (Z2 12 0 1)) 2 (Z2 20 i 2)) 3 (Z2 12 0 2)) hI2 (Or.inl ⟨rfl, by decide, by decide⟩)
      have hSb := hSa.trans (SFp.ofU (c := 20) (b := i) (f := upd (upd (upd (Z2 20 i) 3 1) 2 (Z2 24 i 4)) 5 (Z2 20 i 5 + 1)) hSa.hI (Or.inr (Or.inr ⟨rfl, rfl, by rw [upr_k (by decide), upd_n (by decide), upd_n (by decide), upd_n (by decide)], by rw [upr_k (by decide), upd_n (by decide), upd_n (by decide), upd_n (by decide)]⟩)))
      exact w_vret C hw hr hlocks dX2_step_231 ⟨rfl, rfl, gp2, hS20.trans hSb, by rw [eS]; exact GR_trap hR2⟩
    · rw [if_pos h194] at eS
      refine lv_aload_n hx hb dX2_step_197 rfl (hl.at rfl) ?_
      refine lv_aload_n hx hb dX2_step_198 rfl (hl.at rfl) ?_
      refine w_get C hw (c0 := 12) (i0 := 0) rfl inA2 3 (by decide) mw343 rfl dX2_step_199 (hX 12 (by decide)) rfl rfl rfl ?_
      refine w_putN C hN hw (c0 := 20) (i0 := i) rfl inA0 tyX0_ok nmX0 2 (by decide) mw642 rfl rfl rfl dX2_step_202 (hG 20 (by decide) (by decide)) rfl rfl rfl rfl (Nat.le_of_ble_eq_true rfl) rfl (fun H locs hw => ?_)
      refine lv_aload_n hx hb dX2_step_205 rfl (hl.at rfl) ?_
      refine w_getN C hN hw (c0 := 20) (i0 := i) rfl inA0 10 (by decide) mw653 rfl dX2_step_206 (hG 20 (by decide) (by decide)) rfl rfl rfl ?_
      refine lv_bipush (v := 8) hx hb dX2_step_209 (by decide) ?_
      refine lv_aload_n hx hb dX2_step_211 rfl (hl.at rfl) ?_
      refine w_get C hw (c0 := 12) (i0 := 0) rfl inA2 4 (by decide) mw344 rfl dX2_step_212 (hX 12 (by decide)) rfl rfl rfl ?_
      refine w_ist C hw (c0 := 24) (i0 := i) dX2_step_215 (hG 24 (by decide) (by decide)) rfl (fun _ => rfl) (vpk (by decide)) (j := 8) (by decide) (fun H locs hw => ?_)
      refine lv_goto (tgt := 231) hx hb dX2_step_216 (by decide) ?_
      rw [upr_k (show (12 : Nat) ≠ 20 by decide)] at hw
      have hSa := SFp.ofU (i := i) (c := 20) (b := i) (f := upd (Z2 20 i) 2 (Z2 12 0 3)) hI2 (Or.inr (Or.inr ⟨rfl, rfl, by rw [upd_n (by decide)], by rw [upd_n (by decide)]⟩))
      have hSb := hSa.trans (SFp.ofU (c := 24) (b := i) (f := upd (upr Z2 20 i (upd (Z2 20 i) 2 (Z2 12 0 3)) 24 i) 8 (Z2 12 0 4)) hSa.hI (Or.inl ⟨rfl, by decide, by decide⟩))
      exact w_vret C hw hr hlocks dX2_step_231 ⟨rfl, rfl, gp2, hS20.trans hSb, by rw [eS]; exact GR_24 (GR_20 ⟨by decide, by decide⟩ hR2)⟩
  refine lv_aload_n hx hb dX2_step_36 rfl (hl.at rfl) ?_
  refine w_get C hw (c0 := 12) (i0 := 0) rfl inA2 1 (by decide) mw341 rfl dX2_step_37 (hX 12 (by decide)) rfl rfl rfl ?_
  rw [upr_s, z1]
  refine lv_if_ne (tgt := 57) hx hb dX2_step_40 (by decide) (fun h40 => ?_) (fun h40 => ?_)
  · refine lv_iconst (v := -1) hx hb dX2_step_57 (by decide) ?_
    refine w_istore_n hx hb dX2_step_58 rfl hl (Nat.le_of_ble_eq_true rfl) (fun ls hl => ?_)
    refine lv_aload_n hx hb dX2_step_59 rfl (hl.at rfl) ?_
    refine w_get C hw (c0 := 12) (i0 := 0) rfl inA2 1 (by decide) mw341 rfl dX2_step_60 (hX 12 (by decide)) rfl rfl rfl ?_
    rw [upr_s, z1]
    refine lv_if_ne (tgt := 190) hx hb dX2_step_63 (by decide) (fun h63 => ?_) (fun h63 => ?_)
    · refine fin _ _ _ _ _ g _ _ _ _ _ _ hl hw hS1 hR1 ?_
      rw [upr_s, z1, z2, if_neg h63]
      unfold stepS
      rw [← elt, if_pos h40]
    · exact absurd h63 h40
  · refine lv_aload_n hx hb dX2_step_43 rfl (hl.at rfl) ?_
    refine lv_aload_n hx hb dX2_step_44 rfl (hl.at rfl) ?_
    refine lv_aload_n hx hb dX2_step_45 rfl (hl.at rfl) ?_
    refine w_getN C hN hw (c0 := 20) (i0 := i) rfl inA0 2 (by decide) mw642 rfl dX2_step_46 (hG 20 (by decide) (by decide)) rfl rfl rfl ?_
    rw [upr_k (show (20 : Nat) ≠ 12 by decide), epc]
    refine lv_bipush (v := 11) hx hb dX2_step_49 (by decide) ?_
    refine w_callV C hN hw (c_X2_locate l sz0 D cs X _ Y hX hU i hG h gp kc ks F g hS1.hI (hS1.gl hL) hR1 hV (g 0 2) 11 (by decide) hkc hks) ⟨(Nat.le_of_ble_eq_true rfl), (Nat.le_of_ble_eq_true rfl), mw355, mw19, cy_X2_locate⟩ mw352 mw353 mw354 (w_rec hw (c0 := 12) (i0 := 0) (hX 12 (by decide)) rfl rfl) rfl hl.1.1 rfl (Nat.le_of_ble_eq_true rfl) dX2_step_51 ⟨by show 0 + kc ≤ kc; omega, by show 0 + ks ≤ ks; omega⟩ (fun X2 Z2 Y2 v2 k2 n2 H locs hp hw => ?_)
    obtain ⟨rfl, gp2, hS, hR2, rfl, h12⟩ := hp
    have hS0 := hS1.trans hS
    have hS20 := hS
    have hL2 := hS0.gl hL
    obtain ⟨m1, m2, m3⟩ := locS_ok (a := g 0 2) hF64 hV.c (show (11 : Int32) ≠ 0 by decide)
    have hV2 := locS_inv (a := g 0 2) hF64 hV (show (11 : Int32) ≠ 0 by decide)
    have eS0 : stepS F g = if ¬ (locS F g (g 0 2) 11).2.1 = 0 then trapS (locS F g (g 0 2) 11).1 (locS F g (g 0 2) 11).2.1 (locS F g (g 0 2) 11).2.2.1 else finS (execS F (locS F g (g 0 2) 11).1 ((locS F g (g 0 2) 11).1 1 (locS F g (g 0 2) 11).2.2.2.toNatClampNeg) (g 0 2 + 1) (g 4 8 + 1)) := by
      unfold stepS
      rw [← elt, if_neg (fun q => q h40)]
    obtain ⟨r, er⟩ : ∃ r, r = locS F g (g 0 2) 11 := ⟨_, rfl⟩
    rw [← er] at hR2 h12 m1 m2 m3 hV2 eS0 ⊢
    rw [upr_s] at h12
    obtain ⟨⟨V2, rfl⟩, hI2, hk2, hn2, -⟩ := hS
    refine lv_goto (tgt := 58) hx hb dX2_step_54 (by decide) ?_
    refine w_istore_n hx hb dX2_step_58 rfl hl (Nat.le_of_ble_eq_true rfl) (fun ls hl => ?_)
    refine lv_aload_n hx hb dX2_step_59 rfl (hl.at rfl) ?_
    refine w_get C hw (c0 := 12) (i0 := 0) rfl inA2 1 (by decide) mw341 rfl dX2_step_60 (hX 12 (by decide)) rfl rfl rfl ?_
    have e63 : Z2 12 0 1 = if r.2.1 = 0 then 0 else r.2.1 := by
      rw [h12]
      by_cases q : r.2.1 = 0
      · rw [if_pos q, if_pos q, z1]; exact h40
      · rw [if_neg q, if_neg q, upd_n (by decide), upd_s]
    rw [e63]
    refine lv_if_ne (tgt := 190) hx hb dX2_step_63 (by decide) (fun h63 => ?_) (fun h63 => ?_)
    · have ht : ¬ r.2.1 = 0 := fun q => by rw [if_pos q] at h63; exact h63 rfl
      rw [if_neg ht] at h12
      rw [if_pos ht] at eS0
      refine fin _ _ _ _ _ r.1 _ _ _ _ _ _ hl hw (by rw [show 0 + k2 = 0 + k2 from rfl]; exact hS0) hR2 ?_
      rw [h12, upd_n (show (1 : Nat) ≠ 2 by decide), upd_s, if_neg ht, upd_s]
      exact eS0
    · have ht : r.2.1 = 0 := by
        by_cases q : r.2.1 = 0
        · exact q
        · rw [if_neg q] at h63; exact h63
      rw [if_neg (fun q => q ht)] at eS0
      rw [if_pos ht] at h12
      obtain ⟨an, han, ean⟩ := m3 ht
      have ecl : r.2.2.2.toNatClampNeg = an := by rw [ean, nI_clamp (by omega)]
      rw [ecl] at eS0
      rw [ean] at hl
      refine lv_aload_n hx hb dX2_step_66 rfl (hl.at rfl) ?_
      refine w_get C hw (c0 := 12) (i0 := 0) rfl inA2 0 (by decide) mw41 rfl dX2_step_67 (hX 12 (by decide)) rfl rfl rfl ?_
      refine lv_aload_n hx hb dX2_step_70 rfl (hl.at rfl) ?_
      refine lv_iload_n hx hb dX2_step_71 rfl (hl.at rfl) ?_
      refine w_callV C hN hw (c_X1_read l sz0 D cs (X.1, V2, X.2.2) Z2 Y hX hU i hG h gp2 gp2 (32832 * gp2) F hI2 hL2 (nI an) (Nat.le_refl _) (Nat.le_refl _)) ⟨(Nat.le_of_ble_eq_true rfl), (Nat.le_of_ble_eq_true rfl), mw364, mw15, cy_X1_read⟩ mw361 mw362 mw363 (w_rec hw (c0 := 2) (i0 := 0) (hX 2 (by decide)) rfl rfl) rfl hl.1.1 rfl (Nat.le_of_ble_eq_true rfl) dX2_step_72 ⟨by show 0 + k2 + gp2 ≤ kc; omega, by show 0 + n2 + 32832 * gp2 ≤ ks; omega⟩ (fun X3 Z3 Y3 v3 k3 n3 H locs hp hw => ?_)
      obtain ⟨rfl, rfl, hM3⟩ := hp
      have hR3 := GR_HMs hM3 hi hL2.2.1 hR2
      obtain ⟨gp3, hS3⟩ := SFp.ofHM (i := i) hM3 (fun _ _ _ _ => rfl)
      have h123 := hM3.r12
      have hS4 := hS0.trans hS3
      have hL3 := hS4.gl hL
      have hS30 := hS3
      obtain ⟨⟨V3, rfl⟩, hI3, hk3, hn3, -⟩ := hS3
      rw [rdv_g hF64 han hR2]
      obtain ⟨w, ew⟩ : ∃ w, w = r.1 1 an := ⟨_, rfl⟩
      rw [← ew] at eS0 ⊢
      have h12z : Z3 12 0 = z := by rw [h123, h12]
      have hz1 : Z3 12 0 1 = 0 := by rw [h12z, z1]; exact h40
      have eN3 : g 0 2 + 1 = Z3 12 0 3 := by rw [h12z, z3]
      have eN4 : g 4 8 + 1 = Z3 12 0 4 := by rw [h12z, z4]
      rw [eN3, eN4] at eS0
      have clo : ∀ (q : ER) (X5 : Sh) (Z5 : ZT) (K N gp5 : Nat) (H : Heap) (locs : List Loc) (ls : Array Slot) (sa sb sc : Option Value), execS F r.1 w (Z3 12 0 3) (Z3 12 0 4) = q → lo ls [some (.ref (X.1 12 0)), some (.ref (X.1 20 i)), sa, sb, sc] → Wd sz0 D cs s X5 Z5 Y H locs → SFp X Z h i gp X5 Z5 K N gp5 → GR Z5 i F q.1 → Z5 12 0 = rowE (Z3 12 0) q → W p l e ({ frames := 7, cells := kc, slots := ks, locals := 176 } : Room) s m ([.ref (X.1 12 0), .ref (X.1 20 i)] : List Value).toArray below meth c H locs K N (xQ below (CQ sz0 D cs (fun X' Z' Y' v k n => Y = Y' ∧ v = none ∧ ∃ gp', SFp X Z h i gp X' Z' k n gp' ∧ GR Z' i F (stepS F g))) ([.ref (X.1 12 0), .ref (X.1 20 i)] : List Value).toArray s (Asz sz0)) (F0 m 190 ls []) := by
        intro q X5 Z5 K N gp5 H locs ls sa sb sc eq hl hw hS5 hR5 h5
        refine fin _ _ _ _ _ q.1 _ _ _ _ _ _ hl hw hS5 hR5 ?_
        rw [h5, rowE_fin hz1, eS0, eq]
      refine w_istore_n hx hb dX2_step_75 rfl hl (Nat.le_of_ble_eq_true rfl) (fun ls hl => ?_)
      refine lv_iload_n hx hb dX2_step_76 rfl (hl.at rfl) ?_
      refine lv_bipush (v := 26) hx hb dX2_step_77 (by decide) ?_
      refine lv_iushr hx hb dX2_step_79 rfl ?_
      refine w_istore hx hb dX2_step_80 hl (Nat.le_of_ble_eq_true rfl) (fun ls hl => ?_)
      refine lv_iload hx hb dX2_step_82 (hl.at rfl) ?_
      refine lv_bipush (v := 10) hx hb dX2_step_84 (by decide) ?_
      refine lv_icmp_gt (tgt := 102) hx hb dX2_step_86 (by decide) (fun h86 => ?_) (fun h86 => ?_)
      · have h86 : 10 < opc w := h86
        refine lv_iload hx hb dX2_step_102 (hl.at rfl) ?_
        refine lv_bipush (v := 13) hx hb dX2_step_104 (by decide) ?_
        refine lv_icmp_gt (tgt := 118) hx hb dX2_step_106 (by decide) (fun h106 => ?_) (fun h106 => ?_)
        · have h106 : 13 < opc w := h106
          refine lv_iload hx hb dX2_step_118 (hl.at rfl) ?_
          refine lv_bipush (v := 18) hx hb dX2_step_120 (by decide) ?_
          refine lv_icmp_gt (tgt := 134) hx hb dX2_step_122 (by decide) (fun h122 => ?_) (fun h122 => ?_)
          · have h122b : 18 < opc w := h122
            refine lv_iload hx hb dX2_step_134 (hl.at rfl) ?_
            refine lv_bipush (v := 20) hx hb dX2_step_136 (by decide) ?_
            refine lv_icmp_gt (tgt := 150) hx hb dX2_step_138 (by decide) (fun h138 => ?_) (fun h138 => ?_)
            · have h138 : 20 < opc w := h138
              refine lv_iload hx hb dX2_step_150 (hl.at rfl) ?_
              refine lv_bipush (v := 29) hx hb dX2_step_152 (by decide) ?_
              refine lv_icmp_le (tgt := 167) hx hb dX2_step_154 (by decide) (fun h154 => ?_) (fun h154 => ?_)
              · have h154 : opc w ≤ 29 := h154
                have em : Z3 20 i 3 = r.1 0 3 := hR3.1.2.2.1
                refine lv_aload_n hx hb dX2_step_167 rfl (hl.at rfl) ?_
                refine w_getN C hN hw (c0 := 20) (i0 := i) rfl inA0 3 (by decide) mw644 rfl dX2_step_168 (hG 20 (by decide) (by decide)) rfl rfl rfl ?_
                rw [em]
                refine lv_if_ne (tgt := 184) hx hb dX2_step_171 (by decide) (fun h171 => ?_) (fun h171 => ?_)
                · refine lv_aload_n hx hb dX2_step_184 rfl (hl.at rfl) ?_
                  refine lv_aload_n hx hb dX2_step_185 rfl (hl.at rfl) ?_
                  refine lv_iload_n hx hb dX2_step_186 rfl (hl.at rfl) ?_
                  refine w_callV C hN hw (c_X2_supervise l sz0 D cs (X.1, V3, X.2.2) Z3 Y hX hU i hG h gp3 gp3 (32832 * gp3) F r.1 hI3 hL3 hR3 hV2 w (Nat.le_refl _) (Nat.le_refl _)) ⟨(Nat.le_of_ble_eq_true rfl), (Nat.le_of_ble_eq_true rfl), mw396, mw19, cy_X2_supervise⟩ mw393 mw394 mw395 (w_rec hw (c0 := 12) (i0 := 0) (hX 12 (by decide)) rfl rfl) rfl hl.1.1 rfl (Nat.le_of_ble_eq_true rfl) dX2_step_187 ⟨by show 0 + k2 + k3 + gp3 ≤ kc; omega, by show 0 + n2 + n3 + 32832 * gp3 ≤ ks; omega⟩ (fun X5 Z5 Y5 v5 k5 n5 H locs hp hw => ?_)
                  obtain ⟨rfl, rfl, gp5, hS5, hR5, h5⟩ := hp
                  exact clo _ _ _ _ _ _ _ _ _ _ _ _ (by unfold execS; rw [if_neg (fun q => q h86), if_neg (fun q => q h106), if_neg (fun q => q h122b), if_neg (fun q => q h138), if_neg (fun q => q h154), if_neg h171]) hl hw (hS4.trans hS5) hR5 h5
                · refine lv_aload_n hx hb dX2_step_174 rfl (hl.at rfl) ?_
                  refine lv_iconst (v := 3) hx hb dX2_step_175 (by decide) ?_
                  refine lv_iload_n hx hb dX2_step_176 rfl (hl.at rfl) ?_
                  refine w_callV C hN hw (c_X2_refuse l sz0 D cs (X.1, V3, X.2.2) Z3 Y hX 3 w) ⟨(Nat.le_of_ble_eq_true rfl), (Nat.le_of_ble_eq_true rfl), mw360, mw19, cy_X2_refuse⟩ mw357 mw358 mw359 (w_rec hw (c0 := 12) (i0 := 0) (hX 12 (by decide)) rfl rfl) rfl hl.1.1 rfl (Nat.le_of_ble_eq_true rfl) dX2_step_177 ⟨by show 0 + k2 + k3 + 0 ≤ kc; omega, by show 0 + n2 + n3 + 0 ≤ ks; omega⟩ (fun X5 Z5 Y5 v5 k5 n5 H locs hp hw => ?_)
                  obtain ⟨rfl, rfl, rfl, rfl, rfl, rfl⟩ := hp
                  refine lv_pop hx hb dX2_step_180 rfl ?_
                  refine lv_goto (tgt := 190) hx hb dX2_step_181 (by decide) ?_
                  exact clo (r.1, 3, w, Z3 12 0 3, Z3 12 0 4) _ _ _ _ _ _ _ _ _ _ _ (by unfold execS; rw [if_neg (fun q => q h86), if_neg (fun q => q h106), if_neg (fun q => q h122b), if_neg (fun q => q h138), if_neg (fun q => q h154), if_pos h171]) hl hw (hS4.trans (SFp.ofU hI3 (Or.inr (Or.inl ⟨rfl, rfl⟩)))) (GR_12 hR3) (by rw [upr_s]; unfold rowE; rw [if_neg (show ¬ (3 : Int32) = 0 by decide)])
              · have h154 : ¬ opc w ≤ 29 := h154
                refine lv_aload_n hx hb dX2_step_157 rfl (hl.at rfl) ?_
                refine lv_iconst (v := 2) hx hb dX2_step_158 (by decide) ?_
                refine lv_iload_n hx hb dX2_step_159 rfl (hl.at rfl) ?_
                refine w_callV C hN hw (c_X2_refuse l sz0 D cs (X.1, V3, X.2.2) Z3 Y hX 2 w) ⟨(Nat.le_of_ble_eq_true rfl), (Nat.le_of_ble_eq_true rfl), mw360, mw19, cy_X2_refuse⟩ mw357 mw358 mw359 (w_rec hw (c0 := 12) (i0 := 0) (hX 12 (by decide)) rfl rfl) rfl hl.1.1 rfl (Nat.le_of_ble_eq_true rfl) dX2_step_160 ⟨by show 0 + k2 + k3 + 0 ≤ kc; omega, by show 0 + n2 + n3 + 0 ≤ ks; omega⟩ (fun X5 Z5 Y5 v5 k5 n5 H locs hp hw => ?_)
                obtain ⟨rfl, rfl, rfl, rfl, rfl, rfl⟩ := hp
                refine lv_pop hx hb dX2_step_163 rfl ?_
                refine lv_goto (tgt := 190) hx hb dX2_step_164 (by decide) ?_
                exact clo (r.1, 2, w, Z3 12 0 3, Z3 12 0 4) _ _ _ _ _ _ _ _ _ _ _ (by unfold execS; rw [if_neg (fun q => q h86), if_neg (fun q => q h106), if_neg (fun q => q h122b), if_neg (fun q => q h138), if_pos h154]) hl hw (hS4.trans (SFp.ofU hI3 (Or.inr (Or.inl ⟨rfl, rfl⟩)))) (GR_12 hR3) (by rw [upr_s]; unfold rowE; rw [if_neg (show ¬ (2 : Int32) = 0 by decide)])
            · have h138 : ¬ 20 < opc w := h138
              refine lv_aload_n hx hb dX2_step_141 rfl (hl.at rfl) ?_
              refine lv_aload_n hx hb dX2_step_142 rfl (hl.at rfl) ?_
              refine lv_iload_n hx hb dX2_step_143 rfl (hl.at rfl) ?_
              refine w_callV C hN hw (c_X2_callOrTime l sz0 D cs (X.1, V3, X.2.2) Z3 Y hX i hG h gp3 F r.1 hI3 hL3 hR3 hV2 w) ⟨(Nat.le_of_ble_eq_true rfl), (Nat.le_of_ble_eq_true rfl), mw392, mw19, cy_X2_callOrTime⟩ mw389 mw390 mw391 (w_rec hw (c0 := 12) (i0 := 0) (hX 12 (by decide)) rfl rfl) rfl hl.1.1 rfl (Nat.le_of_ble_eq_true rfl) dX2_step_144 ⟨by show 0 + k2 + k3 + 0 ≤ kc; omega, by show 0 + n2 + n3 + 0 ≤ ks; omega⟩ (fun X5 Z5 Y5 v5 k5 n5 H locs hp hw => ?_)
              obtain ⟨rfl, rfl, rfl, rfl, rfl, hR5, h5, hS5⟩ := hp
              refine lv_goto (tgt := 190) hx hb dX2_step_147 (by decide) ?_
              exact clo _ _ _ _ _ _ _ _ _ _ _ _ (by unfold execS; rw [if_neg (fun q => q h86), if_neg (fun q => q h106), if_neg (fun q => q h122b), if_pos h138]) hl hw (hS4.trans hS5) hR5 h5
          · have h122b : ¬ 18 < opc w := h122
            refine lv_aload_n hx hb dX2_step_125 rfl (hl.at rfl) ?_
            refine lv_aload_n hx hb dX2_step_126 rfl (hl.at rfl) ?_
            refine lv_iload_n hx hb dX2_step_127 rfl (hl.at rfl) ?_
            refine w_callV C hN hw (c_X2_jump l sz0 D cs (X.1, V3, X.2.2) Z3 Y hX i hG h gp3 F r.1 hI3 hL3 hR3 w) ⟨(Nat.le_of_ble_eq_true rfl), (Nat.le_of_ble_eq_true rfl), mw388, mw19, cy_X2_jump⟩ mw385 mw386 mw387 (w_rec hw (c0 := 12) (i0 := 0) (hX 12 (by decide)) rfl rfl) rfl hl.1.1 rfl (Nat.le_of_ble_eq_true rfl) dX2_step_128 ⟨by show 0 + k2 + k3 + 0 ≤ kc; omega, by show 0 + n2 + n3 + 0 ≤ ks; omega⟩ (fun X5 Z5 Y5 v5 k5 n5 H locs hp hw => ?_)
            obtain ⟨rfl, rfl, rfl, rfl, rfl, hR5, h5, hS5⟩ := hp
            refine lv_goto (tgt := 190) hx hb dX2_step_131 (by decide) ?_
            exact clo ((jumpS r.1 w (Z3 12 0 3)).1, 0, 0, (jumpS r.1 w (Z3 12 0 3)).2, Z3 12 0 4) _ _ _ _ _ _ _ _ _ _ _ (by unfold execS; rw [if_neg (fun q => q h86), if_neg (fun q => q h106), if_pos h122b]) hl hw (hS4.trans hS5) hR5 (by rw [h5]; exact rowE_jump)
        · have h106 : ¬ 13 < opc w := h106
          refine lv_aload_n hx hb dX2_step_109 rfl (hl.at rfl) ?_
          refine lv_aload_n hx hb dX2_step_110 rfl (hl.at rfl) ?_
          refine lv_iload_n hx hb dX2_step_111 rfl (hl.at rfl) ?_
          refine w_callV C hN hw (c_X2_useMemory l sz0 D cs (X.1, V3, X.2.2) Z3 Y hX hU i hG h gp3 gp3 (32832 * gp3) F r.1 hI3 hL3 hR3 hV2 w hz1 (Nat.le_refl _) (Nat.le_refl _)) ⟨(Nat.le_of_ble_eq_true rfl), (Nat.le_of_ble_eq_true rfl), mw384, mw19, cy_X2_useMemory⟩ mw381 mw382 mw383 (w_rec hw (c0 := 12) (i0 := 0) (hX 12 (by decide)) rfl rfl) rfl hl.1.1 rfl (Nat.le_of_ble_eq_true rfl) dX2_step_112 ⟨by show 0 + k2 + k3 + gp3 ≤ kc; omega, by show 0 + n2 + n3 + 32832 * gp3 ≤ ks; omega⟩ (fun X5 Z5 Y5 v5 k5 n5 H locs hp hw => ?_)
          obtain ⟨rfl, rfl, gp5, hS5, hR5, h5⟩ := hp
          refine lv_goto (tgt := 190) hx hb dX2_step_115 (by decide) ?_
          exact clo ((useS F r.1 w).1, (useS F r.1 w).2.1, (useS F r.1 w).2.2.1, Z3 12 0 3, Z3 12 0 4) _ _ _ _ _ _ _ _ _ _ _ (by unfold execS; rw [if_neg (fun q => q h86), if_pos h106]) hl hw (hS4.trans hS5) hR5 (by rw [h5]; exact rowE_use)
      · have h86 : ¬ 10 < opc w := h86
        refine lv_aload_n hx hb dX2_step_89 rfl (hl.at rfl) ?_
        refine lv_iload_n hx hb dX2_step_90 rfl (hl.at rfl) ?_
        refine lv_aload_n hx hb dX2_step_91 rfl (hl.at rfl) ?_
        refine lv_iload_n hx hb dX2_step_92 rfl (hl.at rfl) ?_
        refine w_callS C hN hw (c_X2_sum l sz0 D cs (X.1, V3, X.2.2) Z3 Y i hG w) ⟨(Nat.le_of_ble_eq_true rfl), (Nat.le_of_ble_eq_true rfl), mw368, mw19, cy_X2_sum⟩ mw366 mw367 rfl hl.1.1 rfl (Nat.le_of_ble_eq_true rfl) dX2_step_93 ⟨by show 0 + k2 + k3 + 0 ≤ kc; omega, by show 0 + n2 + n3 + 0 ≤ ks; omega⟩ (fun X5 Z5 Y5 v5 k5 n5 H locs hp hw => ?_)
        obtain ⟨rfl, rfl, rfl, rfl, rfl, rfl⟩ := hp
        rw [hR3.A, hR3.B]
        refine w_callS C hN hw (c_X2_setD l sz0 D cs (X.1, V3, X.2.2) _ Y i hG w _) ⟨(Nat.le_of_ble_eq_true rfl), (Nat.le_of_ble_eq_true rfl), mw380, mw19, cy_X2_setD⟩ mw378 mw379 rfl hl.1.1 rfl (Nat.le_of_ble_eq_true rfl) dX2_step_96 ⟨by show 0 + k2 + k3 + 0 + 0 ≤ kc; omega, by show 0 + n2 + n3 + 0 + 0 ≤ ks; omega⟩ (fun X6 Z6 Y6 v6 k6 n6 H locs hp hw => ?_)
        obtain ⟨rfl, rfl, rfl, rfl, rfl, rfl⟩ := hp
        refine lv_goto (tgt := 190) hx hb dX2_step_99 (by decide) ?_
        exact clo (gu r.1 3 (fD w) (sumS (opc w) (r.1 3 (fA w)) (r.1 3 (fB w)) (numS w)), 0, 0, Z3 12 0 3, Z3 12 0 4) _ _ _ _ _ _ _ _ _ _ _ (by unfold execS; rw [if_pos h86]) hl hw (hS4.trans (SFp.ofU hI3 (Or.inl ⟨rfl, by decide, by decide⟩))) (GR_23 hR3) (by rw [rowE_id, upr_k (by decide)])
