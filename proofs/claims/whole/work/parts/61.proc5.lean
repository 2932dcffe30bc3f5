set_option maxHeartbeats 4000000 in
set_option maxRecDepth 100000 in
theorem c_X2_supervise (l : Launch) (sz0 : Nat) (D : va_G) (cs : Nat → ClassId) (X : Sh) (Z : ZT) (Y : va_W) (hX : HXI X) (hU : HUI X) (i : Nat) (hG : GI X i) (h gp kc ks F : Nat) (g : GS) (hI : HI X Z h gp) (hL : GL X Z i F) (hR : GR Z i F g) (hV : GInv F g) (w : Int32) (hkc : gp ≤ kc) (hks : 32832 * gp ≤ ks) : Ctr l yX2_supervise (wsM yX2_supervise cX2_supervise 4 none) ({ frames := 6, cells := kc, slots := ks, locals := 145 } : Room) sz0 D cs [.ref (X.1 12 0), .ref (X.1 20 i), .int w] X Z Y (fun X' Z' Y' v k n => Y = Y' ∧ v = none ∧ ∃ gp', SFp X Z h i gp X' Z' k n gp' ∧ GR Z' i F (supS F g w (Z 12 0 3) (Z 12 0 4)).1 ∧ Z' 12 0 = rowE (Z 12 0) (supS F g w (Z 12 0 3) (Z 12 0 4))) := by
  refine Ctr.ofW (by decide +kernel) (by intro v hv; simp at hv; rcases hv with rfl | rfl | rfl <;> rfl) (Nat.le_of_ble_eq_true rfl) ?_
  intro p e s m below meth c ls C hr hlocks hname hl hN hw
  obtain ⟨hx, hb, hml, hown, hts⟩ := id C
  have e240 : Z 24 i 0 = g 4 0 := hR.k (by decide)
  have e242 : Z 24 i 2 = g 4 2 := hR.k (by decide)
  refine lv_aload_n hx hb dX2_supervise_0 rfl (hl.at rfl) ?_
  refine lv_iload_n hx hb dX2_supervise_1 rfl (hl.at rfl) ?_
  refine w_callS C hN hw (c_X2_valueA l sz0 D cs X _ Y i hG w) ⟨(Nat.le_of_ble_eq_true rfl), (Nat.le_of_ble_eq_true rfl), mw371, mw19, cy_X2_valueA⟩ mw369 mw370 rfl hl.1.1 rfl (Nat.le_of_ble_eq_true rfl) dX2_supervise_2 ⟨by show 0 + 0 ≤ kc; omega, by show 0 + 0 ≤ ks; omega⟩ (fun X' Z' Y' v k n H locs hp hw => ?_)
  obtain ⟨rfl, rfl, rfl, rfl, rfl, rfl⟩ := hp
  rw [hR.A]
  refine w_istore_n hx hb dX2_supervise_5 rfl hl (Nat.le_of_ble_eq_true rfl) (fun ls hl => ?_)
  refine lv_iload_n hx hb dX2_supervise_6 rfl (hl.at rfl) ?_
  refine lv_bipush (v := 26) hx hb dX2_supervise_7 (by decide) ?_
  refine lv_iushr hx hb dX2_supervise_9 rfl ?_
  refine lv_topi (fun x10 e10 => ?_)
  by_cases q10_21 : x10 = 21
  · subst q10_21
    refine lv_tableIn (off := 46) (tgt := 56) hx hb dX2_supervise_10 (by decide) (by decide) (by decide) (by decide) ?_
    have e : opc w = 21 := e10.symm
    refine lv_aload_n hx hb dX2_supervise_56 rfl (hl.at rfl) ?_
    refine lv_aload_n hx hb dX2_supervise_57 rfl (hl.at rfl) ?_
    refine lv_iload_n hx hb dX2_supervise_58 rfl (hl.at rfl) ?_
    refine w_callV C hN hw (c_X2_readControl l sz0 D cs X _ Y hX i hG h gp F g hI hL hR w) ⟨(Nat.le_of_ble_eq_true rfl), (Nat.le_of_ble_eq_true rfl), mw400, mw19, cy_X2_readControl⟩ mw397 mw398 mw399 (w_rec hw (c0 := 12) (i0 := 0) (hX 12 (by decide)) rfl rfl) rfl hl.1.1 rfl (Nat.le_of_ble_eq_true rfl) dX2_supervise_59 ⟨by show 0 + 0 ≤ kc; omega, by show 0 + 0 ≤ ks; omega⟩ (fun X' Z' Y' v k n H locs hp hw => ?_)
    obtain ⟨rfl, rfl, rfl, rfl, rfl, h1, h2, h3⟩ := hp
    refine lv_goto (tgt := 154) hx hb dX2_supervise_62 (by decide) ?_
    have eC : supS F g w (Z 12 0 3) (Z 12 0 4) = rcS g w (Z 12 0 3) (Z 12 0 4) := by unfold supS; simp [e]
    exact w_vret C hw hr hlocks dX2_supervise_154 ⟨rfl, rfl, gp, h3, by rw [eC]; exact h1, by rw [eC]; exact h2⟩
  by_cases q10_22 : x10 = 22
  · subst q10_22
    refine lv_tableIn (off := 55) (tgt := 65) hx hb dX2_supervise_10 (by decide) (by decide) (by decide) (by decide) ?_
    have e : opc w = 22 := e10.symm
    refine lv_aload_n hx hb dX2_supervise_65 rfl (hl.at rfl) ?_
    refine lv_aload_n hx hb dX2_supervise_66 rfl (hl.at rfl) ?_
    refine lv_iload_n hx hb dX2_supervise_67 rfl (hl.at rfl) ?_
    refine w_callV C hN hw (c_X2_writeControl l sz0 D cs X _ Y hX i hG h gp F g hI hL hR w) ⟨(Nat.le_of_ble_eq_true rfl), (Nat.le_of_ble_eq_true rfl), mw404, mw19, cy_X2_writeControl⟩ mw401 mw402 mw403 (w_rec hw (c0 := 12) (i0 := 0) (hX 12 (by decide)) rfl rfl) rfl hl.1.1 rfl (Nat.le_of_ble_eq_true rfl) dX2_supervise_68 ⟨by show 0 + 0 ≤ kc; omega, by show 0 + 0 ≤ ks; omega⟩ (fun X' Z' Y' v k n H locs hp hw => ?_)
    obtain ⟨rfl, rfl, rfl, rfl, rfl, h1, h2, h3⟩ := hp
    refine lv_goto (tgt := 154) hx hb dX2_supervise_71 (by decide) ?_
    have eC : supS F g w (Z 12 0 3) (Z 12 0 4) = wcS g w (Z 12 0 3) (Z 12 0 4) := by unfold supS; simp [e]
    exact w_vret C hw hr hlocks dX2_supervise_154 ⟨rfl, rfl, gp, h3, by rw [eC]; exact h1, by rw [eC]; exact h2⟩
  by_cases q10_23 : x10 = 23
  · subst q10_23
    refine lv_tableIn (off := 64) (tgt := 74) hx hb dX2_supervise_10 (by decide) (by decide) (by decide) (by decide) ?_
    have e : opc w = 23 := e10.symm
    refine lv_aload_n hx hb dX2_supervise_74 rfl (hl.at rfl) ?_
    refine w_callV C hN hw (c_X0_leaveTrap l sz0 D cs X _ Y i hG) ⟨(Nat.le_of_ble_eq_true rfl), (Nat.le_of_ble_eq_true rfl), mw409, mw111, cy_X0_leaveTrap⟩ mw406 mw407 mw408 (w_rec hw (c0 := 20) (i0 := i) (hG 20 (by decide) (by decide)) rfl rfl) rfl hl.1.1 rfl (Nat.le_of_ble_eq_true rfl) dX2_supervise_75 ⟨by show 0 + 0 ≤ kc; omega, by show 0 + 0 ≤ ks; omega⟩ (fun X' Z' Y' v k n H locs hp hw => ?_)
    obtain ⟨rfl, rfl, rfl, rfl, rfl, rfl⟩ := hp
    refine lv_aload_n hx hb dX2_supervise_78 rfl (hl.at rfl) ?_
    refine lv_aload_n hx hb dX2_supervise_79 rfl (hl.at rfl) ?_
    refine w_getN C hN hw (c0 := 20) (i0 := i) rfl inA0 10 (by decide) mw653 rfl dX2_supervise_80 (hG 20 (by decide) (by decide)) rfl rfl rfl ?_
    refine lv_iconst (v := 2) hx hb dX2_supervise_83 (by decide) ?_
    refine w_ild C hw (c0 := 24) (i0 := i) dX2_supervise_84 (hG 24 (by decide) (by decide)) rfl rfl (vpk (by decide)) (j := 2) (by decide) ?_
    rw [upr_k (show (24 : Nat) ≠ 20 by decide), upr_s, upd_n (show (2 : Nat) ≠ 0 by decide), e242]
    refine w_put C hw (c0 := 12) (i0 := 0) rfl inA2 tyX2_ok nmX2 3 (by decide) mw343 rfl rfl rfl dX2_supervise_85 (hX 12 (by decide)) rfl rfl rfl rfl (Nat.le_of_ble_eq_true rfl) rfl (fun H locs hw => ?_)
    refine lv_goto (tgt := 154) hx hb dX2_supervise_88 (by decide) ?_
    have eC : supS F g w (Z 12 0 3) (Z 12 0 4) = (leaveS g, 0, 0, g 4 2, Z 12 0 4) := by unfold supS; simp [e]
    rw [upr_k (show (12 : Nat) ≠ 20 by decide), upr_k (show (12 : Nat) ≠ 24 by decide)] at hw
    have hS1 := SFp.ofU (i := i) (c := 24) (b := i) (f := upd (Z 24 i) 0 (((Z 24 i 0 &&& 1792) ||| 2) ||| (if Z 24 i 0 &&& 2 = 0 then 0 else 1))) hI (Or.inl ⟨rfl, by decide, by decide⟩)
    have hS2 := hS1.trans (SFp.ofU (c := 20) (b := i) (f := upd (Z 20 i) 3 (if Z 24 i 0 &&& 4 = 0 then 0 else 1)) hS1.hI (Or.inr (Or.inr ⟨rfl, rfl, by rw [upr_k (by decide), upd_n (by decide)], by rw [upr_k (by decide), upd_n (by decide)]⟩)))
    have hG1 : GR (upr (upr Z 24 i (upd (Z 24 i) 0 (((Z 24 i 0 &&& 1792) ||| 2) ||| (if Z 24 i 0 &&& 2 = 0 then 0 else 1)))) 20 i (upd (Z 20 i) 3 (if Z 24 i 0 &&& 4 = 0 then 0 else 1))) i F (leaveS g) := by
      rw [leaveS_eq, e240]
      have q := GR_20 (d := 3) (x := if g 4 0 &&& 4 = 0 then 0 else 1) ⟨by decide, by decide⟩ (GR_24 (d := 0) (x := ((g 4 0 &&& 1792) ||| 2) ||| (if g 4 0 &&& 2 = 0 then 0 else 1)) hR)
      rw [upr_k (show (20 : Nat) ≠ 24 by decide)] at q
      exact q
    exact w_vret C hw hr hlocks dX2_supervise_154 ⟨rfl, rfl, gp, hS2.trans (SFp.ofU hS2.hI (Or.inr (Or.inl ⟨rfl, rfl⟩))), by rw [eC]; exact GR_12 hG1, by rw [eC, upr_s]; exact rowE_jump⟩
  by_cases q10_24 : x10 = 24
  · subst q10_24
    refine lv_tableIn (off := 81) (tgt := 91) hx hb dX2_supervise_10 (by decide) (by decide) (by decide) (by decide) ?_
    have e : opc w = 24 := e10.symm
    refine lv_aload_n hx hb dX2_supervise_91 rfl (hl.at rfl) ?_
    refine w_callV C hN hw (c_X0_emptyCache l sz0 D cs X _ Y i hG) ⟨(Nat.le_of_ble_eq_true rfl), (Nat.le_of_ble_eq_true rfl), mw144, mw111, cy_X0_emptyCache⟩ mw405 mw142 mw143 (w_rec hw (c0 := 20) (i0 := i) (hG 20 (by decide) (by decide)) rfl rfl) rfl hl.1.1 rfl (Nat.le_of_ble_eq_true rfl) dX2_supervise_92 ⟨by show 0 + 0 ≤ kc; omega, by show 0 + 0 ≤ ks; omega⟩ (fun X' Z' Y' v k n H locs hp hw => ?_)
    obtain ⟨rfl, rfl, rfl, rfl, rfl, rfl⟩ := hp
    refine lv_goto (tgt := 154) hx hb dX2_supervise_95 (by decide) ?_
    have eC : supS F g w (Z 12 0 3) (Z 12 0 4) = (fillC g, 0, 0, Z 12 0 3, Z 12 0 4) := by unfold supS; simp [e]
    exact w_vret C hw hr hlocks dX2_supervise_154 ⟨rfl, rfl, gp, SFp.ofU hI (Or.inl ⟨rfl, by decide, by decide⟩), by rw [eC]; exact GR_25f hR, by rw [eC, rowE_id, upr_k (by decide)]⟩
  by_cases q10_25 : x10 = 25
  · subst q10_25
    refine lv_tableIn (off := 88) (tgt := 98) hx hb dX2_supervise_10 (by decide) (by decide) (by decide) (by decide) ?_
    have e : opc w = 25 := e10.symm
    refine lv_aload_n hx hb dX2_supervise_98 rfl (hl.at rfl) ?_
    refine w_getN C hN hw (c0 := 20) (i0 := i) rfl inA0 11 (by decide) mw654 rfl dX2_supervise_99 (hG 20 (by decide) (by decide)) rfl rfl rfl ?_
    refine lv_iload_n hx hb dX2_supervise_102 rfl (hl.at rfl) ?_
    refine lv_sipush (v := 255) hx hb dX2_supervise_103 (by decide) ?_
    refine lv_iand hx hb dX2_supervise_106 ?_
    refine lv_iconst (v := -1) hx hb dX2_supervise_107 (by decide) ?_
    refine w_ist C hw (c0 := 25) (i0 := i) dX2_supervise_108 (hG 25 (by decide) (by decide)) rfl (fun _ => rfl) (vp255 _) rfl (fun H locs hw => ?_)
    refine lv_goto (tgt := 154) hx hb dX2_supervise_109 (by decide) ?_
    have eC : supS F g w (Z 12 0 3) (Z 12 0 4) = (gu g 5 (g 3 (fA w) &&& 255).toNatClampNeg (-1), 0, 0, Z 12 0 3, Z 12 0 4) := by unfold supS; simp [e]
    exact w_vret C hw hr hlocks dX2_supervise_154 ⟨rfl, rfl, gp, SFp.ofU hI (Or.inl ⟨rfl, by decide, by decide⟩), by rw [eC]; exact GR_25 hR, by rw [eC, rowE_id, upr_k (by decide)]⟩
  by_cases q10_26 : x10 = 26
  · subst q10_26
    refine lv_tableIn (off := 102) (tgt := 112) hx hb dX2_supervise_10 (by decide) (by decide) (by decide) (by decide) ?_
    have e : opc w = 26 := e10.symm
    refine lv_aload_n hx hb dX2_supervise_112 rfl (hl.at rfl) ?_
    refine lv_aload_n hx hb dX2_supervise_113 rfl (hl.at rfl) ?_
    refine w_callV C hN hw (c_X2_waitForLine l sz0 D cs X _ Y hX i hG h gp F g hI hL hR) ⟨(Nat.le_of_ble_eq_true rfl), (Nat.le_of_ble_eq_true rfl), mw413, mw19, cy_X2_waitForLine⟩ mw410 mw411 mw412 (w_rec hw (c0 := 12) (i0 := 0) (hX 12 (by decide)) rfl rfl) rfl hl.1.1 rfl (Nat.le_of_ble_eq_true rfl) dX2_supervise_114 ⟨by show 0 + 0 ≤ kc; omega, by show 0 + 0 ≤ ks; omega⟩ (fun X' Z' Y' v k n H locs hp hw => ?_)
    obtain ⟨rfl, rfl, rfl, rfl, rfl, h1, h2, h3⟩ := hp
    refine lv_goto (tgt := 154) hx hb dX2_supervise_117 (by decide) ?_
    have eC : supS F g w (Z 12 0 3) (Z 12 0 4) = waitS g (Z 12 0 3) (Z 12 0 4) := by unfold supS; simp [e]
    exact w_vret C hw hr hlocks dX2_supervise_154 ⟨rfl, rfl, gp, h3, by rw [eC]; exact h1, by rw [eC]; exact h2⟩
  by_cases q10_27 : x10 = 27
  · subst q10_27
    refine lv_tableIn (off := 110) (tgt := 120) hx hb dX2_supervise_10 (by decide) (by decide) (by decide) (by decide) ?_
    have e : opc w = 27 := e10.symm
    refine lv_aload_n hx hb dX2_supervise_120 rfl (hl.at rfl) ?_
    refine lv_iconst (v := 3) hx hb dX2_supervise_121 (by decide) ?_
    refine w_putN C hN hw (c0 := 20) (i0 := i) rfl inA0 tyX0_ok nmX0 1 (by decide) mw641 rfl rfl rfl dX2_supervise_122 (hG 20 (by decide) (by decide)) rfl rfl rfl rfl (Nat.le_of_ble_eq_true rfl) rfl (fun H locs hw => ?_)
    refine lv_goto (tgt := 154) hx hb dX2_supervise_125 (by decide) ?_
    have eC : supS F g w (Z 12 0 3) (Z 12 0 4) = (gu g 0 1 3, 0, 0, Z 12 0 3, Z 12 0 4) := by unfold supS; simp [e]
    exact w_vret C hw hr hlocks dX2_supervise_154 ⟨rfl, rfl, gp, SFp.ofU hI (Or.inr (Or.inr ⟨rfl, rfl, by rw [upd_n (by decide)], by rw [upd_n (by decide)]⟩)), by rw [eC]; exact GR_20 ⟨by decide, by decide⟩ hR, by rw [eC, rowE_id, upr_k (by decide)]⟩
  by_cases q10_28 : x10 = 28
  · subst q10_28
    refine lv_tableIn (off := 118) (tgt := 128) hx hb dX2_supervise_10 (by decide) (by decide) (by decide) (by decide) ?_
    have e : opc w = 28 := e10.symm
    refine lv_aload_n hx hb dX2_supervise_128 rfl (hl.at rfl) ?_
    refine lv_iload_n hx hb dX2_supervise_129 rfl (hl.at rfl) ?_
    refine lv_aload_n hx hb dX2_supervise_130 rfl (hl.at rfl) ?_
    refine lv_iload_n hx hb dX2_supervise_131 rfl (hl.at rfl) ?_
    refine w_callS C hN hw (c_X2_number l sz0 D cs X _ Y w) ⟨(Nat.le_of_ble_eq_true rfl), (Nat.le_of_ble_eq_true rfl), mw377, mw19, cy_X2_number⟩ mw375 mw376 rfl hl.1.1 rfl (Nat.le_of_ble_eq_true rfl) dX2_supervise_132 ⟨by show 0 + 0 ≤ kc; omega, by show 0 + 0 ≤ ks; omega⟩ (fun X' Z' Y' v k n H locs hp hw => ?_)
    obtain ⟨rfl, rfl, rfl, rfl, rfl, rfl⟩ := hp
    refine w_callS C hN hw (c_X2_takeIn l sz0 D cs X _ Y i hG h gp F g hI hL hR _) ⟨(Nat.le_of_ble_eq_true rfl), (Nat.le_of_ble_eq_true rfl), mw416, mw19, cy_X2_takeIn⟩ mw414 mw415 rfl hl.1.1 rfl (Nat.le_of_ble_eq_true rfl) dX2_supervise_135 ⟨by show 0 + 0 ≤ kc; omega, by show 0 + 0 ≤ ks; omega⟩ (fun X' Z' Y' v k n H locs hp hw => ?_)
    obtain ⟨rfl, rfl, rfl, rfl, rfl, h1, h2, h3⟩ := hp
    refine w_callS C hN hw (c_X2_setD l sz0 D cs X _ Y i hG w _) ⟨(Nat.le_of_ble_eq_true rfl), (Nat.le_of_ble_eq_true rfl), mw380, mw19, cy_X2_setD⟩ mw378 mw379 rfl hl.1.1 rfl (Nat.le_of_ble_eq_true rfl) dX2_supervise_138 ⟨by show 0 + 0 ≤ kc; omega, by show 0 + 0 ≤ ks; omega⟩ (fun X2 Z2 Y2 v2 k2 n2 H locs hp hw => ?_)
    obtain ⟨rfl, rfl, rfl, rfl, rfl, rfl⟩ := hp
    refine lv_goto (tgt := 154) hx hb dX2_supervise_141 (by decide) ?_
    have eC : supS F g w (Z 12 0 3) (Z 12 0 4) = (gu (inS g (numS w)).1 3 (fD w) (inS g (numS w)).2, 0, 0, Z 12 0 3, Z 12 0 4) := by unfold supS; simp [e]
    exact w_vret C hw hr hlocks dX2_supervise_154 ⟨rfl, rfl, gp, h3.trans (SFp.ofU h3.hI (Or.inl ⟨rfl, by decide, by decide⟩)), by rw [eC]; exact GR_23 h1, by rw [eC, rowE_id, upr_k (by decide)]; exact h2⟩
  refine lv_tableOut (tgt := 144) hx hb dX2_supervise_10 (by have := lv_neT q10_21 (by decide : (21 : Int32).toInt = 21); have := lv_neT q10_22 (by decide : (22 : Int32).toInt = 22); have := lv_neT q10_23 (by decide : (23 : Int32).toInt = 23); have := lv_neT q10_24 (by decide : (24 : Int32).toInt = 24); have := lv_neT q10_25 (by decide : (25 : Int32).toInt = 25); have := lv_neT q10_26 (by decide : (26 : Int32).toInt = 26); have := lv_neT q10_27 (by decide : (27 : Int32).toInt = 27); have := lv_neT q10_28 (by decide : (28 : Int32).toInt = 28); omega) (by decide) ?_
  have e : opc w = x10 := e10.symm
  refine lv_aload_n hx hb dX2_supervise_144 rfl (hl.at rfl) ?_
  refine lv_aload_n hx hb dX2_supervise_145 rfl (hl.at rfl) ?_
  refine lv_iload_n hx hb dX2_supervise_146 rfl (hl.at rfl) ?_
  refine lv_iload_n hx hb dX2_supervise_147 rfl (hl.at rfl) ?_
  refine w_callS C hN hw (c_X2_number l sz0 D cs X _ Y w) ⟨(Nat.le_of_ble_eq_true rfl), (Nat.le_of_ble_eq_true rfl), mw377, mw19, cy_X2_number⟩ mw375 mw376 rfl hl.1.1 rfl (Nat.le_of_ble_eq_true rfl) dX2_supervise_148 ⟨by show 0 + 0 ≤ kc; omega, by show 0 + 0 ≤ ks; omega⟩ (fun X' Z' Y' v k n H locs hp hw => ?_)
  obtain ⟨rfl, rfl, rfl, rfl, rfl, rfl⟩ := hp
  refine w_callV C hN hw (c_X2_giveOut l sz0 D cs X _ Y hX hU i hG h gp kc ks F g hI hL hR _ _ hkc hks) ⟨(Nat.le_of_ble_eq_true rfl), (Nat.le_of_ble_eq_true rfl), mw424, mw19, cy_X2_giveOut⟩ mw421 mw422 mw423 (w_rec hw (c0 := 12) (i0 := 0) (hX 12 (by decide)) rfl rfl) rfl hl.1.1 rfl (Nat.le_of_ble_eq_true rfl) dX2_supervise_151 ⟨by show 0 + kc ≤ kc; omega, by show 0 + ks ≤ ks; omega⟩ (fun X' Z' Y' v k n H locs hp hw => ?_)
  obtain ⟨rfl, rfl, gp1, hS, h1, h2⟩ := hp
  have hS0 := hS
  obtain ⟨⟨V, rfl⟩, -⟩ := hS
  have eC : supS F g w (Z 12 0 3) (Z 12 0 4) = (outS F g (g 3 (fA w)) (numS w), 0, 0, Z 12 0 3, Z 12 0 4) := by unfold supS; rw [e, if_neg q10_21, if_neg q10_22, if_neg q10_23, if_neg q10_24, if_neg q10_25, if_neg q10_26, if_neg q10_27, if_neg q10_28]
  exact w_vret C hw hr hlocks dX2_supervise_154 ⟨rfl, rfl, gp1, by rw [show 0 + 0 + 0 + k = k by omega, show 0 + 0 + 0 + n = n by omega]; exact hS0, by rw [eC]; exact h1, by rw [eC, rowE_id]; exact h2⟩

set_option maxHeartbeats 4000000 in
set_option maxRecDepth 100000 in
theorem c_X2_useMemory (l : Launch) (sz0 : Nat) (D : va_G) (cs : Nat → ClassId) (X : Sh) (Z : ZT) (Y : va_W) (hX : HXI X) (hU : HUI X) (i : Nat) (hG : GI X i) (h gp kc ks F : Nat) (g : GS) (hI : HI X Z h gp) (hL : GL X Z i F) (hR : GR Z i F g) (hV : GInv F g) (w : Int32) (h120 : Z 12 0 1 = 0) (hkc : gp ≤ kc) (hks : 32832 * gp ≤ ks) : Ctr l yX2_useMemory (wsM yX2_useMemory cX2_useMemory 6 none) ({ frames := 6, cells := kc, slots := ks, locals := 151 } : Room) sz0 D cs [.ref (X.1 12 0), .ref (X.1 20 i), .int w] X Z Y (fun X' Z' Y' v k n => Y = Y' ∧ v = none ∧ ∃ gp', SFp X Z h i gp X' Z' k n gp' ∧ GR Z' i F (useS F g w).1 ∧ Z' 12 0 = (if (useS F g w).2.1 = 0 then Z 12 0 else upd (upd (Z 12 0) 1 (useS F g w).2.1) 2 (useS F g w).2.2.1)) := by
  refine Ctr.ofW (by decide +kernel) (by intro v hv; simp at hv; rcases hv with rfl | rfl | rfl <;> rfl) (Nat.le_of_ble_eq_true rfl) ?_
  intro p e s m below meth c ls C hr hlocks hname hl hN hw
  obtain ⟨hx, hb, hml, hown, hts⟩ := id C
  have hF64 : F ≤ 64 := hL.2.2.2.2
  have hi : i < 8 := hL.1
  refine lv_iload_n hx hb dX2_useMemory_0 rfl (hl.at rfl) ?_
  refine lv_bipush (v := 26) hx hb dX2_useMemory_1 (by decide) ?_
  refine lv_iushr hx hb dX2_useMemory_3 rfl ?_
  refine w_istore_n hx hb dX2_useMemory_4 rfl hl (Nat.le_of_ble_eq_true rfl) (fun ls hl => ?_)
  refine lv_aload_n hx hb dX2_useMemory_5 rfl (hl.at rfl) ?_
  refine lv_aload_n hx hb dX2_useMemory_6 rfl (hl.at rfl) ?_
  refine lv_aload_n hx hb dX2_useMemory_7 rfl (hl.at rfl) ?_
  refine lv_iload_n hx hb dX2_useMemory_8 rfl (hl.at rfl) ?_
  refine w_callS C hN hw (c_X2_valueA l sz0 D cs X _ Y i hG w) ⟨(Nat.le_of_ble_eq_true rfl), (Nat.le_of_ble_eq_true rfl), mw371, mw19, cy_X2_valueA⟩ mw369 mw370 rfl hl.1.1 rfl (Nat.le_of_ble_eq_true rfl) dX2_useMemory_9 ⟨by show 0 + 0 ≤ kc; omega, by show 0 + 0 ≤ ks; omega⟩ (fun X' Z' Y' v k n H locs hp hw => ?_)
  obtain ⟨rfl, rfl, rfl, rfl, rfl, rfl⟩ := hp
  rw [hR.A]
  refine lv_iload_n hx hb dX2_useMemory_12 rfl (hl.at rfl) ?_
  refine w_callS C hN hw (c_X2_number l sz0 D cs X _ Y w) ⟨(Nat.le_of_ble_eq_true rfl), (Nat.le_of_ble_eq_true rfl), mw377, mw19, cy_X2_number⟩ mw375 mw376 rfl hl.1.1 rfl (Nat.le_of_ble_eq_true rfl) dX2_useMemory_13 ⟨by show 0 + 0 ≤ kc; omega, by show 0 + 0 ≤ ks; omega⟩ (fun X' Z' Y' v k n H locs hp hw => ?_)
  obtain ⟨rfl, rfl, rfl, rfl, rfl, rfl⟩ := hp
  refine lv_iadd hx hb dX2_useMemory_16 ?_
  obtain ⟨ad, ead⟩ : ∃ ad, ad = g 3 (fA w) + numS w := ⟨_, rfl⟩
  rw [← ead]
  have join : ∀ (kind : Int32), kind = (if opc w = 11 then 12 else 13) → kind ≠ 0 → ∀ (H : Heap) (locs : List Loc) (ls : Array Slot) (sa sb : Option Value), lo ls [some (.ref (X.1 12 0)), some (.ref (X.1 20 i)), some (.int w), some (.int (opc w)), sa, sb] → Wd sz0 D cs s X Z Y H locs → W p l e ({ frames := 6, cells := kc, slots := ks, locals := 151 } : Room) s m ([.ref (X.1 12 0), .ref (X.1 20 i), .int w] : List Value).toArray below meth c H locs 0 0 (xQ below (CQ sz0 D cs (fun X' Z' Y' v k n => Y = Y' ∧ v = none ∧ ∃ gp', SFp X Z h i gp X' Z' k n gp' ∧ GR Z' i F (useS F g w).1 ∧ Z' 12 0 = (if (useS F g w).2.1 = 0 then Z 12 0 else upd (upd (Z 12 0) 1 (useS F g w).2.1) 2 (useS F g w).2.2.1))) ([.ref (X.1 12 0), .ref (X.1 20 i), .int w] : List Value).toArray s (Asz sz0)) (F0 m 30 ls [.int kind, .int ad, .ref (X.1 20 i), .ref (X.1 12 0)]) := by
    intro kind ek hk0 H locs ls sa sb hl hw
    refine w_callV C hN hw (c_X2_locate l sz0 D cs X _ Y hX hU i hG h gp kc ks F g hI hL hR hV ad kind hk0 hkc hks) ⟨(Nat.le_of_ble_eq_true rfl), (Nat.le_of_ble_eq_true rfl), mw355, mw19, cy_X2_locate⟩ mw352 mw353 mw354 (w_rec hw (c0 := 12) (i0 := 0) (hX 12 (by decide)) rfl rfl) rfl hl.1.1 rfl (Nat.le_of_ble_eq_true rfl) dX2_useMemory_30 ⟨by show 0 + kc ≤ kc; omega, by show 0 + ks ≤ ks; omega⟩ (fun X1 Z1 Y1 v1 k1 n1 H locs hp hw => ?_)
    obtain ⟨rfl, gp1, hS, hR1, rfl, h12⟩ := hp
    have hS0 := hS
    have hL1 := hS.gl hL
    obtain ⟨m1, m2, m3⟩ := locS_ok (a := ad) hF64 hV.c hk0
    obtain ⟨r, er⟩ : ∃ r, r = locS F g ad kind := ⟨_, rfl⟩
    have eU : useS F g w = if ¬ r.2.1 = 0 then r else (if opc w = 11 then (if opc w = 12 then r.1 else gu r.1 3 (fD w) (r.1 1 r.2.2.2.toNatClampNeg)) else gu (if opc w = 12 then r.1 else gu r.1 3 (fD w) (r.1 1 r.2.2.2.toNatClampNeg)) 1 r.2.2.2.toNatClampNeg (g 3 (fB w)), 0, 0, 0) := by
      rw [er, ek, ead]; rfl
    rw [← er] at hR1 h12 m1 m2 m3 ⊢
    obtain ⟨⟨V1, rfl⟩, hI1, hk1, hn1, -⟩ := hS
    refine w_istore hx hb dX2_useMemory_33 hl (Nat.le_of_ble_eq_true rfl) (fun ls hl => ?_)
    refine lv_aload_n hx hb dX2_useMemory_35 rfl (hl.at rfl) ?_
    refine w_get C hw (c0 := 12) (i0 := 0) rfl inA2 1 (by decide) mw341 rfl dX2_useMemory_36 (hX 12 (by decide)) rfl rfl rfl ?_
    have h39e : Z1 12 0 1 = if r.2.1 = 0 then 0 else r.2.1 := by
      rw [h12]
      by_cases q : r.2.1 = 0
      · rw [if_pos q, if_pos q]; exact h120
      · rw [if_neg q, if_neg q, upd_n (by decide), upd_s]
    rw [h39e]
    refine lv_if_eq (tgt := 43) hx hb dX2_useMemory_39 (by decide) (fun h39 => ?_) (fun h39 => ?_)
    · have ht : r.2.1 = 0 := by
        by_cases q : r.2.1 = 0
        · exact q
        · rw [if_neg q] at h39; exact h39
      rw [if_neg (fun q => q ht)] at eU
      rw [if_pos ht] at h12
      obtain ⟨an, han, ean⟩ := m3 ht
      have ecl : r.2.2.2.toNatClampNeg = an := by rw [ean, nI_clamp (by omega)]
      rw [ecl] at eU
      rw [ean] at hl
      refine lv_aload_n hx hb dX2_useMemory_43 rfl (hl.at rfl) ?_
      refine lv_iload_n hx hb dX2_useMemory_44 rfl (hl.at rfl) ?_
      refine w_callS C hN hw (c_X2_valueB l sz0 D cs (X.1, V1, X.2.2) Z1 Y i hG w) ⟨(Nat.le_of_ble_eq_true rfl), (Nat.le_of_ble_eq_true rfl), mw374, mw19, cy_X2_valueB⟩ mw372 mw373 rfl hl.1.1 rfl (Nat.le_of_ble_eq_true rfl) dX2_useMemory_45 ⟨by show 0 + k1 + 0 ≤ kc; omega, by show 0 + n1 + 0 ≤ ks; omega⟩ (fun X' Z' Y' v k n H locs hp hw => ?_)
      obtain ⟨rfl, rfl, rfl, rfl, rfl, rfl⟩ := hp
      rw [hR1.B, m1 3 (by decide) (by decide)]
      refine w_istore hx hb dX2_useMemory_48 hl (Nat.le_of_ble_eq_true rfl) (fun ls hl => ?_)
      have j71 : ∀ (X2 : Sh) (Z2 : ZT) (K N gp2 : Nat) (g2 : GS) (H : Heap) (locs : List Loc) (ls : Array Slot), lo ls [some (.ref (X.1 12 0)), some (.ref (X.1 20 i)), some (.int w), some (.int (opc w)), some (.int (nI an)), some (.int (g 3 (fB w)))] → Wd sz0 D cs s X2 Z2 Y H locs → SFp X Z h i gp X2 Z2 K N gp2 → GR Z2 i F g2 → Z2 12 0 = Z 12 0 → useS F g w = (if opc w = 11 then g2 else gu g2 1 an (g 3 (fB w)), 0, 0, 0) → W p l e ({ frames := 6, cells := kc, slots := ks, locals := 151 } : Room) s m ([.ref (X.1 12 0), .ref (X.1 20 i), .int w] : List Value).toArray below meth c H locs K N (xQ below (CQ sz0 D cs (fun X' Z' Y' v k n => Y = Y' ∧ v = none ∧ ∃ gp', SFp X Z h i gp X' Z' k n gp' ∧ GR Z' i F (useS F g w).1 ∧ Z' 12 0 = (if (useS F g w).2.1 = 0 then Z 12 0 else upd (upd (Z 12 0) 1 (useS F g w).2.1) 2 (useS F g w).2.2.1))) ([.ref (X.1 12 0), .ref (X.1 20 i), .int w] : List Value).toArray s (Asz sz0)) (F0 m 71 ls []) := by
        intro X2 Z2 K N gp2 g2 H locs ls hl hw hS2 hR2 h122 eU2
        have hS20 := hS2
        have hL2 := hS2.gl hL
        obtain ⟨⟨V2, rfl⟩, hI2, hk2, hn2, -⟩ := hS2
        refine lv_iload_n hx hb dX2_useMemory_71 rfl (hl.at rfl) ?_
        refine lv_bipush (v := 11) hx hb dX2_useMemory_72 (by decide) ?_
        refine lv_icmp_eq (tgt := 89) hx hb dX2_useMemory_74 (by decide) (fun h74 => ?_) (fun h74 => ?_)
        · rw [if_pos (show opc w = 11 from h74)] at eU2
          exact w_vret C hw hr hlocks dX2_useMemory_89 ⟨rfl, rfl, gp2, hS20, by rw [eU2]; exact hR2, by rw [eU2, if_pos rfl]; exact h122⟩
        · rw [if_neg (show ¬ opc w = 11 from h74)] at eU2
          refine lv_aload_n hx hb dX2_useMemory_77 rfl (hl.at rfl) ?_
          refine w_get C hw (c0 := 12) (i0 := 0) rfl inA2 0 (by decide) mw41 rfl dX2_useMemory_78 (hX 12 (by decide)) rfl rfl rfl ?_
          refine lv_aload_n hx hb dX2_useMemory_81 rfl (hl.at rfl) ?_
          refine lv_iload hx hb dX2_useMemory_82 (hl.at rfl) ?_
          refine lv_iload hx hb dX2_useMemory_84 (hl.at rfl) ?_
          refine w_callV C hN hw (c_X1_write l sz0 D cs (X.1, V2, X.2.2) Z2 Y hX hU i hG h gp2 gp2 (32832 * gp2) F hI2 hL2 (nI an) (g 3 (fB w)) (Nat.le_refl _) (Nat.le_refl _)) ⟨(Nat.le_of_ble_eq_true rfl), (Nat.le_of_ble_eq_true rfl), mw189, mw15, cy_X1_write⟩ mw365 mw187 mw188 (w_rec hw (c0 := 2) (i0 := 0) (hX 2 (by decide)) rfl rfl) rfl hl.1.1 rfl (Nat.le_of_ble_eq_true rfl) dX2_useMemory_86 ⟨by show K + gp2 ≤ kc; omega, by show N + 32832 * gp2 ≤ ks; omega⟩ (fun X3 Z3 Y3 v3 k3 n3 H locs hp hw => ?_)
          obtain ⟨rfl, rfl, hM3⟩ := hp
          have hR3 := GR_write hM3 hL2 han rfl hR2
          obtain ⟨gp3, hS3⟩ := SFp.ofW hM3
          have h123 := hM3.r12
          have hS30 := hS3
          obtain ⟨⟨V3, rfl⟩, -⟩ := hS3
          exact w_vret C hw hr hlocks dX2_useMemory_89 ⟨rfl, rfl, gp3, hS20.trans hS30, by rw [eU2]; exact hR3, by rw [eU2, if_pos rfl, h123]; exact h122⟩
      refine lv_iload_n hx hb dX2_useMemory_50 rfl (hl.at rfl) ?_
      refine lv_bipush (v := 12) hx hb dX2_useMemory_51 (by decide) ?_
      refine lv_icmp_eq (tgt := 71) hx hb dX2_useMemory_53 (by decide) (fun h53 => ?_) (fun h53 => ?_)
      · have h53 : opc w = 12 := h53
        rw [if_pos h53] at eU
        exact j71 _ _ _ _ _ _ _ _ _ hl hw (by rw [show 0 + k1 + 0 = k1 by omega, show 0 + n1 + 0 = n1 by omega]; exact hS0) hR1 h12 eU
      · have h53 : ¬ opc w = 12 := h53
        rw [if_neg h53] at eU
        refine lv_aload_n hx hb dX2_useMemory_56 rfl (hl.at rfl) ?_
        refine lv_iload_n hx hb dX2_useMemory_57 rfl (hl.at rfl) ?_
        refine lv_aload_n hx hb dX2_useMemory_58 rfl (hl.at rfl) ?_
        refine w_get C hw (c0 := 12) (i0 := 0) rfl inA2 0 (by decide) mw41 rfl dX2_useMemory_59 (hX 12 (by decide)) rfl rfl rfl ?_
        refine lv_aload_n hx hb dX2_useMemory_62 rfl (hl.at rfl) ?_
        refine lv_iload hx hb dX2_useMemory_63 (hl.at rfl) ?_
        refine w_callV C hN hw (c_X1_read l sz0 D cs (X.1, V1, X.2.2) Z1 Y hX hU i hG h gp1 gp1 (32832 * gp1) F hI1 hL1 (nI an) (Nat.le_refl _) (Nat.le_refl _)) ⟨(Nat.le_of_ble_eq_true rfl), (Nat.le_of_ble_eq_true rfl), mw364, mw15, cy_X1_read⟩ mw361 mw362 mw363 (w_rec hw (c0 := 2) (i0 := 0) (hX 2 (by decide)) rfl rfl) rfl hl.1.1 rfl (Nat.le_of_ble_eq_true rfl) dX2_useMemory_65 ⟨by show 0 + k1 + 0 + gp1 ≤ kc; omega, by show 0 + n1 + 0 + 32832 * gp1 ≤ ks; omega⟩ (fun X2 Z2 Y2 v2 k2 n2 H locs hp hw => ?_)
        obtain ⟨rfl, rfl, hM2⟩ := hp
        have hR2 := GR_HMs hM2 hi hL1.2.1 hR1
        obtain ⟨gp2, hS2⟩ := SFp.ofHM (i := i) hM2 (fun _ _ _ _ => rfl)
        have h122 := hM2.r12
        have hS20 := hS2
        obtain ⟨⟨V2, rfl⟩, hI2, hk2, hn2, -⟩ := hS2
        rw [rdv_g hF64 han hR1]
        refine w_callS C hN hw (c_X2_setD l sz0 D cs (X.1, V2, X.2.2) Z2 Y i hG w _) ⟨(Nat.le_of_ble_eq_true rfl), (Nat.le_of_ble_eq_true rfl), mw380, mw19, cy_X2_setD⟩ mw378 mw379 rfl hl.1.1 rfl (Nat.le_of_ble_eq_true rfl) dX2_useMemory_68 ⟨by show 0 + k1 + 0 + k2 + 0 ≤ kc; omega, by show 0 + n1 + 0 + n2 + 0 ≤ ks; omega⟩ (fun X4 Z4 Y4 v4 k4 n4 H locs hp hw => ?_)
        obtain ⟨rfl, rfl, rfl, rfl, rfl, rfl⟩ := hp
        have hSS := (hS0.trans hS20).trans (SFp.ofU (c := 23) (b := i) (f := upd (Z2 23 i) (fD w) (r.1 1 an)) hI2 (Or.inl ⟨rfl, by decide, by decide⟩))
        exact j71 _ _ _ _ _ _ _ _ _ hl hw (by rw [show 0 + k1 + 0 + k2 + 0 = k1 + k2 + 0 by omega, show 0 + n1 + 0 + n2 + 0 = n1 + n2 + 0 by omega]; exact hSS) (GR_23 hR2) (by rw [upr_k (by decide), h122, h12]) eU
    · have ht : ¬ r.2.1 = 0 := fun q => by rw [if_pos q] at h39; exact h39 rfl
      rw [if_pos ht] at eU
      exact w_vret C hw hr hlocks dX2_useMemory_42 ⟨rfl, rfl, gp1, by rw [show 0 + k1 = k1 by omega, show 0 + n1 = n1 by omega]; exact hS0, by rw [eU]; exact hR1, by rw [eU]; exact h12⟩
  refine lv_iload_n hx hb dX2_useMemory_17 rfl (hl.at rfl) ?_
  refine lv_bipush (v := 11) hx hb dX2_useMemory_18 (by decide) ?_
  refine lv_icmp_ne (tgt := 28) hx hb dX2_useMemory_20 (by decide) (fun h20 => ?_) (fun h20 => ?_)
  · have h20 : ¬ opc w = 11 := h20
    refine lv_bipush (v := 13) hx hb dX2_useMemory_28 (by decide) ?_
    exact join 13 (by rw [if_neg h20]) (by decide) _ _ _ _ _ hl hw
  · have h20 : opc w = 11 := h20
    refine lv_bipush (v := 12) hx hb dX2_useMemory_23 (by decide) ?_
    refine lv_goto (tgt := 30) hx hb dX2_useMemory_25 (by decide) ?_
    exact join 12 (by rw [if_pos h20]) (by decide) _ _ _ _ _ hl hw
