set_option maxHeartbeats 4000000 in
set_option maxRecDepth 100000 in
theorem c_X2_writeControl (l : Launch) (sz0 : Nat) (D : va_G) (cs : Nat → ClassId) (X : Sh) (Z : ZT) (Y : va_W) (hX : HXI X) (i : Nat) (hG : GI X i) (h gp F : Nat) (g : GS) (hI : HI X Z h gp) (hL : GL X Z i F) (hR : GR Z i F g) (w : Int32) : Ctr l yX2_writeControl (wsM yX2_writeControl cX2_writeControl 5 none) ({ frames := 2, cells := 0, slots := 0, locals := 43 } : Room) sz0 D cs [.ref (X.1 12 0), .ref (X.1 20 i), .int w] X Z Y (Pz X Y (fun Z' v => v = none ∧ GR Z' i F (wcS g w (Z 12 0 3) (Z 12 0 4)).1 ∧ Z' 12 0 = rowE (Z 12 0) (wcS g w (Z 12 0 3) (Z 12 0 4)) ∧ SFp X Z h i gp X Z' 0 0 gp)) := by
  refine Ctr.ofW (by decide +kernel) (by intro v hv; simp at hv; rcases hv with rfl | rfl | rfl <;> rfl) (Nat.le_of_ble_eq_true rfl) ?_
  intro p e s m below meth c ls C hr hlocks hname hl hN hw
  obtain ⟨hx, hb, hml, hown, hts⟩ := id C
  refine lv_iload_n hx hb dX2_writeControl_0 rfl (hl.at rfl) ?_
  refine w_callS C hN hw (c_X2_number l sz0 D cs X _ Y w) ⟨(Nat.le_of_ble_eq_true rfl), (Nat.le_of_ble_eq_true rfl), mw377, mw19, cy_X2_number⟩ mw375 mw376 rfl hl.1.1 rfl (Nat.le_of_ble_eq_true rfl) dX2_writeControl_1 ⟨Nat.le_of_ble_eq_true rfl, Nat.le_of_ble_eq_true rfl⟩ (fun X' Z' Y' v k n H locs hp hw => ?_)
  obtain ⟨rfl, rfl, rfl, rfl, rfl, rfl⟩ := hp
  refine w_istore_n hx hb dX2_writeControl_4 rfl hl (Nat.le_of_ble_eq_true rfl) (fun ls hl => ?_)
  refine lv_aload_n hx hb dX2_writeControl_5 rfl (hl.at rfl) ?_
  refine lv_iload_n hx hb dX2_writeControl_6 rfl (hl.at rfl) ?_
  refine w_callS C hN hw (c_X2_valueA l sz0 D cs X _ Y i hG w) ⟨(Nat.le_of_ble_eq_true rfl), (Nat.le_of_ble_eq_true rfl), mw371, mw19, cy_X2_valueA⟩ mw369 mw370 rfl hl.1.1 rfl (Nat.le_of_ble_eq_true rfl) dX2_writeControl_7 ⟨Nat.le_of_ble_eq_true rfl, Nat.le_of_ble_eq_true rfl⟩ (fun X' Z' Y' v k n H locs hp hw => ?_)
  obtain ⟨rfl, rfl, rfl, rfl, rfl, rfl⟩ := hp
  rw [hR.A]
  refine w_istore hx hb dX2_writeControl_10 hl (Nat.le_of_ble_eq_true rfl) (fun ls hl => ?_)
  refine lv_iload_n hx hb dX2_writeControl_12 rfl (hl.at rfl) ?_
  refine lv_if_lt (tgt := 22) hx hb dX2_writeControl_13 (by decide) (fun h13 => ?_) (fun h13 => ?_)
  · refine lv_aload_n hx hb dX2_writeControl_22 rfl (hl.at rfl) ?_
    refine lv_iconst (v := 2) hx hb dX2_writeControl_23 (by decide) ?_
    refine lv_iload_n hx hb dX2_writeControl_24 rfl (hl.at rfl) ?_
    refine w_callV C hN hw (c_X2_refuse l sz0 D cs X _ Y hX 2 w) ⟨(Nat.le_of_ble_eq_true rfl), (Nat.le_of_ble_eq_true rfl), mw360, mw19, cy_X2_refuse⟩ mw357 mw358 mw359 (w_rec hw (c0 := 12) (i0 := 0) (hX 12 (by decide)) rfl rfl) rfl hl.1.1 rfl (Nat.le_of_ble_eq_true rfl) dX2_writeControl_25 ⟨Nat.le_of_ble_eq_true rfl, Nat.le_of_ble_eq_true rfl⟩ (fun X' Z' Y' v k n H locs hp hw => ?_)
    obtain ⟨rfl, rfl, rfl, rfl, rfl, rfl⟩ := hp
    refine lv_pop hx hb dX2_writeControl_28 rfl ?_
    refine lv_goto (tgt := 79) hx hb dX2_writeControl_29 (by decide) ?_
    have eC : wcS g w (Z 12 0 3) (Z 12 0 4) = (g, 2, w, Z 12 0 3, Z 12 0 4) := by unfold wcS; rw [if_pos (Or.inl h13)]
    exact w_vret C hw hr hlocks dX2_writeControl_79 ⟨rfl, rfl, rfl, rfl, rfl, by rw [eC]; exact GR_12 hR, by rw [eC, upr_s]; unfold rowE; rw [if_neg (show ¬ (2 : Int32) = 0 by decide)], SFp.ofU hI (Or.inr (Or.inl ⟨rfl, rfl⟩))⟩
  · refine lv_iload_n hx hb dX2_writeControl_16 rfl (hl.at rfl) ?_
    refine lv_bipush (v := 9) hx hb dX2_writeControl_17 (by decide) ?_
    refine lv_icmp_lt (tgt := 32) hx hb dX2_writeControl_19 (by decide) (fun h19 => ?_) (fun h19 => ?_)
    · have hin : ¬ (numS w < 0 ∨ ¬ numS w < 9) := fun q => q.elim h13 (fun q => q h19)
      have hv9 : vp_in (numS w) 9 := vpr (N := 9) (by decide) h13 (fun q => Int32.not_lt.mpr q h19)
      have hv : vp_in (numS w) 10 := fun q => hv9 (q.elim Or.inl (fun q => Or.inr (by omega)))
      refine lv_iload_n hx hb dX2_writeControl_32 rfl (hl.at rfl) ?_
      refine lv_bipush (v := 8) hx hb dX2_writeControl_33 (by decide) ?_
      refine lv_icmp_ne (tgt := 49) hx hb dX2_writeControl_35 (by decide) (fun h35 => ?_) (fun h35 => ?_)
      · have j69 : ∀ (x : Int32) (H : Heap) (locs : List Loc) (ls : Array Slot), lo ls [some (.ref (X.1 12 0)), some (.ref (X.1 20 i)), some (.int w), some (.int (numS w)), some (.int (g 3 (fA w)))] → x = (if numS w = 0 then g 3 (fA w) &&& 1799 else g 3 (fA w)) → Wd sz0 D cs s X Z Y H locs → W p l e ({ frames := 2, cells := 0, slots := 0, locals := 43 } : Room) s m ([.ref (X.1 12 0), .ref (X.1 20 i), .int w] : List Value).toArray below meth c H locs 0 0 (xQ below (CQ sz0 D cs (Pz X Y (fun Z' v => v = none ∧ GR Z' i F (wcS g w (Z 12 0 3) (Z 12 0 4)).1 ∧ Z' 12 0 = rowE (Z 12 0) (wcS g w (Z 12 0 3) (Z 12 0 4)) ∧ SFp X Z h i gp X Z' 0 0 gp))) ([.ref (X.1 12 0), .ref (X.1 20 i), .int w] : List Value).toArray s (Asz sz0)) (F0 m 69 ls [.int x, .int (numS w), .ref (X.1 24 i)]) := by
          intro x H locs ls hl hx9 hw
          refine w_ist C hw (c0 := 24) (i0 := i) dX2_writeControl_69 (hG 24 (by decide) (by decide)) rfl (fun _ => rfl) hv rfl (fun H locs hw => ?_)
          refine lv_iload_n hx hb dX2_writeControl_70 rfl (hl.at rfl) ?_
          refine lv_iconst (v := 5) hx hb dX2_writeControl_71 (by decide) ?_
          refine lv_icmp_ne (tgt := 79) hx hb dX2_writeControl_72 (by decide) (fun h72 => ?_) (fun h72 => ?_)
          · have eC : wcS g w (Z 12 0 3) (Z 12 0 4) = (gu g 4 (numS w).toNatClampNeg x, 0, 0, Z 12 0 3, Z 12 0 4) := by unfold wcS; rw [if_neg hin, if_neg h35, if_neg h72, hx9]
            exact w_vret C hw hr hlocks dX2_writeControl_79 ⟨rfl, rfl, rfl, rfl, rfl, by rw [eC]; exact GR_24 hR, by rw [eC, rowE_id, upr_k (by decide)], SFp.ofU hI (Or.inl ⟨rfl, by decide, by decide⟩)⟩
          · refine lv_aload_n hx hb dX2_writeControl_75 rfl (hl.at rfl) ?_
            refine w_callV C hN hw (c_X0_emptyCache l sz0 D cs X _ Y i hG) ⟨(Nat.le_of_ble_eq_true rfl), (Nat.le_of_ble_eq_true rfl), mw144, mw111, cy_X0_emptyCache⟩ mw405 mw142 mw143 (w_rec hw (c0 := 20) (i0 := i) (hG 20 (by decide) (by decide)) rfl rfl) rfl hl.1.1 rfl (Nat.le_of_ble_eq_true rfl) dX2_writeControl_76 ⟨Nat.le_of_ble_eq_true rfl, Nat.le_of_ble_eq_true rfl⟩ (fun X' Z' Y' v k n H locs hp hw => ?_)
            obtain ⟨rfl, rfl, rfl, rfl, rfl, rfl⟩ := hp
            have eC : wcS g w (Z 12 0 3) (Z 12 0 4) = (fillC (gu g 4 (numS w).toNatClampNeg x), 0, 0, Z 12 0 3, Z 12 0 4) := by unfold wcS; rw [if_neg hin, if_neg h35, if_pos h72, hx9]
            have hS1 := SFp.ofU (i := i) (c := 24) (b := i) (f := upd (Z 24 i) (numS w).toNatClampNeg x) hI (Or.inl ⟨rfl, by decide, by decide⟩)
            exact w_vret C hw hr hlocks dX2_writeControl_79 ⟨rfl, rfl, rfl, rfl, rfl, by rw [eC]; exact GR_25f (GR_24 hR), by rw [eC, rowE_id, upr_k (by decide), upr_k (by decide)], hS1.trans (SFp.ofU hS1.hI (Or.inl ⟨rfl, by decide, by decide⟩))⟩
        refine lv_aload_n hx hb dX2_writeControl_49 rfl (hl.at rfl) ?_
        refine w_getN C hN hw (c0 := 20) (i0 := i) rfl inA0 10 (by decide) mw653 rfl dX2_writeControl_50 (hG 20 (by decide) (by decide)) rfl rfl rfl ?_
        refine lv_iload_n hx hb dX2_writeControl_53 rfl (hl.at rfl) ?_
        refine lv_iload_n hx hb dX2_writeControl_54 rfl (hl.at rfl) ?_
        refine lv_if_ne (tgt := 67) hx hb dX2_writeControl_55 (by decide) (fun h55 => ?_) (fun h55 => ?_)
        · refine lv_iload hx hb dX2_writeControl_67 (hl.at rfl) ?_
          exact j69 _ _ _ _ hl (by rw [if_neg h55]) hw
        · refine lv_iload hx hb dX2_writeControl_58 (hl.at rfl) ?_
          refine lv_sipush (v := 1799) hx hb dX2_writeControl_60 (by decide) ?_
          refine lv_iand hx hb dX2_writeControl_63 ?_
          refine lv_goto (tgt := 69) hx hb dX2_writeControl_64 (by decide) ?_
          exact j69 _ _ _ _ hl (by rw [if_pos h55]) hw
      · refine lv_aload_n hx hb dX2_writeControl_38 rfl (hl.at rfl) ?_
        refine lv_iload hx hb dX2_writeControl_39 (hl.at rfl) ?_
        refine lv_iconst (v := 1) hx hb dX2_writeControl_41 (by decide) ?_
        refine lv_iadd hx hb dX2_writeControl_42 ?_
        refine w_put C hw (c0 := 12) (i0 := 0) rfl inA2 tyX2_ok nmX2 4 (by decide) mw344 rfl rfl rfl dX2_writeControl_43 (hX 12 (by decide)) rfl rfl rfl rfl (Nat.le_of_ble_eq_true rfl) rfl (fun H locs hw => ?_)
        refine lv_goto (tgt := 79) hx hb dX2_writeControl_46 (by decide) ?_
        have eC : wcS g w (Z 12 0 3) (Z 12 0 4) = (g, 0, 0, Z 12 0 3, g 3 (fA w) + 1) := by unfold wcS; rw [if_neg hin, if_pos h35]
        exact w_vret C hw hr hlocks dX2_writeControl_79 ⟨rfl, rfl, rfl, rfl, rfl, by rw [eC]; exact GR_12 hR, by rw [eC, upr_s]; unfold rowE; rw [if_pos rfl, upd_id], SFp.ofU hI (Or.inr (Or.inl ⟨rfl, rfl⟩))⟩
    · refine lv_aload_n hx hb dX2_writeControl_22 rfl (hl.at rfl) ?_
      refine lv_iconst (v := 2) hx hb dX2_writeControl_23 (by decide) ?_
      refine lv_iload_n hx hb dX2_writeControl_24 rfl (hl.at rfl) ?_
      refine w_callV C hN hw (c_X2_refuse l sz0 D cs X _ Y hX 2 w) ⟨(Nat.le_of_ble_eq_true rfl), (Nat.le_of_ble_eq_true rfl), mw360, mw19, cy_X2_refuse⟩ mw357 mw358 mw359 (w_rec hw (c0 := 12) (i0 := 0) (hX 12 (by decide)) rfl rfl) rfl hl.1.1 rfl (Nat.le_of_ble_eq_true rfl) dX2_writeControl_25 ⟨Nat.le_of_ble_eq_true rfl, Nat.le_of_ble_eq_true rfl⟩ (fun X' Z' Y' v k n H locs hp hw => ?_)
      obtain ⟨rfl, rfl, rfl, rfl, rfl, rfl⟩ := hp
      refine lv_pop hx hb dX2_writeControl_28 rfl ?_
      refine lv_goto (tgt := 79) hx hb dX2_writeControl_29 (by decide) ?_
      have eC : wcS g w (Z 12 0 3) (Z 12 0 4) = (g, 2, w, Z 12 0 3, Z 12 0 4) := by unfold wcS; rw [if_pos (Or.inr h19)]
      exact w_vret C hw hr hlocks dX2_writeControl_79 ⟨rfl, rfl, rfl, rfl, rfl, by rw [eC]; exact GR_12 hR, by rw [eC, upr_s]; unfold rowE; rw [if_neg (show ¬ (2 : Int32) = 0 by decide)], SFp.ofU hI (Or.inr (Or.inl ⟨rfl, rfl⟩))⟩

set_option maxHeartbeats 4000000 in
set_option maxRecDepth 100000 in
theorem c_X2_giveOut (l : Launch) (sz0 : Nat) (D : va_G) (cs : Nat → ClassId) (X : Sh) (Z : ZT) (Y : va_W) (hX : HXI X) (hU : HUI X) (i : Nat) (hG : GI X i) (h gp kc ks F : Nat) (g : GS) (hI : HI X Z h gp) (hL : GL X Z i F) (hR : GR Z i F g) (a b : Int32) (hkc : gp ≤ kc) (hks : 32832 * gp ≤ ks) : Ctr l yX2_giveOut (wsM yX2_giveOut cX2_giveOut 4 none) ({ frames := 5, cells := kc, slots := ks, locals := 122 } : Room) sz0 D cs [.ref (X.1 12 0), .ref (X.1 20 i), .int a, .int b] X Z Y (fun X' Z' Y' v k n => Y = Y' ∧ v = none ∧ ∃ gp', SFp X Z h i gp X' Z' k n gp' ∧ GR Z' i F (outS F g a b) ∧ Z' 12 0 = Z 12 0) := by
  refine Ctr.ofW (by decide +kernel) (by intro v hv; simp at hv; rcases hv with rfl | rfl | rfl | rfl <;> rfl) (Nat.le_of_ble_eq_true rfl) ?_
  intro p e s m below meth c ls C hr hlocks hname hl hN hw
  obtain ⟨hx, hb, hml, hown, hts⟩ := id C
  have e4 : Z 20 i 4 = g 0 4 := hR.1.2.2.2.1
  have e6 : Z 20 i 6 = nI F := hL.2.2.1
  have hF64 : F ≤ 64 := hL.2.2.2.2
  refine lv_iload_n hx hb dX2_giveOut_0 rfl (hl.at rfl) ?_
  refine lv_if_ne (tgt := 12) hx hb dX2_giveOut_1 (by decide) (fun h1 => ?_) (fun h1 => ?_)
  · refine lv_iload_n hx hb dX2_giveOut_12 rfl (hl.at rfl) ?_
    refine lv_iconst (v := 1) hx hb dX2_giveOut_13 (by decide) ?_
    refine lv_icmp_ne (tgt := 25) hx hb dX2_giveOut_14 (by decide) (fun h14 => ?_) (fun h14 => ?_)
    · refine lv_iload_n hx hb dX2_giveOut_25 rfl (hl.at rfl) ?_
      refine lv_iconst (v := 2) hx hb dX2_giveOut_26 (by decide) ?_
      refine lv_icmp_ne (tgt := 87) hx hb dX2_giveOut_27 (by decide) (fun h27 => ?_) (fun h27 => ?_)
      · have eC : outS F g a b = g := by unfold outS; rw [if_neg h1, if_neg h14, if_neg (fun q => h27 q.1)]
        exact w_vret C hw hr hlocks dX2_giveOut_87 ⟨rfl, rfl, gp, SFp.refl hI, by rw [eC]; exact hR, rfl⟩
      · refine lv_aload_n hx hb dX2_giveOut_30 rfl (hl.at rfl) ?_
        refine w_getN C hN hw (c0 := 20) (i0 := i) rfl inA0 4 (by decide) mw646 rfl dX2_giveOut_31 (hG 20 (by decide) (by decide)) rfl rfl rfl ?_
        rw [e4]
        refine lv_if_lt (tgt := 87) hx hb dX2_giveOut_34 (by decide) (fun h34 => ?_) (fun h34 => ?_)
        · have eC : outS F g a b = g := by unfold outS; rw [if_neg h1, if_neg h14, if_neg (fun q => q.2.1 h34)]
          exact w_vret C hw hr hlocks dX2_giveOut_87 ⟨rfl, rfl, gp, SFp.refl hI, by rw [eC]; exact hR, rfl⟩
        · refine lv_aload_n hx hb dX2_giveOut_37 rfl (hl.at rfl) ?_
          refine w_getN C hN hw (c0 := 20) (i0 := i) rfl inA0 4 (by decide) mw646 rfl dX2_giveOut_38 (hG 20 (by decide) (by decide)) rfl rfl rfl ?_
          rw [e4]
          refine lv_aload_n hx hb dX2_giveOut_41 rfl (hl.at rfl) ?_
          refine w_getN C hN hw (c0 := 20) (i0 := i) rfl inA0 6 (by decide) mw648 rfl dX2_giveOut_42 (hG 20 (by decide) (by decide)) rfl rfl rfl ?_
          rw [e6]
          refine lv_icmp_ge (tgt := 87) hx hb dX2_giveOut_45 (by decide) (fun h45 => ?_) (fun h45 => ?_)
          · have eC : outS F g a b = g := by unfold outS; rw [if_neg h1, if_neg h14, if_neg (fun q => q.2.2 h45)]
            exact w_vret C hw hr hlocks dX2_giveOut_87 ⟨rfl, rfl, gp, SFp.refl hI, by rw [eC]; exact hR, rfl⟩
          · obtain ⟨fr, hfr, efr⟩ : ∃ fr, fr < F ∧ g 0 4 = nI fr := by
              obtain ⟨n, hn, e⟩ := nI_of h34
              refine ⟨n, ?_, e⟩
              rcases Nat.lt_or_ge n F with q | q
              · exact q
              · exact absurd (by rw [e]; exact nI_le q hn) h45
            have eC : outS F g a b = diskS g a := by unfold outS; rw [if_neg h1, if_neg h14, if_pos ⟨h27, h34, h45⟩]
            refine lv_iload_n hx hb dX2_giveOut_48 rfl (hl.at rfl) ?_
            refine lv_iconst (v := 1) hx hb dX2_giveOut_49 (by decide) ?_
            refine lv_iand hx hb dX2_giveOut_50 ?_
            refine lv_if_eq (tgt := 72) hx hb dX2_giveOut_51 (by decide) (fun h51 => ?_) (fun h51 => ?_)
            · refine lv_aload_n hx hb dX2_giveOut_72 rfl (hl.at rfl) ?_
              refine w_get C hw (c0 := 12) (i0 := 0) rfl inA2 0 (by decide) mw41 rfl dX2_giveOut_73 (hX 12 (by decide)) rfl rfl rfl ?_
              refine lv_aload_n hx hb dX2_giveOut_76 rfl (hl.at rfl) ?_
              refine lv_aload_n hx hb dX2_giveOut_77 rfl (hl.at rfl) ?_
              refine w_getN C hN hw (c0 := 20) (i0 := i) rfl inA0 4 (by decide) mw646 rfl dX2_giveOut_78 (hG 20 (by decide) (by decide)) rfl rfl rfl ?_
              rw [e4, efr]
              refine lv_iload_n hx hb dX2_giveOut_81 rfl (hl.at rfl) ?_
              refine lv_iconst (v := 1) hx hb dX2_giveOut_82 (by decide) ?_
              refine lv_ishr hx hb dX2_giveOut_83 ?_
              refine w_callV C hN hw (c_X1_loadFrame l sz0 D cs X _ Y hX hU i hG h gp kc ks F hI hL fr hfr _ hkc hks) ⟨(Nat.le_of_ble_eq_true rfl), (Nat.le_of_ble_eq_true rfl), mw436, mw15, cy_X1_loadFrame⟩ mw433 mw434 mw435 (w_rec hw (c0 := 2) (i0 := 0) (hX 2 (by decide)) rfl rfl) rfl hl.1.1 rfl (Nat.le_of_ble_eq_true rfl) dX2_giveOut_84 ⟨by show 0 + kc ≤ kc; omega, by show 0 + ks ≤ ks; omega⟩ (fun X' Z' Y' v k n H locs hp hw => ?_)
              obtain ⟨rfl, rfl, hM⟩ := hp
              have hR1 := GR_load hM hL hfr efr h51 hR
              obtain ⟨gp1, hS⟩ := SFp.ofHM (i := i) hM (fun j k w hne => by
                show (if j = i ∧ k = fr then _ else mw Z j k w) = mw Z j k w
                rw [if_neg (fun q => hne q.1)])
              have h12 := hM.r12
              have hS0 := hS
              obtain ⟨⟨V, rfl⟩, -⟩ := hS
              exact w_vret C hw hr hlocks dX2_giveOut_87 ⟨rfl, rfl, gp1, by rw [show 0 + k = k by omega, show 0 + n = n by omega]; exact hS0, by rw [eC]; exact hR1, h12⟩
            · refine lv_aload_n hx hb dX2_giveOut_54 rfl (hl.at rfl) ?_
              refine w_get C hw (c0 := 12) (i0 := 0) rfl inA2 0 (by decide) mw41 rfl dX2_giveOut_55 (hX 12 (by decide)) rfl rfl rfl ?_
              refine lv_aload_n hx hb dX2_giveOut_58 rfl (hl.at rfl) ?_
              refine lv_aload_n hx hb dX2_giveOut_59 rfl (hl.at rfl) ?_
              refine w_getN C hN hw (c0 := 20) (i0 := i) rfl inA0 4 (by decide) mw646 rfl dX2_giveOut_60 (hG 20 (by decide) (by decide)) rfl rfl rfl ?_
              rw [e4, efr]
              refine lv_iload_n hx hb dX2_giveOut_63 rfl (hl.at rfl) ?_
              refine lv_iconst (v := 1) hx hb dX2_giveOut_64 (by decide) ?_
              refine lv_ishr hx hb dX2_giveOut_65 ?_
              refine w_callV C hN hw (c_X1_saveFrame l sz0 D cs X _ Y hX hU i hG h gp kc ks F hI hL fr hfr _ hkc hks) ⟨(Nat.le_of_ble_eq_true rfl), (Nat.le_of_ble_eq_true rfl), mw432, mw15, cy_X1_saveFrame⟩ mw429 mw430 mw431 (w_rec hw (c0 := 2) (i0 := 0) (hX 2 (by decide)) rfl rfl) rfl hl.1.1 rfl (Nat.le_of_ble_eq_true rfl) dX2_giveOut_66 ⟨by show 0 + kc ≤ kc; omega, by show 0 + ks ≤ ks; omega⟩ (fun X' Z' Y' v k n H locs hp hw => ?_)
              obtain ⟨rfl, rfl, Z1, hM, rfl⟩ := hp
              have hR1 := GR_save hM hL hfr efr h51 hR
              obtain ⟨gp1, hS⟩ := SFp.ofHM (i := i) hM (fun _ _ _ _ => rfl)
              have h12 := hM.r12
              have hS0 := hS
              obtain ⟨⟨V, rfl⟩, -⟩ := hS
              refine lv_goto (tgt := 87) hx hb dX2_giveOut_69 (by decide) ?_
              exact w_vret C hw hr hlocks dX2_giveOut_87 ⟨rfl, rfl, gp1, by rw [show 0 + k = k + 0 by omega, show 0 + n = n + 0 by omega]; exact hS0.trans (SFp.ofU hS0.hI (Or.inl ⟨rfl, by decide, by decide⟩)), by rw [eC]; exact hR1, by rw [upr_k (by decide)]; exact h12⟩
    · refine lv_aload_n hx hb dX2_giveOut_17 rfl (hl.at rfl) ?_
      refine lv_iload_n hx hb dX2_giveOut_18 rfl (hl.at rfl) ?_
      refine w_putN C hN hw (c0 := 20) (i0 := i) rfl inA0 tyX0_ok nmX0 4 (by decide) mw646 rfl rfl rfl dX2_giveOut_19 (hG 20 (by decide) (by decide)) rfl rfl rfl rfl (Nat.le_of_ble_eq_true rfl) rfl (fun H locs hw => ?_)
      refine lv_goto (tgt := 87) hx hb dX2_giveOut_22 (by decide) ?_
      have eC : outS F g a b = gu g 0 4 a := by unfold outS; rw [if_neg h1, if_pos h14]
      exact w_vret C hw hr hlocks dX2_giveOut_87 ⟨rfl, rfl, gp, SFp.ofU hI (Or.inr (Or.inr ⟨rfl, rfl, by rw [upd_n (by decide)], by rw [upd_n (by decide)]⟩)), by rw [eC]; exact GR_20 ⟨by decide, by decide⟩ hR, by rw [upr_k (by decide)]⟩
  · refine lv_aload_n hx hb dX2_giveOut_4 rfl (hl.at rfl) ?_
    refine lv_iload_n hx hb dX2_giveOut_5 rfl (hl.at rfl) ?_
    refine w_callV C hN hw (c_X0_putOut l sz0 D cs X _ Y i hG a) ⟨(Nat.le_of_ble_eq_true rfl), (Nat.le_of_ble_eq_true rfl), mw428, mw111, cy_X0_putOut⟩ mw425 mw426 mw427 (w_rec hw (c0 := 20) (i0 := i) (hG 20 (by decide) (by decide)) rfl rfl) rfl hl.1.1 rfl (Nat.le_of_ble_eq_true rfl) dX2_giveOut_6 ⟨by show 0 + 0 ≤ kc; omega, by show 0 + 0 ≤ ks; omega⟩ (fun X' Z' Y' v k n H locs hp hw => ?_)
    obtain ⟨rfl, rfl, rfl, rfl, rfl, rfl⟩ := hp
    refine lv_goto (tgt := 87) hx hb dX2_giveOut_9 (by decide) ?_
    have eC : outS F g a b = putS g a := by unfold outS; rw [if_pos h1]
    have hS1 : SFp X Z h i gp X (if Z 20 i 16 < 0 ∨ 1000 ≤ Z 20 i 16 then Z else upr Z 27 i (upd (Z 27 i) (Z 20 i 16).toNatClampNeg a)) 0 0 gp := by
      split
      · exact SFp.refl hI
      · exact SFp.ofU hI (Or.inl ⟨rfl, by decide, by decide⟩)
    have e20 : (if Z 20 i 16 < 0 ∨ 1000 ≤ Z 20 i 16 then Z else upr Z 27 i (upd (Z 27 i) (Z 20 i 16).toNatClampNeg a)) 20 i = Z 20 i := by
      split
      · rfl
      · rw [upr_k (by decide)]
    have e12 : (if Z 20 i 16 < 0 ∨ 1000 ≤ Z 20 i 16 then Z else upr Z 27 i (upd (Z 27 i) (Z 20 i 16).toNatClampNeg a)) 12 0 = Z 12 0 := by
      split
      · rfl
      · rw [upr_k (by decide)]
    exact w_vret C hw hr hlocks dX2_giveOut_87 ⟨rfl, rfl, gp, hS1.trans (SFp.ofU hS1.hI (Or.inr (Or.inr ⟨rfl, rfl, by rw [e20, upd_n (by decide)], by rw [e20, upd_n (by decide)]⟩))), by rw [eC]; exact GR_put hR, by rw [upr_k (by decide)]; exact e12⟩
