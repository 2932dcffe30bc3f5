set_option maxHeartbeats 4000000 in
set_option maxRecDepth 100000 in
theorem c_X2_jump (l : Launch) (sz0 : Nat) (D : va_G) (cs : Nat → ClassId) (X : Sh) (Z : ZT) (Y : va_W) (hX : HXI X) (i : Nat) (hG : GI X i) (h gp F : Nat) (g : GS) (hI : HI X Z h gp) (hL : GL X Z i F) (hR : GR Z i F g) (w : Int32) : Ctr l yX2_jump (wsM yX2_jump cX2_jump 6 none) ({ frames := 1, cells := 0, slots := 0, locals := 22 } : Room) sz0 D cs [.ref (X.1 12 0), .ref (X.1 20 i), .int w] X Z Y (Pz X Y (fun Z' v => v = none ∧ GR Z' i F (jumpS g w (Z 12 0 3)).1 ∧ Z' 12 0 = upd (Z 12 0) 3 (jumpS g w (Z 12 0 3)).2 ∧ SFp X Z h i gp X Z' 0 0 gp)) := by
  refine Ctr.ofW (by decide +kernel) (by intro v hv; simp at hv; rcases hv with rfl | rfl | rfl <;> rfl) (Nat.le_of_ble_eq_true rfl) ?_
  intro p e s m below meth c ls C hr hlocks hname hl hN hw
  obtain ⟨hx, hb, hml, hown, hts⟩ := id C
  have epc : Z 20 i 2 = g 0 2 := hR.1.2.1
  refine lv_aload_n hx hb dX2_jump_0 rfl (hl.at rfl) ?_
  refine lv_iload_n hx hb dX2_jump_1 rfl (hl.at rfl) ?_
  refine w_callS C hN hw (c_X2_valueA l sz0 D cs X _ Y i hG w) ⟨(Nat.le_of_ble_eq_true rfl), (Nat.le_of_ble_eq_true rfl), mw371, mw19, cy_X2_valueA⟩ mw369 mw370 rfl hl.1.1 rfl (Nat.le_of_ble_eq_true rfl) dX2_jump_2 ⟨Nat.le_of_ble_eq_true rfl, Nat.le_of_ble_eq_true rfl⟩ (fun X' Z' Y' v k n H locs hp hw => ?_)
  obtain ⟨rfl, rfl, rfl, rfl, rfl, rfl⟩ := hp
  rw [hR.A]
  refine w_istore_n hx hb dX2_jump_5 rfl hl (Nat.le_of_ble_eq_true rfl) (fun ls hl => ?_)
  refine lv_aload_n hx hb dX2_jump_6 rfl (hl.at rfl) ?_
  refine lv_iload_n hx hb dX2_jump_7 rfl (hl.at rfl) ?_
  refine w_callS C hN hw (c_X2_valueB l sz0 D cs X _ Y i hG w) ⟨(Nat.le_of_ble_eq_true rfl), (Nat.le_of_ble_eq_true rfl), mw374, mw19, cy_X2_valueB⟩ mw372 mw373 rfl hl.1.1 rfl (Nat.le_of_ble_eq_true rfl) dX2_jump_8 ⟨Nat.le_of_ble_eq_true rfl, Nat.le_of_ble_eq_true rfl⟩ (fun X' Z' Y' v k n H locs hp hw => ?_)
  obtain ⟨rfl, rfl, rfl, rfl, rfl, rfl⟩ := hp
  rw [hR.B]
  refine w_istore hx hb dX2_jump_11 hl (Nat.le_of_ble_eq_true rfl) (fun ls hl => ?_)
  refine lv_aload_n hx hb dX2_jump_13 rfl (hl.at rfl) ?_
  refine w_getN C hN hw (c0 := 20) (i0 := i) rfl inA0 2 (by decide) mw642 rfl dX2_jump_14 (hG 20 (by decide) (by decide)) rfl rfl rfl ?_
  rw [epc]
  refine lv_iload_n hx hb dX2_jump_17 rfl (hl.at rfl) ?_
  refine w_callS C hN hw (c_X2_number l sz0 D cs X _ Y w) ⟨(Nat.le_of_ble_eq_true rfl), (Nat.le_of_ble_eq_true rfl), mw377, mw19, cy_X2_number⟩ mw375 mw376 rfl hl.1.1 rfl (Nat.le_of_ble_eq_true rfl) dX2_jump_18 ⟨Nat.le_of_ble_eq_true rfl, Nat.le_of_ble_eq_true rfl⟩ (fun X' Z' Y' v k n H locs hp hw => ?_)
  obtain ⟨rfl, rfl, rfl, rfl, rfl, rfl⟩ := hp
  refine lv_iadd hx hb dX2_jump_21 ?_
  refine w_istore hx hb dX2_jump_22 hl (Nat.le_of_ble_eq_true rfl) (fun ls hl => ?_)
  refine lv_iload_n hx hb dX2_jump_24 rfl (hl.at rfl) ?_
  refine lv_bipush (v := 26) hx hb dX2_jump_25 (by decide) ?_
  refine lv_iushr hx hb dX2_jump_27 rfl ?_
  refine lv_topi (fun x28 e28 => ?_)
  by_cases q28_14 : x28 = 14
  · subst q28_14
    refine lv_tableIn (off := 32) (tgt := 60) hx hb dX2_jump_28 (by decide) (by decide) (by decide) (by decide) ?_
    refine lv_aload_n hx hb dX2_jump_60 rfl (hl.at rfl) ?_
    refine lv_iload_n hx hb dX2_jump_61 rfl (hl.at rfl) ?_
    refine lv_iload hx hb dX2_jump_62 (hl.at rfl) ?_
    refine lv_icmp_ne (tgt := 72) hx hb dX2_jump_64 (by decide) (fun h64 => ?_) (fun h64 => ?_)
    · refine lv_aload_n hx hb dX2_jump_72 rfl (hl.at rfl) ?_
      refine w_get C hw (c0 := 12) (i0 := 0) rfl inA2 3 (by decide) mw343 rfl dX2_jump_73 (hX 12 (by decide)) rfl rfl rfl ?_
      refine w_put C hw (c0 := 12) (i0 := 0) rfl inA2 tyX2_ok nmX2 3 (by decide) mw343 rfl rfl rfl dX2_jump_76 (hX 12 (by decide)) rfl rfl rfl rfl (Nat.le_of_ble_eq_true rfl) rfl (fun H locs hw => ?_)
      refine lv_goto (tgt := 163) hx hb dX2_jump_79 (by decide) ?_
      have e : opc w = 14 := e28.symm
      clear e28
      have eJ : jumpS g w (Z 12 0 3) = (g, Z 12 0 3) := by unfold jumpS; simp [e, h64]
      exact w_vret C hw hr hlocks dX2_jump_163 ⟨rfl, rfl, rfl, rfl, rfl, by rw [eJ]; exact GR_12 hR, by rw [eJ, upr_s], SFp.ofU hI (Or.inr (Or.inl ⟨rfl, rfl⟩))⟩
    · refine lv_iload hx hb dX2_jump_67 (hl.at rfl) ?_
      refine lv_goto (tgt := 76) hx hb dX2_jump_69 (by decide) ?_
      refine w_put C hw (c0 := 12) (i0 := 0) rfl inA2 tyX2_ok nmX2 3 (by decide) mw343 rfl rfl rfl dX2_jump_76 (hX 12 (by decide)) rfl rfl rfl rfl (Nat.le_of_ble_eq_true rfl) rfl (fun H locs hw => ?_)
      refine lv_goto (tgt := 163) hx hb dX2_jump_79 (by decide) ?_
      have e : opc w = 14 := e28.symm
      clear e28
      have eJ : jumpS g w (Z 12 0 3) = (g, g 0 2 + numS w) := by unfold jumpS; simp [e, h64]
      exact w_vret C hw hr hlocks dX2_jump_163 ⟨rfl, rfl, rfl, rfl, rfl, by rw [eJ]; exact GR_12 hR, by rw [eJ, upr_s], SFp.ofU hI (Or.inr (Or.inl ⟨rfl, rfl⟩))⟩
  by_cases q28_15 : x28 = 15
  · subst q28_15
    refine lv_tableIn (off := 54) (tgt := 82) hx hb dX2_jump_28 (by decide) (by decide) (by decide) (by decide) ?_
    refine lv_aload_n hx hb dX2_jump_82 rfl (hl.at rfl) ?_
    refine lv_iload_n hx hb dX2_jump_83 rfl (hl.at rfl) ?_
    refine lv_iload hx hb dX2_jump_84 (hl.at rfl) ?_
    refine lv_icmp_eq (tgt := 94) hx hb dX2_jump_86 (by decide) (fun h86 => ?_) (fun h86 => ?_)
    · refine lv_aload_n hx hb dX2_jump_94 rfl (hl.at rfl) ?_
      refine w_get C hw (c0 := 12) (i0 := 0) rfl inA2 3 (by decide) mw343 rfl dX2_jump_95 (hX 12 (by decide)) rfl rfl rfl ?_
      refine w_put C hw (c0 := 12) (i0 := 0) rfl inA2 tyX2_ok nmX2 3 (by decide) mw343 rfl rfl rfl dX2_jump_98 (hX 12 (by decide)) rfl rfl rfl rfl (Nat.le_of_ble_eq_true rfl) rfl (fun H locs hw => ?_)
      refine lv_goto (tgt := 163) hx hb dX2_jump_101 (by decide) ?_
      have e : opc w = 15 := e28.symm
      clear e28
      have eJ : jumpS g w (Z 12 0 3) = (g, Z 12 0 3) := by unfold jumpS; simp [e, h86]
      exact w_vret C hw hr hlocks dX2_jump_163 ⟨rfl, rfl, rfl, rfl, rfl, by rw [eJ]; exact GR_12 hR, by rw [eJ, upr_s], SFp.ofU hI (Or.inr (Or.inl ⟨rfl, rfl⟩))⟩
    · refine lv_iload hx hb dX2_jump_89 (hl.at rfl) ?_
      refine lv_goto (tgt := 98) hx hb dX2_jump_91 (by decide) ?_
      refine w_put C hw (c0 := 12) (i0 := 0) rfl inA2 tyX2_ok nmX2 3 (by decide) mw343 rfl rfl rfl dX2_jump_98 (hX 12 (by decide)) rfl rfl rfl rfl (Nat.le_of_ble_eq_true rfl) rfl (fun H locs hw => ?_)
      refine lv_goto (tgt := 163) hx hb dX2_jump_101 (by decide) ?_
      have e : opc w = 15 := e28.symm
      clear e28
      have eJ : jumpS g w (Z 12 0 3) = (g, g 0 2 + numS w) := by unfold jumpS; simp [e, h86]
      exact w_vret C hw hr hlocks dX2_jump_163 ⟨rfl, rfl, rfl, rfl, rfl, by rw [eJ]; exact GR_12 hR, by rw [eJ, upr_s], SFp.ofU hI (Or.inr (Or.inl ⟨rfl, rfl⟩))⟩
  by_cases q28_16 : x28 = 16
  · subst q28_16
    refine lv_tableIn (off := 76) (tgt := 104) hx hb dX2_jump_28 (by decide) (by decide) (by decide) (by decide) ?_
    refine lv_aload_n hx hb dX2_jump_104 rfl (hl.at rfl) ?_
    refine lv_iload_n hx hb dX2_jump_105 rfl (hl.at rfl) ?_
    refine lv_iload hx hb dX2_jump_106 (hl.at rfl) ?_
    refine lv_icmp_ge (tgt := 116) hx hb dX2_jump_108 (by decide) (fun h108 => ?_) (fun h108 => ?_)
    · refine lv_aload_n hx hb dX2_jump_116 rfl (hl.at rfl) ?_
      refine w_get C hw (c0 := 12) (i0 := 0) rfl inA2 3 (by decide) mw343 rfl dX2_jump_117 (hX 12 (by decide)) rfl rfl rfl ?_
      refine w_put C hw (c0 := 12) (i0 := 0) rfl inA2 tyX2_ok nmX2 3 (by decide) mw343 rfl rfl rfl dX2_jump_120 (hX 12 (by decide)) rfl rfl rfl rfl (Nat.le_of_ble_eq_true rfl) rfl (fun H locs hw => ?_)
      refine lv_goto (tgt := 163) hx hb dX2_jump_123 (by decide) ?_
      have e : opc w = 16 := e28.symm
      clear e28
      have eJ : jumpS g w (Z 12 0 3) = (g, Z 12 0 3) := by unfold jumpS; simp [e, h108]
      exact w_vret C hw hr hlocks dX2_jump_163 ⟨rfl, rfl, rfl, rfl, rfl, by rw [eJ]; exact GR_12 hR, by rw [eJ, upr_s], SFp.ofU hI (Or.inr (Or.inl ⟨rfl, rfl⟩))⟩
    · refine lv_iload hx hb dX2_jump_111 (hl.at rfl) ?_
      refine lv_goto (tgt := 120) hx hb dX2_jump_113 (by decide) ?_
      refine w_put C hw (c0 := 12) (i0 := 0) rfl inA2 tyX2_ok nmX2 3 (by decide) mw343 rfl rfl rfl dX2_jump_120 (hX 12 (by decide)) rfl rfl rfl rfl (Nat.le_of_ble_eq_true rfl) rfl (fun H locs hw => ?_)
      refine lv_goto (tgt := 163) hx hb dX2_jump_123 (by decide) ?_
      have e : opc w = 16 := e28.symm
      clear e28
      have eJ : jumpS g w (Z 12 0 3) = (g, g 0 2 + numS w) := by unfold jumpS; simp [e, h108]
      exact w_vret C hw hr hlocks dX2_jump_163 ⟨rfl, rfl, rfl, rfl, rfl, by rw [eJ]; exact GR_12 hR, by rw [eJ, upr_s], SFp.ofU hI (Or.inr (Or.inl ⟨rfl, rfl⟩))⟩
  by_cases q28_17 : x28 = 17
  · subst q28_17
    refine lv_tableIn (off := 98) (tgt := 126) hx hb dX2_jump_28 (by decide) (by decide) (by decide) (by decide) ?_
    refine lv_aload_n hx hb dX2_jump_126 rfl (hl.at rfl) ?_
    refine lv_iload_n hx hb dX2_jump_127 rfl (hl.at rfl) ?_
    refine lv_aload_n hx hb dX2_jump_128 rfl (hl.at rfl) ?_
    refine w_get C hw (c0 := 12) (i0 := 0) rfl inA2 3 (by decide) mw343 rfl dX2_jump_129 (hX 12 (by decide)) rfl rfl rfl ?_
    refine w_callS C hN hw (c_X2_setD l sz0 D cs X _ Y i hG w _) ⟨(Nat.le_of_ble_eq_true rfl), (Nat.le_of_ble_eq_true rfl), mw380, mw19, cy_X2_setD⟩ mw378 mw379 rfl hl.1.1 rfl (Nat.le_of_ble_eq_true rfl) dX2_jump_132 ⟨Nat.le_of_ble_eq_true rfl, Nat.le_of_ble_eq_true rfl⟩ (fun X' Z' Y' v k n H locs hp hw => ?_)
    obtain ⟨rfl, rfl, rfl, rfl, rfl, rfl⟩ := hp
    refine lv_aload_n hx hb dX2_jump_135 rfl (hl.at rfl) ?_
    refine lv_iload hx hb dX2_jump_136 (hl.at rfl) ?_
    refine w_put C hw (c0 := 12) (i0 := 0) rfl inA2 tyX2_ok nmX2 3 (by decide) mw343 rfl rfl rfl dX2_jump_138 (hX 12 (by decide)) rfl rfl rfl rfl (Nat.le_of_ble_eq_true rfl) rfl (fun H locs hw => ?_)
    refine lv_goto (tgt := 163) hx hb dX2_jump_141 (by decide) ?_
    have e : opc w = 17 := e28.symm
    clear e28
    have eJ : jumpS g w (Z 12 0 3) = (gu g 3 (fD w) (Z 12 0 3), g 0 2 + numS w) := by unfold jumpS; simp [e]
    exact w_vret C hw hr hlocks dX2_jump_163 ⟨rfl, rfl, rfl, rfl, rfl, by rw [eJ]; exact GR_12 (GR_23 hR), by rw [eJ, upr_s, upr_k (by decide)], (SFp.ofU hI (Or.inl ⟨rfl, by decide, by decide⟩)).trans (SFp.ofU (HI_rows hI (fun c q1 q2 => upr_k (by omega)) (fun j => upr_k (by decide)) (fun j => ⟨by rw [upr_k (by decide)], by rw [upr_k (by decide)]⟩)) (Or.inr (Or.inl ⟨rfl, rfl⟩)))⟩
  refine lv_tableOut (tgt := 144) hx hb dX2_jump_28 (by have := lv_neT q28_14 (by decide : (14 : Int32).toInt = 14); have := lv_neT q28_15 (by decide : (15 : Int32).toInt = 15); have := lv_neT q28_16 (by decide : (16 : Int32).toInt = 16); have := lv_neT q28_17 (by decide : (17 : Int32).toInt = 17); omega) (by decide) ?_
  refine lv_aload_n hx hb dX2_jump_144 rfl (hl.at rfl) ?_
  refine lv_iload_n hx hb dX2_jump_145 rfl (hl.at rfl) ?_
  refine lv_aload_n hx hb dX2_jump_146 rfl (hl.at rfl) ?_
  refine w_get C hw (c0 := 12) (i0 := 0) rfl inA2 3 (by decide) mw343 rfl dX2_jump_147 (hX 12 (by decide)) rfl rfl rfl ?_
  refine w_callS C hN hw (c_X2_setD l sz0 D cs X _ Y i hG w _) ⟨(Nat.le_of_ble_eq_true rfl), (Nat.le_of_ble_eq_true rfl), mw380, mw19, cy_X2_setD⟩ mw378 mw379 rfl hl.1.1 rfl (Nat.le_of_ble_eq_true rfl) dX2_jump_150 ⟨Nat.le_of_ble_eq_true rfl, Nat.le_of_ble_eq_true rfl⟩ (fun X' Z' Y' v k n H locs hp hw => ?_)
  obtain ⟨rfl, rfl, rfl, rfl, rfl, rfl⟩ := hp
  refine lv_aload_n hx hb dX2_jump_153 rfl (hl.at rfl) ?_
  refine lv_iload_n hx hb dX2_jump_154 rfl (hl.at rfl) ?_
  refine lv_iload_n hx hb dX2_jump_155 rfl (hl.at rfl) ?_
  refine w_callS C hN hw (c_X2_number l sz0 D cs X _ Y w) ⟨(Nat.le_of_ble_eq_true rfl), (Nat.le_of_ble_eq_true rfl), mw377, mw19, cy_X2_number⟩ mw375 mw376 rfl hl.1.1 rfl (Nat.le_of_ble_eq_true rfl) dX2_jump_156 ⟨Nat.le_of_ble_eq_true rfl, Nat.le_of_ble_eq_true rfl⟩ (fun X' Z' Y' v k n H locs hp hw => ?_)
  obtain ⟨rfl, rfl, rfl, rfl, rfl, rfl⟩ := hp
  refine lv_iadd hx hb dX2_jump_159 ?_
  refine w_put C hw (c0 := 12) (i0 := 0) rfl inA2 tyX2_ok nmX2 3 (by decide) mw343 rfl rfl rfl dX2_jump_160 (hX 12 (by decide)) rfl rfl rfl rfl (Nat.le_of_ble_eq_true rfl) rfl (fun H locs hw => ?_)
  have e : opc w = x28 := e28.symm
  clear e28
  have eJ : jumpS g w (Z 12 0 3) = (gu g 3 (fD w) (Z 12 0 3), g 3 (fA w) + numS w) := by unfold jumpS; simp [e, *]
  exact w_vret C hw hr hlocks dX2_jump_163 ⟨rfl, rfl, rfl, rfl, rfl, by rw [eJ]; exact GR_12 (GR_23 hR), by rw [eJ, upr_s, upr_k (by decide)], (SFp.ofU hI (Or.inl ⟨rfl, by decide, by decide⟩)).trans (SFp.ofU (HI_rows hI (fun c q1 q2 => upr_k (by omega)) (fun j => upr_k (by decide)) (fun j => ⟨by rw [upr_k (by decide)], by rw [upr_k (by decide)]⟩)) (Or.inr (Or.inl ⟨rfl, rfl⟩)))⟩

set_option maxHeartbeats 4000000 in
set_option maxRecDepth 100000 in
theorem c_X2_callOrTime (l : Launch) (sz0 : Nat) (D : va_G) (cs : Nat → ClassId) (X : Sh) (Z : ZT) (Y : va_W) (hX : HXI X) (i : Nat) (hG : GI X i) (h gp F : Nat) (g : GS) (hI : HI X Z h gp) (hL : GL X Z i F) (hR : GR Z i F g) (hV : GInv F g) (w : Int32) : Ctr l yX2_callOrTime (wsM yX2_callOrTime cX2_callOrTime 3 none) ({ frames := 1, cells := 0, slots := 0, locals := 22 } : Room) sz0 D cs [.ref (X.1 12 0), .ref (X.1 20 i), .int w] X Z Y (Pz X Y (fun Z' v => v = none ∧ GR Z' i F (cotS g w (Z 12 0 3) (Z 12 0 4)).1 ∧ Z' 12 0 = rowE (Z 12 0) (cotS g w (Z 12 0 3) (Z 12 0 4)) ∧ SFp X Z h i gp X Z' 0 0 gp)) := by
  refine Ctr.ofW (by decide +kernel) (by intro v hv; simp at hv; rcases hv with rfl | rfl | rfl <;> rfl) (Nat.le_of_ble_eq_true rfl) ?_
  intro p e s m below meth c ls C hr hlocks hname hl hN hw
  obtain ⟨hx, hb, hml, hown, hts⟩ := id C
  have em : Z 20 i 3 = g 0 3 := hR.1.2.2.1
  have e240 : Z 24 i 0 = g 4 0 := hR.k (by decide)
  have e248 : Z 24 i 8 = g 4 8 := hR.k (by decide)
  have h8 : ¬ (8 + g 0 3 = 0) := by
    rcases hV.2.1 with q | q <;> rw [q] <;> decide
  refine lv_iload_n hx hb dX2_callOrTime_0 rfl (hl.at rfl) ?_
  refine lv_bipush (v := 26) hx hb dX2_callOrTime_1 (by decide) ?_
  refine lv_iushr hx hb dX2_callOrTime_3 rfl ?_
  refine lv_bipush (v := 19) hx hb dX2_callOrTime_4 (by decide) ?_
  refine lv_icmp_ne (tgt := 28) hx hb dX2_callOrTime_6 (by decide) (fun h6 => ?_) (fun h6 => ?_)
  · have h6 : ¬ opc w = 19 := h6
    refine lv_aload_n hx hb dX2_callOrTime_28 rfl (hl.at rfl) ?_
    refine w_getN C hN hw (c0 := 20) (i0 := i) rfl inA0 3 (by decide) mw644 rfl dX2_callOrTime_29 (hG 20 (by decide) (by decide)) rfl rfl rfl ?_
    rw [em]
    refine lv_if_ne (tgt := 58) hx hb dX2_callOrTime_32 (by decide) (fun h32 => ?_) (fun h32 => ?_)
    · refine lv_aload_n hx hb dX2_callOrTime_58 rfl (hl.at rfl) ?_
      refine lv_iload_n hx hb dX2_callOrTime_59 rfl (hl.at rfl) ?_
      refine lv_aload_n hx hb dX2_callOrTime_60 rfl (hl.at rfl) ?_
      refine w_getN C hN hw (c0 := 20) (i0 := i) rfl inA0 10 (by decide) mw653 rfl dX2_callOrTime_61 (hG 20 (by decide) (by decide)) rfl rfl rfl ?_
      refine lv_bipush (v := 8) hx hb dX2_callOrTime_64 (by decide) ?_
      refine w_ild C hw (c0 := 24) (i0 := i) dX2_callOrTime_66 (hG 24 (by decide) (by decide)) rfl rfl (vpk (by decide)) (j := 8) (by decide) ?_
      rw [e248]
      refine w_callS C hN hw (c_X2_setD l sz0 D cs X _ Y i hG w _) ⟨(Nat.le_of_ble_eq_true rfl), (Nat.le_of_ble_eq_true rfl), mw380, mw19, cy_X2_setD⟩ mw378 mw379 rfl hl.1.1 rfl (Nat.le_of_ble_eq_true rfl) dX2_callOrTime_67 ⟨Nat.le_of_ble_eq_true rfl, Nat.le_of_ble_eq_true rfl⟩ (fun X' Z' Y' v k n H locs hp hw => ?_)
      obtain ⟨rfl, rfl, rfl, rfl, rfl, rfl⟩ := hp
      have eC : cotS g w (Z 12 0 3) (Z 12 0 4) = (gu g 3 (fD w) (g 4 8), 0, 0, Z 12 0 3, Z 12 0 4) := by unfold cotS; rw [if_neg h6, if_neg (fun q => h32 q.1)]
      exact w_vret C hw hr hlocks dX2_callOrTime_70 ⟨rfl, rfl, rfl, rfl, rfl, by rw [eC]; exact GR_23 hR, by rw [eC, rowE_id, upr_k (by decide)], (SFp.ofU hI (Or.inl ⟨rfl, by decide, by decide⟩))⟩
    · refine lv_aload_n hx hb dX2_callOrTime_35 rfl (hl.at rfl) ?_
      refine w_getN C hN hw (c0 := 20) (i0 := i) rfl inA0 10 (by decide) mw653 rfl dX2_callOrTime_36 (hG 20 (by decide) (by decide)) rfl rfl rfl ?_
      refine lv_iconst (v := 0) hx hb dX2_callOrTime_39 (by decide) ?_
      refine w_ild C hw (c0 := 24) (i0 := i) dX2_callOrTime_40 (hG 24 (by decide) (by decide)) rfl rfl (vpk (by decide)) (j := 0) (by decide) ?_
      rw [e240]
      refine lv_sipush (v := 1024) hx hb dX2_callOrTime_41 (by decide) ?_
      refine lv_iand hx hb dX2_callOrTime_44 ?_
      refine lv_if_ne (tgt := 58) hx hb dX2_callOrTime_45 (by decide) (fun h45 => ?_) (fun h45 => ?_)
      · refine lv_aload_n hx hb dX2_callOrTime_58 rfl (hl.at rfl) ?_
        refine lv_iload_n hx hb dX2_callOrTime_59 rfl (hl.at rfl) ?_
        refine lv_aload_n hx hb dX2_callOrTime_60 rfl (hl.at rfl) ?_
        refine w_getN C hN hw (c0 := 20) (i0 := i) rfl inA0 10 (by decide) mw653 rfl dX2_callOrTime_61 (hG 20 (by decide) (by decide)) rfl rfl rfl ?_
        refine lv_bipush (v := 8) hx hb dX2_callOrTime_64 (by decide) ?_
        refine w_ild C hw (c0 := 24) (i0 := i) dX2_callOrTime_66 (hG 24 (by decide) (by decide)) rfl rfl (vpk (by decide)) (j := 8) (by decide) ?_
        rw [e248]
        refine w_callS C hN hw (c_X2_setD l sz0 D cs X _ Y i hG w _) ⟨(Nat.le_of_ble_eq_true rfl), (Nat.le_of_ble_eq_true rfl), mw380, mw19, cy_X2_setD⟩ mw378 mw379 rfl hl.1.1 rfl (Nat.le_of_ble_eq_true rfl) dX2_callOrTime_67 ⟨Nat.le_of_ble_eq_true rfl, Nat.le_of_ble_eq_true rfl⟩ (fun X' Z' Y' v k n H locs hp hw => ?_)
        obtain ⟨rfl, rfl, rfl, rfl, rfl, rfl⟩ := hp
        have eC : cotS g w (Z 12 0 3) (Z 12 0 4) = (gu g 3 (fD w) (g 4 8), 0, 0, Z 12 0 3, Z 12 0 4) := by unfold cotS; rw [if_neg h6, if_neg (fun q => h45 q.2)]
        exact w_vret C hw hr hlocks dX2_callOrTime_70 ⟨rfl, rfl, rfl, rfl, rfl, by rw [eC]; exact GR_23 hR, by rw [eC, rowE_id, upr_k (by decide)], (SFp.ofU hI (Or.inl ⟨rfl, by decide, by decide⟩))⟩
      · refine lv_aload_n hx hb dX2_callOrTime_48 rfl (hl.at rfl) ?_
        refine lv_iconst (v := 3) hx hb dX2_callOrTime_49 (by decide) ?_
        refine lv_iload_n hx hb dX2_callOrTime_50 rfl (hl.at rfl) ?_
        refine w_callV C hN hw (c_X2_refuse l sz0 D cs X _ Y hX 3 w) ⟨(Nat.le_of_ble_eq_true rfl), (Nat.le_of_ble_eq_true rfl), mw360, mw19, cy_X2_refuse⟩ mw357 mw358 mw359 (w_rec hw (c0 := 12) (i0 := 0) (hX 12 (by decide)) rfl rfl) rfl hl.1.1 rfl (Nat.le_of_ble_eq_true rfl) dX2_callOrTime_51 ⟨Nat.le_of_ble_eq_true rfl, Nat.le_of_ble_eq_true rfl⟩ (fun X' Z' Y' v k n H locs hp hw => ?_)
        obtain ⟨rfl, rfl, rfl, rfl, rfl, rfl⟩ := hp
        refine lv_pop hx hb dX2_callOrTime_54 rfl ?_
        refine lv_goto (tgt := 70) hx hb dX2_callOrTime_55 (by decide) ?_
        have eC : cotS g w (Z 12 0 3) (Z 12 0 4) = (g, 3, w, Z 12 0 3, Z 12 0 4) := by unfold cotS; rw [if_neg h6, if_pos ⟨h32, h45⟩]
        exact w_vret C hw hr hlocks dX2_callOrTime_70 ⟨rfl, rfl, rfl, rfl, rfl, by rw [eC]; exact GR_12 hR, by rw [eC, upr_s]; unfold rowE; rw [if_neg (show ¬ (3 : Int32) = 0 by decide)], SFp.ofU hI (Or.inr (Or.inl ⟨rfl, rfl⟩))⟩
  · have h6 : opc w = 19 := h6
    refine lv_aload_n hx hb dX2_callOrTime_9 rfl (hl.at rfl) ?_
    refine lv_bipush (v := 8) hx hb dX2_callOrTime_10 (by decide) ?_
    refine lv_aload_n hx hb dX2_callOrTime_12 rfl (hl.at rfl) ?_
    refine w_getN C hN hw (c0 := 20) (i0 := i) rfl inA0 3 (by decide) mw644 rfl dX2_callOrTime_13 (hG 20 (by decide) (by decide)) rfl rfl rfl ?_
    rw [em]
    refine lv_iadd hx hb dX2_callOrTime_16 ?_
    refine lv_iload_n hx hb dX2_callOrTime_17 rfl (hl.at rfl) ?_
    refine w_callS C hN hw (c_X2_number l sz0 D cs X _ Y w) ⟨(Nat.le_of_ble_eq_true rfl), (Nat.le_of_ble_eq_true rfl), mw377, mw19, cy_X2_number⟩ mw375 mw376 rfl hl.1.1 rfl (Nat.le_of_ble_eq_true rfl) dX2_callOrTime_18 ⟨Nat.le_of_ble_eq_true rfl, Nat.le_of_ble_eq_true rfl⟩ (fun X' Z' Y' v k n H locs hp hw => ?_)
    obtain ⟨rfl, rfl, rfl, rfl, rfl, rfl⟩ := hp
    refine w_callV C hN hw (c_X2_refuse l sz0 D cs X _ Y hX _ _) ⟨(Nat.le_of_ble_eq_true rfl), (Nat.le_of_ble_eq_true rfl), mw360, mw19, cy_X2_refuse⟩ mw357 mw358 mw359 (w_rec hw (c0 := 12) (i0 := 0) (hX 12 (by decide)) rfl rfl) rfl hl.1.1 rfl (Nat.le_of_ble_eq_true rfl) dX2_callOrTime_21 ⟨Nat.le_of_ble_eq_true rfl, Nat.le_of_ble_eq_true rfl⟩ (fun X' Z' Y' v k n H locs hp hw => ?_)
    obtain ⟨rfl, rfl, rfl, rfl, rfl, rfl⟩ := hp
    refine lv_pop hx hb dX2_callOrTime_24 rfl ?_
    refine lv_goto (tgt := 70) hx hb dX2_callOrTime_25 (by decide) ?_
    have eC : cotS g w (Z 12 0 3) (Z 12 0 4) = (g, 8 + g 0 3, numS w, Z 12 0 3, Z 12 0 4) := by unfold cotS; rw [if_pos h6]
    exact w_vret C hw hr hlocks dX2_callOrTime_70 ⟨rfl, rfl, rfl, rfl, rfl, by rw [eC]; exact GR_12 hR, by rw [eC, upr_s]; unfold rowE; rw [if_neg h8], SFp.ofU hI (Or.inr (Or.inl ⟨rfl, rfl⟩))⟩

set_option maxHeartbeats 4000000 in
set_option maxRecDepth 100000 in
theorem c_X2_readControl (l : Launch) (sz0 : Nat) (D : va_G) (cs : Nat → ClassId) (X : Sh) (Z : ZT) (Y : va_W) (hX : HXI X) (i : Nat) (hG : GI X i) (h gp F : Nat) (g : GS) (hI : HI X Z h gp) (hL : GL X Z i F) (hR : GR Z i F g) (w : Int32) : Ctr l yX2_readControl (wsM yX2_readControl cX2_readControl 4 none) ({ frames := 1, cells := 0, slots := 0, locals := 22 } : Room) sz0 D cs [.ref (X.1 12 0), .ref (X.1 20 i), .int w] X Z Y (Pz X Y (fun Z' v => v = none ∧ GR Z' i F (rcS g w (Z 12 0 3) (Z 12 0 4)).1 ∧ Z' 12 0 = rowE (Z 12 0) (rcS g w (Z 12 0 3) (Z 12 0 4)) ∧ SFp X Z h i gp X Z' 0 0 gp)) := by
  refine Ctr.ofW (by decide +kernel) (by intro v hv; simp at hv; rcases hv with rfl | rfl | rfl <;> rfl) (Nat.le_of_ble_eq_true rfl) ?_
  intro p e s m below meth c ls C hr hlocks hname hl hN hw
  obtain ⟨hx, hb, hml, hown, hts⟩ := id C
  refine lv_iload_n hx hb dX2_readControl_0 rfl (hl.at rfl) ?_
  refine w_callS C hN hw (c_X2_number l sz0 D cs X _ Y w) ⟨(Nat.le_of_ble_eq_true rfl), (Nat.le_of_ble_eq_true rfl), mw377, mw19, cy_X2_number⟩ mw375 mw376 rfl hl.1.1 rfl (Nat.le_of_ble_eq_true rfl) dX2_readControl_1 ⟨Nat.le_of_ble_eq_true rfl, Nat.le_of_ble_eq_true rfl⟩ (fun X' Z' Y' v k n H locs hp hw => ?_)
  obtain ⟨rfl, rfl, rfl, rfl, rfl, rfl⟩ := hp
  refine w_istore_n hx hb dX2_readControl_4 rfl hl (Nat.le_of_ble_eq_true rfl) (fun ls hl => ?_)
  refine lv_iload_n hx hb dX2_readControl_5 rfl (hl.at rfl) ?_
  refine lv_if_lt (tgt := 15) hx hb dX2_readControl_6 (by decide) (fun h6 => ?_) (fun h6 => ?_)
  · refine lv_aload_n hx hb dX2_readControl_15 rfl (hl.at rfl) ?_
    refine lv_iconst (v := 2) hx hb dX2_readControl_16 (by decide) ?_
    refine lv_iload_n hx hb dX2_readControl_17 rfl (hl.at rfl) ?_
    refine w_callV C hN hw (c_X2_refuse l sz0 D cs X _ Y hX 2 w) ⟨(Nat.le_of_ble_eq_true rfl), (Nat.le_of_ble_eq_true rfl), mw360, mw19, cy_X2_refuse⟩ mw357 mw358 mw359 (w_rec hw (c0 := 12) (i0 := 0) (hX 12 (by decide)) rfl rfl) rfl hl.1.1 rfl (Nat.le_of_ble_eq_true rfl) dX2_readControl_18 ⟨Nat.le_of_ble_eq_true rfl, Nat.le_of_ble_eq_true rfl⟩ (fun X' Z' Y' v k n H locs hp hw => ?_)
    obtain ⟨rfl, rfl, rfl, rfl, rfl, rfl⟩ := hp
    refine lv_pop hx hb dX2_readControl_21 rfl ?_
    refine lv_goto (tgt := 36) hx hb dX2_readControl_22 (by decide) ?_
    have eC : rcS g w (Z 12 0 3) (Z 12 0 4) = (g, 2, w, Z 12 0 3, Z 12 0 4) := by unfold rcS; rw [if_pos (Or.inl h6)]
    exact w_vret C hw hr hlocks dX2_readControl_36 ⟨rfl, rfl, rfl, rfl, rfl, by rw [eC]; exact GR_12 hR, by rw [eC, upr_s]; unfold rowE; rw [if_neg (show ¬ (2 : Int32) = 0 by decide)], SFp.ofU hI (Or.inr (Or.inl ⟨rfl, rfl⟩))⟩
  · refine lv_iload_n hx hb dX2_readControl_9 rfl (hl.at rfl) ?_
    refine lv_bipush (v := 10) hx hb dX2_readControl_10 (by decide) ?_
    refine lv_icmp_lt (tgt := 25) hx hb dX2_readControl_12 (by decide) (fun h12 => ?_) (fun h12 => ?_)
    · have hv : vp_in (numS w) 10 := vpr (N := 10) (by decide) h6 (fun q => Int32.not_lt.mpr q h12)
      have hk : (numS w).toNatClampNeg < 10 := Nat.not_le.mp (fun q => hv (Or.inr q))
      refine lv_aload_n hx hb dX2_readControl_25 rfl (hl.at rfl) ?_
      refine lv_iload_n hx hb dX2_readControl_26 rfl (hl.at rfl) ?_
      refine lv_aload_n hx hb dX2_readControl_27 rfl (hl.at rfl) ?_
      refine w_getN C hN hw (c0 := 20) (i0 := i) rfl inA0 10 (by decide) mw653 rfl dX2_readControl_28 (hG 20 (by decide) (by decide)) rfl rfl rfl ?_
      refine lv_iload_n hx hb dX2_readControl_31 rfl (hl.at rfl) ?_
      refine w_ild C hw (c0 := 24) (i0 := i) dX2_readControl_32 (hG 24 (by decide) (by decide)) rfl rfl hv rfl ?_
      rw [hR.k hk]
      refine w_callS C hN hw (c_X2_setD l sz0 D cs X _ Y i hG w _) ⟨(Nat.le_of_ble_eq_true rfl), (Nat.le_of_ble_eq_true rfl), mw380, mw19, cy_X2_setD⟩ mw378 mw379 rfl hl.1.1 rfl (Nat.le_of_ble_eq_true rfl) dX2_readControl_33 ⟨Nat.le_of_ble_eq_true rfl, Nat.le_of_ble_eq_true rfl⟩ (fun X' Z' Y' v k n H locs hp hw => ?_)
      obtain ⟨rfl, rfl, rfl, rfl, rfl, rfl⟩ := hp
      have eC : rcS g w (Z 12 0 3) (Z 12 0 4) = (gu g 3 (fD w) (g 4 (numS w).toNatClampNeg), 0, 0, Z 12 0 3, Z 12 0 4) := by unfold rcS; rw [if_neg (fun q => q.elim h6 (fun q => q h12))]
      exact w_vret C hw hr hlocks dX2_readControl_36 ⟨rfl, rfl, rfl, rfl, rfl, by rw [eC]; exact GR_23 hR, by rw [eC, rowE_id, upr_k (by decide)], (SFp.ofU hI (Or.inl ⟨rfl, by decide, by decide⟩))⟩
    · refine lv_aload_n hx hb dX2_readControl_15 rfl (hl.at rfl) ?_
      refine lv_iconst (v := 2) hx hb dX2_readControl_16 (by decide) ?_
      refine lv_iload_n hx hb dX2_readControl_17 rfl (hl.at rfl) ?_
      refine w_callV C hN hw (c_X2_refuse l sz0 D cs X _ Y hX 2 w) ⟨(Nat.le_of_ble_eq_true rfl), (Nat.le_of_ble_eq_true rfl), mw360, mw19, cy_X2_refuse⟩ mw357 mw358 mw359 (w_rec hw (c0 := 12) (i0 := 0) (hX 12 (by decide)) rfl rfl) rfl hl.1.1 rfl (Nat.le_of_ble_eq_true rfl) dX2_readControl_18 ⟨Nat.le_of_ble_eq_true rfl, Nat.le_of_ble_eq_true rfl⟩ (fun X' Z' Y' v k n H locs hp hw => ?_)
      obtain ⟨rfl, rfl, rfl, rfl, rfl, rfl⟩ := hp
      refine lv_pop hx hb dX2_readControl_21 rfl ?_
      refine lv_goto (tgt := 36) hx hb dX2_readControl_22 (by decide) ?_
      have eC : rcS g w (Z 12 0 3) (Z 12 0 4) = (g, 2, w, Z 12 0 3, Z 12 0 4) := by unfold rcS; rw [if_pos (Or.inr h12)]
      exact w_vret C hw hr hlocks dX2_readControl_36 ⟨rfl, rfl, rfl, rfl, rfl, by rw [eC]; exact GR_12 hR, by rw [eC, upr_s]; unfold rowE; rw [if_neg (show ¬ (2 : Int32) = 0 by decide)], SFp.ofU hI (Or.inr (Or.inl ⟨rfl, rfl⟩))⟩

set_option maxHeartbeats 4000000 in
set_option maxRecDepth 100000 in
theorem c_X2_waitForLine (l : Launch) (sz0 : Nat) (D : va_G) (cs : Nat → ClassId) (X : Sh) (Z : ZT) (Y : va_W) (hX : HXI X) (i : Nat) (hG : GI X i) (h gp F : Nat) (g : GS) (hI : HI X Z h gp) (hL : GL X Z i F) (hR : GR Z i F g) : Ctr l yX2_waitForLine (wsM yX2_waitForLine cX2_waitForLine 2 none) ({ frames := 1, cells := 0, slots := 0, locals := 20 } : Room) sz0 D cs [.ref (X.1 12 0), .ref (X.1 20 i)] X Z Y (Pz X Y (fun Z' v => v = none ∧ GR Z' i F (waitS g (Z 12 0 3) (Z 12 0 4)).1 ∧ Z' 12 0 = rowE (Z 12 0) (waitS g (Z 12 0 3) (Z 12 0 4)) ∧ SFp X Z h i gp X Z' 0 0 gp)) := by
  refine Ctr.ofW (by decide +kernel) (by intro v hv; simp at hv; rcases hv with rfl | rfl <;> rfl) (Nat.le_of_ble_eq_true rfl) ?_
  intro p e s m below meth c ls C hr hlocks hname hl hN hw
  obtain ⟨hx, hb, hml, hown, hts⟩ := id C
  have e246 : Z 24 i 6 = g 4 6 := hR.k (by decide)
  have e248 : Z 24 i 8 = g 4 8 := hR.k (by decide)
  have e14 : Z 20 i 14 = g 0 14 := hR.1.2.2.2.2.2.1
  refine lv_aload_n hx hb dX2_waitForLine_0 rfl (hl.at rfl) ?_
  refine w_callV C hN hw (c_X0_timerIsUp l sz0 D cs X _ Y i hG) ⟨(Nat.le_of_ble_eq_true rfl), (Nat.le_of_ble_eq_true rfl), mw351, mw111, cy_X0_timerIsUp⟩ mw348 mw349 mw350 (w_rec hw (c0 := 20) (i0 := i) (hG 20 (by decide) (by decide)) rfl rfl) rfl hl.1.1 rfl (Nat.le_of_ble_eq_true rfl) dX2_waitForLine_1 ⟨Nat.le_of_ble_eq_true rfl, Nat.le_of_ble_eq_true rfl⟩ (fun X' Z' Y' v k n H locs hp hw => ?_)
  obtain ⟨rfl, rfl, rfl, rfl, rfl, rfl⟩ := hp
  rw [e246, e248]
  refine lv_if_ne (tgt := 14) hx hb dX2_waitForLine_4 (by decide) (fun h4 => ?_) (fun h4 => ?_)
  · have eC : waitS g (Z 12 0 3) (Z 12 0 4) = (g, 0, 0, Z 12 0 3, Z 12 0 4) := by unfold waitS; rw [if_pos (Or.inl h4)]
    exact w_vret C hw hr hlocks dX2_waitForLine_14 ⟨rfl, rfl, rfl, rfl, rfl, by rw [eC]; exact hR, by rw [eC, rowE_id], SFp.refl hI⟩
  · refine lv_aload_n hx hb dX2_waitForLine_7 rfl (hl.at rfl) ?_
    refine w_getN C hN hw (c0 := 20) (i0 := i) rfl inA0 14 (by decide) mw656 rfl dX2_waitForLine_8 (hG 20 (by decide) (by decide)) rfl rfl rfl ?_
    rw [e14]
    refine lv_if_le (tgt := 15) hx hb dX2_waitForLine_11 (by decide) (fun h11 => ?_) (fun h11 => ?_)
    · have hn : ¬ (¬ timeUpv (g 4 8) (g 4 6) = 0 ∨ ¬ g 0 14 ≤ 0) := fun q => q.elim (fun q => q h4) (fun q => q h11)
      refine lv_aload_n hx hb dX2_waitForLine_15 rfl (hl.at rfl) ?_
      refine w_getN C hN hw (c0 := 20) (i0 := i) rfl inA0 10 (by decide) mw653 rfl dX2_waitForLine_16 (hG 20 (by decide) (by decide)) rfl rfl rfl ?_
      refine lv_bipush (v := 6) hx hb dX2_waitForLine_19 (by decide) ?_
      refine w_ild C hw (c0 := 24) (i0 := i) dX2_waitForLine_21 (hG 24 (by decide) (by decide)) rfl rfl (vpk (by decide)) (j := 6) (by decide) ?_
      rw [e246]
      refine lv_if_eq (tgt := 39) hx hb dX2_waitForLine_22 (by decide) (fun h22 => ?_) (fun h22 => ?_)
      · refine lv_aload_n hx hb dX2_waitForLine_39 rfl (hl.at rfl) ?_
        refine lv_iconst (v := 2) hx hb dX2_waitForLine_40 (by decide) ?_
        refine w_putN C hN hw (c0 := 20) (i0 := i) rfl inA0 tyX0_ok nmX0 1 (by decide) mw641 rfl rfl rfl dX2_waitForLine_41 (hG 20 (by decide) (by decide)) rfl rfl rfl rfl (Nat.le_of_ble_eq_true rfl) rfl (fun H locs hw => ?_)
        have eC : waitS g (Z 12 0 3) (Z 12 0 4) = (gu g 0 1 2, 0, 0, Z 12 0 3, Z 12 0 4) := by unfold waitS; rw [if_neg hn, if_neg (fun q => q h22)]
        exact w_vret C hw hr hlocks dX2_waitForLine_44 ⟨rfl, rfl, rfl, rfl, rfl, by rw [eC]; exact GR_20 ⟨by decide, by decide⟩ hR, by rw [eC, rowE_id, upr_k (by decide)], SFp.ofU hI (Or.inr (Or.inr ⟨rfl, rfl, by rw [upd_n (by decide)], by rw [upd_n (by decide)]⟩))⟩
      · refine lv_aload_n hx hb dX2_waitForLine_25 rfl (hl.at rfl) ?_
        refine lv_aload_n hx hb dX2_waitForLine_26 rfl (hl.at rfl) ?_
        refine w_getN C hN hw (c0 := 20) (i0 := i) rfl inA0 10 (by decide) mw653 rfl dX2_waitForLine_27 (hG 20 (by decide) (by decide)) rfl rfl rfl ?_
        refine lv_bipush (v := 6) hx hb dX2_waitForLine_30 (by decide) ?_
        refine w_ild C hw (c0 := 24) (i0 := i) dX2_waitForLine_32 (hG 24 (by decide) (by decide)) rfl rfl (vpk (by decide)) (j := 6) (by decide) ?_
        rw [e246]
        refine w_put C hw (c0 := 12) (i0 := 0) rfl inA2 tyX2_ok nmX2 4 (by decide) mw344 rfl rfl rfl dX2_waitForLine_33 (hX 12 (by decide)) rfl rfl rfl rfl (Nat.le_of_ble_eq_true rfl) rfl (fun H locs hw => ?_)
        refine lv_goto (tgt := 44) hx hb dX2_waitForLine_36 (by decide) ?_
        have eC : waitS g (Z 12 0 3) (Z 12 0 4) = (g, 0, 0, Z 12 0 3, g 4 6) := by unfold waitS; rw [if_neg hn, if_pos h22]
        exact w_vret C hw hr hlocks dX2_waitForLine_44 ⟨rfl, rfl, rfl, rfl, rfl, by rw [eC]; exact GR_12 hR, by rw [eC, upr_s]; unfold rowE; rw [if_pos rfl, upd_id], SFp.ofU hI (Or.inr (Or.inl ⟨rfl, rfl⟩))⟩
    · have eC : waitS g (Z 12 0 3) (Z 12 0 4) = (g, 0, 0, Z 12 0 3, Z 12 0 4) := by unfold waitS; rw [if_pos (Or.inr h11)]
      exact w_vret C hw hr hlocks dX2_waitForLine_14 ⟨rfl, rfl, rfl, rfl, rfl, by rw [eC]; exact hR, by rw [eC, rowE_id], SFp.refl hI⟩

set_option maxHeartbeats 4000000 in
set_option maxRecDepth 100000 in
theorem c_X2_takeIn (l : Launch) (sz0 : Nat) (D : va_G) (cs : Nat → ClassId) (X : Sh) (Z : ZT) (Y : va_W) (i : Nat) (hG : GI X i) (h gp F : Nat) (g : GS) (hI : HI X Z h gp) (hL : GL X Z i F) (hR : GR Z i F g) (n : Int32) : Ctr l yX2_takeIn (wsM yX2_takeIn cX2_takeIn 2 (some .int)) ({ frames := 1, cells := 0, slots := 0, locals := 21 } : Room) sz0 D cs [.ref (X.1 20 i), .int n] X Z Y (Pz X Y (fun Z' v => v = some (.int (inS g n).2) ∧ GR Z' i F (inS g n).1 ∧ Z' 12 0 = Z 12 0 ∧ SFp X Z h i gp X Z' 0 0 gp)) := by
  refine Ctr.ofW (by decide +kernel) (by intro v hv; simp at hv; rcases hv with rfl | rfl <;> rfl) (Nat.le_of_ble_eq_true rfl) ?_
  intro p e s m below meth c ls C hr hlocks hname hl hN hw
  obtain ⟨hx, hb, hml, hown, hts⟩ := id C
  have e14 : Z 20 i 14 = g 0 14 := hR.1.2.2.2.2.2.1
  have e16 : Z 20 i 16 = g 0 16 := hR.1.2.2.2.2.2.2
  have e4 : Z 20 i 4 = g 0 4 := hR.1.2.2.2.1
  refine lv_iload_n hx hb dX2_takeIn_0 rfl (hl.at rfl) ?_
  refine lv_topi (fun x1 e1 => ?_)
  by_cases q1_0 : x1 = 0
  · subst q1_0
    refine lv_tableIn (off := 31) (tgt := 32) hx hb dX2_takeIn_1 (by decide) (by decide) (by decide) (by decide) ?_
    refine lv_aload_n hx hb dX2_takeIn_32 rfl (hl.at rfl) ?_
    refine w_callV C hN hw (c_X0_takeOldest l sz0 D cs X _ Y i hG) ⟨(Nat.le_of_ble_eq_true rfl), (Nat.le_of_ble_eq_true rfl), mw420, mw111, cy_X0_takeOldest⟩ mw417 mw418 mw419 (w_rec hw (c0 := 20) (i0 := i) (hG 20 (by decide) (by decide)) rfl rfl) rfl hl.1.1 rfl (Nat.le_of_ble_eq_true rfl) dX2_takeIn_33 ⟨Nat.le_of_ble_eq_true rfl, Nat.le_of_ble_eq_true rfl⟩ (fun X' Z' Y' v k n H locs hp hw => ?_)
    obtain ⟨rfl, rfl, rfl, rfl, hp⟩ := hp
    subst e1
    rcases hp with ⟨hq, rfl, rfl⟩ | ⟨hq, rfl, rfl⟩
    · have eC : inS g 0 = (g, 0) := by unfold inS popS; rw [if_pos rfl, if_pos (by rw [← e14]; exact hq)]
      exact w_iret C hw hr hlocks dX2_takeIn_36 ⟨rfl, rfl, rfl, rfl, by rw [eC], by rw [eC]; exact hR, rfl, SFp.refl hI⟩
    · obtain ⟨m1, m2⟩ := GR_pop hR hq
      have eC : inS g 0 = (gr (gu g 0 14 (g 0 14 - 1)) 6 (fun j => g 6 (j + 1)), g 6 0) := by unfold inS popS; rw [if_pos rfl, if_neg (fun q => q (by rw [← e14]; exact hq))]
      rw [m2]
      exact w_iret C hw hr hlocks dX2_takeIn_36 ⟨rfl, rfl, rfl, rfl, by rw [eC], by rw [eC]; exact m1, by rw [upr_k (by decide)], SFp.ofU hI (Or.inr (Or.inr ⟨rfl, rfl, by rw [upd_n (by decide), upd_n (by decide)], by rw [upd_n (by decide), upd_n (by decide)]⟩))⟩
  by_cases q1_1 : x1 = 1
  · subst q1_1
    refine lv_tableIn (off := 36) (tgt := 37) hx hb dX2_takeIn_1 (by decide) (by decide) (by decide) (by decide) ?_
    refine lv_aload_n hx hb dX2_takeIn_37 rfl (hl.at rfl) ?_
    refine w_getN C hN hw (c0 := 20) (i0 := i) rfl inA0 14 (by decide) mw656 rfl dX2_takeIn_38 (hG 20 (by decide) (by decide)) rfl rfl rfl ?_
    subst e1
    rw [e14]
    have eC : inS g 1 = (g, g 0 14) := by unfold inS; simp
    exact w_iret C hw hr hlocks dX2_takeIn_41 ⟨rfl, rfl, rfl, rfl, by rw [eC], by rw [eC]; exact hR, rfl, SFp.refl hI⟩
  by_cases q1_2 : x1 = 2
  · subst q1_2
    refine lv_tableIn (off := 41) (tgt := 42) hx hb dX2_takeIn_1 (by decide) (by decide) (by decide) (by decide) ?_
    refine lv_aload_n hx hb dX2_takeIn_42 rfl (hl.at rfl) ?_
    refine w_getN C hN hw (c0 := 20) (i0 := i) rfl inA0 16 (by decide) mw658 rfl dX2_takeIn_43 (hG 20 (by decide) (by decide)) rfl rfl rfl ?_
    subst e1
    rw [e16]
    have eC : inS g 2 = (g, g 0 16) := by unfold inS; simp
    exact w_iret C hw hr hlocks dX2_takeIn_46 ⟨rfl, rfl, rfl, rfl, by rw [eC], by rw [eC]; exact hR, rfl, SFp.refl hI⟩
  by_cases q1_3 : x1 = 3
  · subst q1_3
    refine lv_tableIn (off := 46) (tgt := 47) hx hb dX2_takeIn_1 (by decide) (by decide) (by decide) (by decide) ?_
    refine lv_aload_n hx hb dX2_takeIn_47 rfl (hl.at rfl) ?_
    refine w_getN C hN hw (c0 := 20) (i0 := i) rfl inA0 4 (by decide) mw646 rfl dX2_takeIn_48 (hG 20 (by decide) (by decide)) rfl rfl rfl ?_
    subst e1
    rw [e4]
    have eC : inS g 3 = (g, g 0 4) := by unfold inS; simp
    exact w_iret C hw hr hlocks dX2_takeIn_51 ⟨rfl, rfl, rfl, rfl, by rw [eC], by rw [eC]; exact hR, rfl, SFp.refl hI⟩
  refine lv_tableOut (tgt := 52) hx hb dX2_takeIn_1 (by have := lv_neT q1_0 (by decide : (0 : Int32).toInt = 0); have := lv_neT q1_1 (by decide : (1 : Int32).toInt = 1); have := lv_neT q1_2 (by decide : (2 : Int32).toInt = 2); have := lv_neT q1_3 (by decide : (3 : Int32).toInt = 3); omega) (by decide) ?_
  refine lv_iconst (v := 0) hx hb dX2_takeIn_52 (by decide) ?_
  have eC : inS g n = (g, 0) := by rw [← e1]; unfold inS; rw [if_neg q1_0, if_neg q1_1, if_neg q1_2, if_neg q1_3]
  exact w_iret C hw hr hlocks dX2_takeIn_53 ⟨rfl, rfl, rfl, rfl, by rw [eC], by rw [eC]; exact hR, rfl, SFp.refl hI⟩
