def bas (X : Sh) (Z : ZT) (i s : Nat) : Nat := (if s = 0 then 1 else 0) + sumN i (fun j => sumN (gfr X Z j) (fun k => use1 Z j k s))
theorem bas_s {X : Sh} {Z : ZT} {i s : Nat} : bas X Z (i + 1) s = bas X Z i s + sumN (gfr X Z i) (fun k => use1 Z i k s) := by unfold bas; rw [sumN, Nat.add_assoc]
theorem CR_11 {X : Sh} {Z : ZT} {S : HS} {h gp : Nat} {f : Nat → Int32} (H : CR X Z S h gp) : CR X (upr Z 11 0 f) S h gp := by
  obtain ⟨a, b, c⟩ := H
  refine ⟨HI_rows a (fun c _ _ => upr_k (by omega)) (fun j => upr_k (by decide)) (fun j => by rw [upr_k (by decide)]; exact ⟨rfl, rfl⟩), by rw [upr_k (by decide)]; exact b, fun i hi => ?_⟩
  rw [upr_k (by decide)]
  exact ⟨(c i hi).1, fun q => ⟨((c i hi).2 q).1, ((c i hi).2 q).2.1, ((c i hi).2 q).2.2.1, GR_rows (fun c _ _ _ => upr_k (by omega)) (fun k w _ _ => mw_rows (upr_k (by decide)) (upr_k (by decide)) (upr_k (by decide)) (upr_k (by decide))) ((c i hi).2 q).2.2.2⟩⟩

set_option maxHeartbeats 4000000 in
set_option maxRecDepth 100000 in
theorem c_X1_countWrongUses (l : Launch) (sz0 : Nat) (D : va_G) (cs : Nat → ClassId) (X : Sh) (Z : ZT) (Y : va_W) (hCX : CRx X) (fc : Nat) (hB : HB X Z fc) (hGF : ∀ i, i < 8 → X.2.2.1 i = true → Z 20 i 0 ≠ 0 → Z 20 i 6 = nI (gfr X Z i)) : Ctr l yX1_countWrongUses (wsM yX1_countWrongUses cX1_countWrongUses 6 (some .int)) ({ frames := 1, cells := 0, slots := 0, locals := 23 } : Room) sz0 D cs [.ref (X.1 2 0), .ref (X.1 1 0)] X Z Y (Pz X Y (fun Z' v => v = some (.int 0) ∧ ∃ r, Z' = upr Z 11 0 r)) := by
  refine Ctr.ofW (by decide +kernel) (by intro v hv; simp at hv; rcases hv with rfl | rfl <;> rfl) (Nat.le_of_ble_eq_true rfl) ?_
  intro p e s m below meth c ls C hr hlocks hname hl hN hw
  obtain ⟨hx, hb, hml, hown, hts⟩ := id C
  have hX := hCX.1
  have hcl := hB.c.2.2.2.2.2.1
  obtain ⟨d1, d2, d3, -⟩ := hB
  have loop3 : ∀ (d j : Nat), j + d = 513 → ∀ (r : Nat → Int32) (H : Heap) (locs : List Loc) (ls : Array Slot) (x4 x5 : Option Value), (∀ s, s < 513 → r s = nI (cnt X Z s)) → lo ls [some (.ref (X.1 2 0)), some (.ref (X.1 1 0)), some (.int 0), some (.int (nI j)), x4, x5] → Wd sz0 D cs s X (upr Z 11 0 r) Y H locs → W p l e ({ frames := 1, cells := 0, slots := 0, locals := 23 } : Room) s m ([.ref (X.1 2 0), .ref (X.1 1 0)] : List Value).toArray below meth c H locs 0 0 (xQ below (CQ sz0 D cs (Pz X Y (fun Z' v => v = some (.int 0) ∧ ∃ r, Z' = upr Z 11 0 r))) ([.ref (X.1 2 0), .ref (X.1 1 0)] : List Value).toArray s (Asz sz0)) (F0 m 115 ls []) := by
    intro d
    induction d with
    | zero =>
      intro j hj r H locs ls x4 x5 hr1 hl hw
      refine lv_iload_n hx hb dX1_countWrongUses_115 rfl (hl.at rfl) ?_
      refine lv_sipush (v := 513) hx hb dX1_countWrongUses_116 (by decide) ?_
      refine lv_icmp_ge (tgt := 151) hx hb dX1_countWrongUses_119 (by decide) (fun h119 => ?_) (fun h119 => ?_)
      · refine lv_iload_n hx hb dX1_countWrongUses_151 rfl (hl.at rfl) ?_
        exact w_iret C hw hr hlocks dX1_countWrongUses_152 ⟨rfl, rfl, rfl, rfl, rfl, r, rfl⟩
      · exact absurd (nI_le (show 513 ≤ j by omega) (by omega)) h119
    | succ d ih =>
      intro j hj r H locs ls x4 x5 hr1 hl hw
      refine lv_iload_n hx hb dX1_countWrongUses_115 rfl (hl.at rfl) ?_
      refine lv_sipush (v := 513) hx hb dX1_countWrongUses_116 (by decide) ?_
      refine lv_icmp_ge (tgt := 151) hx hb dX1_countWrongUses_119 (by decide) (fun h119 => ?_) (fun h119 => ?_)
      · exact absurd h119 (nI_ge (show j < 513 by omega) (by decide))
      · refine lv_iload_n hx hb dX1_countWrongUses_122 rfl (hl.at rfl) ?_
        refine lv_aload_n hx hb dX1_countWrongUses_123 rfl (hl.at rfl) ?_
        refine w_get C hw (c0 := 2) (i0 := 0) rfl inA1 12 (by decide) mw36 rfl dX1_countWrongUses_124 (hX 2 (by decide)) rfl rfl rfl ?_
        refine lv_iload_n hx hb dX1_countWrongUses_127 rfl (hl.at rfl) ?_
        refine w_ild C hw (c0 := 11) (i0 := 0) dX1_countWrongUses_128 (hX 11 (by decide)) rfl rfl (vp_in_nI (show j < 513 by omega) (by decide)) (nI_clamp (by omega)) ?_
        rw [upr_s, hr1 j (by omega)]
        refine lv_aload_n hx hb dX1_countWrongUses_129 rfl (hl.at rfl) ?_
        refine w_get C hw (c0 := 2) (i0 := 0) rfl inA1 8 (by decide) mw32 rfl dX1_countWrongUses_130 (hX 2 (by decide)) rfl rfl rfl ?_
        refine lv_iload_n hx hb dX1_countWrongUses_133 rfl (hl.at rfl) ?_
        refine w_ild C hw (c0 := 7) (i0 := 0) dX1_countWrongUses_134 (hX 7 (by decide)) rfl rfl (vp_in_nI (show j < 513 by omega) (by decide)) (nI_clamp (by omega)) ?_
        rw [upr_k (show (7 : Nat) ≠ 11 by decide), d1 j (by omega)]
        refine lv_icmp_ne (tgt := 142) hx hb dX1_countWrongUses_135 (by decide) (fun h135 => ?_) (fun h135 => ?_)
        · exact absurd rfl h135
        · refine lv_iconst (v := 0) hx hb dX1_countWrongUses_138 (by decide) ?_
          refine lv_goto (tgt := 143) hx hb dX1_countWrongUses_139 (by decide) ?_
          refine lv_iadd hx hb dX1_countWrongUses_143 ?_
          refine lv_topi (fun y ey => ?_)
          obtain rfl : y = 0 := ey.trans (by decide)
          refine w_istore_n hx hb dX1_countWrongUses_144 rfl hl (Nat.le_of_ble_eq_true rfl) (fun ls hl => ?_)
          refine w_iinc hx hb dX1_countWrongUses_145 hl rfl rfl (fun ls hl => ?_)
          refine lv_goto (tgt := 115) hx hb dX1_countWrongUses_148 (by decide) ?_
          exact ih (j + 1) (by omega) r _ _ _ _ _ hr1 (by rw [← nI_1 j]; exact hl) hw
  have loop : ∀ (d i : Nat), i + d = 8 → ∀ (r : Nat → Int32) (H : Heap) (locs : List Loc) (ls : Array Slot) (x4 x5 : Option Value), (∀ s, s < 513 → r s = nI (bas X Z i s)) → lo ls [some (.ref (X.1 2 0)), some (.ref (X.1 1 0)), some (.int 0), some (.int (nI i)), x4, x5] → Wd sz0 D cs s X (upr Z 11 0 r) Y H locs → W p l e ({ frames := 1, cells := 0, slots := 0, locals := 23 } : Room) s m ([.ref (X.1 2 0), .ref (X.1 1 0)] : List Value).toArray below meth c H locs 0 0 (xQ below (CQ sz0 D cs (Pz X Y (fun Z' v => v = some (.int 0) ∧ ∃ r, Z' = upr Z 11 0 r))) ([.ref (X.1 2 0), .ref (X.1 1 0)] : List Value).toArray s (Asz sz0)) (F0 m 19 ls []) := by
    intro d
    induction d with
    | zero =>
      intro i hj r H locs ls x4 x5 hr1 hl hw
      refine lv_iload_n hx hb dX1_countWrongUses_19 rfl (hl.at rfl) ?_
      refine lv_aload_n hx hb dX1_countWrongUses_20 rfl (hl.at rfl) ?_
      refine w_len C hw (c0 := 1) (i0 := 0) (ty := 2) dX1_countWrongUses_21 (hX 1 (by decide)) rfl (n := 8) (v := 8) rfl rfl rfl (by decide) ?_
      refine lv_icmp_ge (tgt := 113) hx hb dX1_countWrongUses_22 (by decide) (fun h22 => ?_) (fun h22 => ?_)
      · obtain rfl : i = 8 := by omega
        refine lv_iconst (v := 0) hx hb dX1_countWrongUses_113 (by decide) ?_
        refine w_istore_n hx hb dX1_countWrongUses_114 rfl hl (Nat.le_of_ble_eq_true rfl) (fun ls hl => ?_)
        exact loop3 513 0 (by decide) r _ _ _ _ _ hr1 hl hw
      · exact absurd (nI_le (show 8 ≤ i by omega) (by omega)) h22
    | succ d ih =>
      intro i hj r H locs ls x4 x5 hr1 hl hw
      refine lv_iload_n hx hb dX1_countWrongUses_19 rfl (hl.at rfl) ?_
      refine lv_aload_n hx hb dX1_countWrongUses_20 rfl (hl.at rfl) ?_
      refine w_len C hw (c0 := 1) (i0 := 0) (ty := 2) dX1_countWrongUses_21 (hX 1 (by decide)) rfl (n := 8) (v := 8) rfl rfl rfl (by decide) ?_
      refine lv_icmp_ge (tgt := 113) hx hb dX1_countWrongUses_22 (by decide) (fun h22 => ?_) (fun h22 => ?_)
      · exact absurd (show nI 8 ≤ nI i from h22) (nI_ge (show i < 8 by omega) (by decide))
      · have hi : i < 8 := by omega
        have k107 : ∀ (r : Nat → Int32) (H : Heap) (locs : List Loc) (ls : Array Slot) (x4 x5 : Option Value), (∀ s, s < 513 → r s = nI (bas X Z (i + 1) s)) → lo ls [some (.ref (X.1 2 0)), some (.ref (X.1 1 0)), some (.int 0), some (.int (nI i)), x4, x5] → Wd sz0 D cs s X (upr Z 11 0 r) Y H locs → W p l e ({ frames := 1, cells := 0, slots := 0, locals := 23 } : Room) s m ([.ref (X.1 2 0), .ref (X.1 1 0)] : List Value).toArray below meth c H locs 0 0 (xQ below (CQ sz0 D cs (Pz X Y (fun Z' v => v = some (.int 0) ∧ ∃ r, Z' = upr Z 11 0 r))) ([.ref (X.1 2 0), .ref (X.1 1 0)] : List Value).toArray s (Asz sz0)) (F0 m 107 ls []) := by
          intro r H locs ls x4 x5 hr2 hl hw
          refine w_iinc hx hb dX1_countWrongUses_107 hl rfl rfl (fun ls hl => ?_)
          refine lv_goto (tgt := 19) hx hb dX1_countWrongUses_110 (by decide) ?_
          exact ih (i + 1) (by omega) r _ _ _ _ _ hr2 (by rw [← nI_1 i]; exact hl) hw
        refine lv_aload_n hx hb dX1_countWrongUses_25 rfl (hl.at rfl) ?_
        refine lv_iload_n hx hb dX1_countWrongUses_26 rfl (hl.at rfl) ?_
        by_cases hm : X.2.2.1 i = true
        · have hG := hCX.2.2 i hi hm
          refine w_ald C hw (c0 := 1) (i0 := 0) (t := 2) dX1_countWrongUses_27 (hX 1 (by decide)) rfl rfl rfl (vp_in_nI hi (by decide)) (nI_clamp (by omega)) ?_
          rw [arefG hm]
          refine w_astore hx hb dX1_countWrongUses_28 hl (Nat.le_of_ble_eq_true rfl) (fun ls hl => ?_)
          refine lv_iconst (v := 0) hx hb dX1_countWrongUses_30 (by decide) ?_
          refine w_istore hx hb dX1_countWrongUses_31 hl (Nat.le_of_ble_eq_true rfl) (fun ls hl => ?_)
          by_cases hh : Z 20 i 0 = 0
          · refine lv_aload hx hb dX1_countWrongUses_33 (hl.at rfl) ?_
            refine lv_ifnull hx hb dX1_countWrongUses_35 ?_
            refine lv_aload hx hb dX1_countWrongUses_38 (hl.at rfl) ?_
            refine w_getN C hN hw (c0 := 20) (i0 := i) rfl inA0 0 (by decide) mw639 rfl dX1_countWrongUses_40 (hG 20 (by decide) (by decide)) rfl rfl rfl ?_
            rw [upr_k (show (20 : Nat) ≠ 11 by decide), hh]
            refine lv_if_eq (tgt := 107) hx hb dX1_countWrongUses_43 (by decide) (fun h43 => ?_) (fun h43 => ?_)
            · refine k107 r _ _ _ _ _ (fun s hs => ?_) hl hw
              rw [bas_s, show gfr X Z i = 0 from by unfold gfr; rw [if_neg (fun q => q.2 hh)], hr1 s hs]; rfl
            · exact absurd rfl h43
          · have eF := hGF i hi hm hh
            have hF := d3 i hi
            have inner : ∀ (d k : Nat), k + d = gfr X Z i → ∀ (r : Nat → Int32) (H : Heap) (locs : List Loc) (ls : Array Slot), (∀ s, s < 513 → r s = nI (bas X Z i s + sumN k (fun k => use1 Z i k s))) → lo ls [some (.ref (X.1 2 0)), some (.ref (X.1 1 0)), some (.int 0), some (.int (nI i)), some (.ref (X.1 20 i)), some (.int (nI k))] → Wd sz0 D cs s X (upr Z 11 0 r) Y H locs → W p l e ({ frames := 1, cells := 0, slots := 0, locals := 23 } : Room) s m ([.ref (X.1 2 0), .ref (X.1 1 0)] : List Value).toArray below meth c H locs 0 0 (xQ below (CQ sz0 D cs (Pz X Y (fun Z' v => v = some (.int 0) ∧ ∃ r, Z' = upr Z 11 0 r))) ([.ref (X.1 2 0), .ref (X.1 1 0)] : List Value).toArray s (Asz sz0)) (F0 m 33 ls []) := by
              intro d
              induction d with
              | zero =>
                intro k hk r H locs ls hr2 hl hw
                refine lv_aload hx hb dX1_countWrongUses_33 (hl.at rfl) ?_
                refine lv_ifnull hx hb dX1_countWrongUses_35 ?_
                refine lv_aload hx hb dX1_countWrongUses_38 (hl.at rfl) ?_
                refine w_getN C hN hw (c0 := 20) (i0 := i) rfl inA0 0 (by decide) mw639 rfl dX1_countWrongUses_40 (hG 20 (by decide) (by decide)) rfl rfl rfl ?_
                rw [upr_k (show (20 : Nat) ≠ 11 by decide)]
                refine lv_if_eq (tgt := 107) hx hb dX1_countWrongUses_43 (by decide) (fun h43 => ?_) (fun h43 => ?_)
                · exact absurd h43 hh
                · refine lv_iload hx hb dX1_countWrongUses_46 (hl.at rfl) ?_
                  refine lv_aload hx hb dX1_countWrongUses_48 (hl.at rfl) ?_
                  refine w_getN C hN hw (c0 := 20) (i0 := i) rfl inA0 6 (by decide) mw647 rfl dX1_countWrongUses_50 (hG 20 (by decide) (by decide)) rfl rfl rfl ?_
                  rw [upr_k (show (20 : Nat) ≠ 11 by decide), eF]
                  refine lv_icmp_ge (tgt := 107) hx hb dX1_countWrongUses_53 (by decide) (fun h53 => ?_) (fun h53 => ?_)
                  · obtain rfl : k = gfr X Z i := by omega
                    exact k107 r _ _ _ _ _ (fun s hs => by rw [bas_s]; exact hr2 s hs) hl hw
                  · exact absurd (nI_le (show gfr X Z i ≤ k by omega) (by omega)) h53
              | succ d ih2 =>
                intro k hk r H locs ls hr2 hl hw
                refine lv_aload hx hb dX1_countWrongUses_33 (hl.at rfl) ?_
                refine lv_ifnull hx hb dX1_countWrongUses_35 ?_
                refine lv_aload hx hb dX1_countWrongUses_38 (hl.at rfl) ?_
                refine w_getN C hN hw (c0 := 20) (i0 := i) rfl inA0 0 (by decide) mw639 rfl dX1_countWrongUses_40 (hG 20 (by decide) (by decide)) rfl rfl rfl ?_
                rw [upr_k (show (20 : Nat) ≠ 11 by decide)]
                refine lv_if_eq (tgt := 107) hx hb dX1_countWrongUses_43 (by decide) (fun h43 => ?_) (fun h43 => ?_)
                · exact absurd h43 hh
                · refine lv_iload hx hb dX1_countWrongUses_46 (hl.at rfl) ?_
                  refine lv_aload hx hb dX1_countWrongUses_48 (hl.at rfl) ?_
                  refine w_getN C hN hw (c0 := 20) (i0 := i) rfl inA0 6 (by decide) mw647 rfl dX1_countWrongUses_50 (hG 20 (by decide) (by decide)) rfl rfl rfl ?_
                  rw [upr_k (show (20 : Nat) ≠ 11 by decide), eF]
                  refine lv_icmp_ge (tgt := 107) hx hb dX1_countWrongUses_53 (by decide) (fun h53 => ?_) (fun h53 => ?_)
                  · exact absurd h53 (nI_ge (show k < gfr X Z i by omega) (by omega))
                  · refine lv_iload hx hb dX1_countWrongUses_56 (hl.at rfl) ?_
                    refine lv_bipush (v := 64) hx hb dX1_countWrongUses_58 (by decide) ?_
                    refine lv_icmp_ge (tgt := 107) hx hb dX1_countWrongUses_60 (by decide) (fun h60 => ?_) (fun h60 => ?_)
                    · exact absurd h60 (nI_ge (show k < 64 by omega) (by decide))
                    · obtain ⟨sh, hs, e21⟩ := d2 i k hi (by omega)
                      refine lv_aload_n hx hb dX1_countWrongUses_63 rfl (hl.at rfl) ?_
                      refine lv_aload hx hb dX1_countWrongUses_64 (hl.at rfl) ?_
                      refine w_getN C hN hw (c0 := 20) (i0 := i) rfl inA0 7 (by decide) mw649 rfl dX1_countWrongUses_66 (hG 20 (by decide) (by decide)) rfl rfl rfl ?_
                      refine lv_iload hx hb dX1_countWrongUses_69 (hl.at rfl) ?_
                      refine w_ild C hw (c0 := 21) (i0 := i) dX1_countWrongUses_71 (hG 21 (by decide) (by decide)) rfl rfl (vp_in_nI (show k < 64 by omega) (by decide)) (nI_clamp (by omega)) ?_
                      rw [upr_k (show (21 : Nat) ≠ 11 by decide), e21]
                      refine w_callV C hN hw (c_X1_isSheet l sz0 D cs X _ Y _) ⟨(Nat.le_of_ble_eq_true rfl), (Nat.le_of_ble_eq_true rfl), mw202, mw15, cy_X1_isSheet⟩ mw199 mw200 mw201 (w_rec hw (c0 := 2) (i0 := 0) (hX 2 (by decide)) rfl rfl) rfl hl.1.1 rfl (Nat.le_of_ble_eq_true rfl) dX1_countWrongUses_72 ⟨Nat.le_of_ble_eq_true rfl, Nat.le_of_ble_eq_true rfl⟩ (fun X' Z' Y' v k2 n2 H locs hp hw => ?_)
                      obtain ⟨rfl, rfl, rfl, rfl, rfl, rfl⟩ := hp
                      rw [isShv_nI hs]
                      refine lv_if_eq (tgt := 98) hx hb dX1_countWrongUses_75 (by decide) (fun h75 => ?_) (fun h75 => ?_)
                      · exact absurd h75 (by decide)
                      · refine lv_aload_n hx hb dX1_countWrongUses_78 rfl (hl.at rfl) ?_
                        refine w_get C hw (c0 := 2) (i0 := 0) rfl inA1 12 (by decide) mw36 rfl dX1_countWrongUses_79 (hX 2 (by decide)) rfl rfl rfl ?_
                        refine lv_aload hx hb dX1_countWrongUses_82 (hl.at rfl) ?_
                        refine w_getN C hN hw (c0 := 20) (i0 := i) rfl inA0 7 (by decide) mw649 rfl dX1_countWrongUses_84 (hG 20 (by decide) (by decide)) rfl rfl rfl ?_
                        refine lv_iload hx hb dX1_countWrongUses_87 (hl.at rfl) ?_
                        refine w_ild C hw (c0 := 21) (i0 := i) dX1_countWrongUses_89 (hG 21 (by decide) (by decide)) rfl rfl (vp_in_nI (show k < 64 by omega) (by decide)) (nI_clamp (by omega)) ?_
                        rw [upr_k (show (21 : Nat) ≠ 11 by decide), e21]
                        refine lv_dup2_11 hx hb dX1_countWrongUses_90 rfl rfl ?_
                        refine w_ild C hw (c0 := 11) (i0 := 0) dX1_countWrongUses_91 (hX 11 (by decide)) rfl rfl (vp_in_nI hs (by decide)) (nI_clamp (by omega)) ?_
                        refine lv_iconst (v := 1) hx hb dX1_countWrongUses_92 (by decide) ?_
                        refine lv_iadd hx hb dX1_countWrongUses_93 ?_
                        refine w_ist C hw (c0 := 11) (i0 := 0) dX1_countWrongUses_94 (hX 11 (by decide)) rfl (fun _ => rfl) (vp_in_nI hs (by decide)) (nI_clamp (by omega)) (fun H locs hw => ?_)
                        refine lv_goto (tgt := 101) hx hb dX1_countWrongUses_95 (by decide) ?_
                        refine w_iinc hx hb dX1_countWrongUses_101 hl rfl rfl (fun ls hl => ?_)
                        refine lv_goto (tgt := 33) hx hb dX1_countWrongUses_104 (by decide) ?_
                        simp only [upr_uu, upr_s] at hw
                        refine ih2 (k + 1) (by omega) (upd r sh (r sh + 1)) _ _ _ (fun s hs2 => ?_) (by rw [← nI_1 k]; exact hl) hw
                        rw [sumN]
                        unfold use1
                        by_cases e : s = sh
                        · subst e
                          rw [upd_s, hr2 s hs2, if_pos e21, nI_1]; rfl
                        · rw [upd_n e, if_neg (by rw [e21]; exact fun q => e (nI_inj (by omega) (by omega) q.symm)), hr2 s hs2]; rfl
            exact inner (gfr X Z i) 0 (by omega) r _ _ _ (fun s hs => hr1 s hs) hl hw
        · refine w_ald C hw (c0 := 1) (i0 := 0) (t := 2) dX1_countWrongUses_27 (hX 1 (by decide)) rfl rfl rfl (vp_in_nI hi (by decide)) (nI_clamp (by omega)) ?_
          rw [arefN hm]
          refine w_astoreN hx hb dX1_countWrongUses_28 hl (Nat.le_of_ble_eq_true rfl) (fun ls hl => ?_)
          refine lv_iconst (v := 0) hx hb dX1_countWrongUses_30 (by decide) ?_
          refine w_istore hx hb dX1_countWrongUses_31 hl (Nat.le_of_ble_eq_true rfl) (fun ls hl => ?_)
          refine lv_aloadN hx hb dX1_countWrongUses_33 (hl.at rfl) ?_
          refine lv_ifnullN (tgt := 107) hx hb dX1_countWrongUses_35 (by decide) ?_
          refine k107 r _ _ _ _ _ (fun s hs => ?_) hl hw
          rw [bas_s, show gfr X Z i = 0 from by unfold gfr; rw [if_neg (fun q => hm q.1)], hr1 s hs]; rfl
  refine lv_iconst (v := 0) hx hb dX1_countWrongUses_0 (by decide) ?_
  refine w_istore_n hx hb dX1_countWrongUses_1 rfl hl (Nat.le_of_ble_eq_true rfl) (fun ls hl => ?_)
  refine lv_aload_n hx hb dX1_countWrongUses_2 rfl (hl.at rfl) ?_
  refine w_get C hw (c0 := 2) (i0 := 0) rfl inA1 12 (by decide) mw36 rfl dX1_countWrongUses_3 (hX 2 (by decide)) rfl rfl rfl ?_
  refine lv_iconst (v := 0) hx hb dX1_countWrongUses_6 (by decide) ?_
  refine w_callS C hN hw (c_fill l sz0 D cs X _ Y 11 0 513 0 (hX 11 (by decide)) (fun _ => rfl) (by decide)) ⟨(Nat.le_of_ble_eq_true rfl), (Nat.le_of_ble_eq_true rfl), mw61, mw60, cy_J7_fill_53178⟩ mw58 mw59 rfl hl.1.1 rfl (Nat.le_of_ble_eq_true rfl) dX1_countWrongUses_7 ⟨Nat.le_of_ble_eq_true rfl, Nat.le_of_ble_eq_true rfl⟩ (fun X' Z' Y' v k n H locs hp hw => ?_)
  obtain ⟨rfl, rfl, rfl, rfl, rfl, rfl⟩ := hp
  refine lv_aload_n hx hb dX1_countWrongUses_10 rfl (hl.at rfl) ?_
  refine w_get C hw (c0 := 2) (i0 := 0) rfl inA1 12 (by decide) mw36 rfl dX1_countWrongUses_11 (hX 2 (by decide)) rfl rfl rfl ?_
  refine lv_iconst (v := 0) hx hb dX1_countWrongUses_14 (by decide) ?_
  refine lv_iconst (v := 1) hx hb dX1_countWrongUses_15 (by decide) ?_
  refine w_ist C hw (c0 := 11) (i0 := 0) dX1_countWrongUses_16 (hX 11 (by decide)) rfl (fun _ => rfl) (vpk (by decide)) (j := 0) (by decide) (fun H locs hw => ?_)
  refine lv_iconst (v := 0) hx hb dX1_countWrongUses_17 (by decide) ?_
  refine w_istore_n hx hb dX1_countWrongUses_18 rfl hl (Nat.le_of_ble_eq_true rfl) (fun ls hl => ?_)
  simp only [upr_uu, upr_s] at hw
  refine loop 8 0 (by decide) _ _ _ _ _ _ (fun s hs => ?_) hl hw
  unfold bas
  by_cases e : s = 0
  · subst e; rw [upd_s]; rfl
  · rw [upd_n e, if_pos hs, if_neg e]; rfl

set_option maxHeartbeats 4000000 in
set_option maxRecDepth 100000 in
theorem c_X1_countFaults (l : Launch) (sz0 : Nat) (D : va_G) (cs : Nat → ClassId) (X : Sh) (Z : ZT) (Y : va_W) (hCX : CRx X) (h o hd g3 g4 fc : Nat) (hA : HA X Z h o hd g3 g4) (hB : HB X Z fc) (hGF : ∀ i, i < 8 → X.2.2.1 i = true → Z 20 i 0 ≠ 0 → Z 20 i 6 = nI (gfr X Z i)) : Ctr l yX1_countFaults (wsM yX1_countFaults cX1_countFaults 2 (some .int)) ({ frames := 2, cells := 0, slots := 0, locals := 48 } : Room) sz0 D cs [.ref (X.1 2 0), .ref (X.1 1 0)] X Z Y (Pz X Y (fun Z' v => v = some (.int 0) ∧ ∃ r, Z' = upr Z 11 0 r)) := by
  refine Ctr.ofW (by decide +kernel) (by intro v hv; simp at hv; rcases hv with rfl | rfl <;> rfl) (Nat.le_of_ble_eq_true rfl) ?_
  intro p e s m below meth c ls C hr hlocks hname hl hN hw
  obtain ⟨hx, hb, hml, hown, hts⟩ := id C
  have hX := hCX.1
  refine lv_aload_n hx hb dX1_countFaults_0 rfl (hl.at rfl) ?_
  refine lv_aload_n hx hb dX1_countFaults_1 rfl (hl.at rfl) ?_
  refine w_callV C hN hw (c_X1_countWrongUses l sz0 D cs X _ Y hCX fc hB hGF) ⟨(Nat.le_of_ble_eq_true rfl), (Nat.le_of_ble_eq_true rfl), mw610, mw15, cy_X1_countWrongUses⟩ mw607 mw608 mw609 (w_rec hw (c0 := 2) (i0 := 0) (hX 2 (by decide)) rfl rfl) rfl hl.1.1 rfl (Nat.le_of_ble_eq_true rfl) dX1_countFaults_2 ⟨Nat.le_of_ble_eq_true rfl, Nat.le_of_ble_eq_true rfl⟩ (fun X' Z' Y' v k n H locs hp hw => ?_)
  obtain ⟨rfl, rfl, rfl, rfl, rfl, r, rfl⟩ := hp
  have hA1 : HA X (upr Z 11 0 r) h o hd g3 g4 := hA.rows (fun j _ => by rw [upr_k (by decide)]) (upr_k (by decide)) (upr_k (by decide)) (upr_k (by decide)) (upr_k (by decide)) (upr_k (by decide))
  have hB1 : HB X (upr Z 11 0 r) fc := by
    have hg : ∀ j, gfr X (upr Z 11 0 r) j = gfr X Z j := fun j => by unfold gfr; rw [upr_k (by decide)]
    exact hB.c.to (fun s _ => cnt_same (fun j _ => hg j) (fun j k _ _ => by rw [upr_k (by decide)])) rfl (upr_k (by decide)) (upr_k (by decide)) (upr_k (by decide)) (by rw [upr_k (by decide)]) (fun j k hj hk => by rw [upr_k (by decide)]; exact hB.2.1 j k hj (by rw [← hg]; exact hk)) (fun j hj => by rw [hg]; exact hB.2.2.1 j hj)
  refine lv_aload_n hx hb dX1_countFaults_5 rfl (hl.at rfl) ?_
  refine w_callV C hN hw (c_X1_countWrongSheets l sz0 D cs X _ Y hX h o hd g3 g4 fc hA1 hB1) ⟨(Nat.le_of_ble_eq_true rfl), (Nat.le_of_ble_eq_true rfl), mw614, mw15, cy_X1_countWrongSheets⟩ mw611 mw612 mw613 (w_rec hw (c0 := 2) (i0 := 0) (hX 2 (by decide)) rfl rfl) rfl hl.1.1 rfl (Nat.le_of_ble_eq_true rfl) dX1_countFaults_6 ⟨Nat.le_of_ble_eq_true rfl, Nat.le_of_ble_eq_true rfl⟩ (fun X' Z' Y' v k n H locs hp hw => ?_)
  obtain ⟨rfl, rfl, rfl, rfl, rfl, rfl⟩ := hp
  refine lv_iadd hx hb dX1_countFaults_9 ?_
  refine lv_topi (fun y ey => ?_)
  obtain rfl : y = 0 := ey.trans (by decide)
  refine lv_aload_n hx hb dX1_countFaults_10 rfl (hl.at rfl) ?_
  refine w_callV C hN hw (c_X1_countWrongFrames l sz0 D cs X _ Y hX h o hd g3 g4 fc hA1 hB1) ⟨(Nat.le_of_ble_eq_true rfl), (Nat.le_of_ble_eq_true rfl), mw622, mw15, cy_X1_countWrongFrames⟩ mw619 mw620 mw621 (w_rec hw (c0 := 2) (i0 := 0) (hX 2 (by decide)) rfl rfl) rfl hl.1.1 rfl (Nat.le_of_ble_eq_true rfl) dX1_countFaults_11 ⟨Nat.le_of_ble_eq_true rfl, Nat.le_of_ble_eq_true rfl⟩ (fun X' Z' Y' v k n H locs hp hw => ?_)
  obtain ⟨rfl, rfl, rfl, rfl, rfl, rfl⟩ := hp
  refine lv_iadd hx hb dX1_countFaults_14 ?_
  refine lv_topi (fun y ey => ?_)
  obtain rfl : y = 0 := ey.trans (by decide)
  refine lv_aload_n hx hb dX1_countFaults_15 rfl (hl.at rfl) ?_
  refine w_callV C hN hw (c_X1_countWrongFree l sz0 D cs X _ Y hX h o hd g3 g4 fc hA1 hB1) ⟨(Nat.le_of_ble_eq_true rfl), (Nat.le_of_ble_eq_true rfl), mw626, mw15, cy_X1_countWrongFree⟩ mw623 mw624 mw625 (w_rec hw (c0 := 2) (i0 := 0) (hX 2 (by decide)) rfl rfl) rfl hl.1.1 rfl (Nat.le_of_ble_eq_true rfl) dX1_countFaults_16 ⟨Nat.le_of_ble_eq_true rfl, Nat.le_of_ble_eq_true rfl⟩ (fun X' Z' Y' v k n H locs hp hw => ?_)
  obtain ⟨rfl, rfl, rfl, rfl, rfl, r2, rfl⟩ := hp
  refine lv_iadd hx hb dX1_countFaults_19 ?_
  refine lv_topi (fun y ey => ?_)
  obtain rfl : y = 0 := ey.trans (by decide)
  rw [upr_uu] at hw
  exact w_iret C hw hr hlocks dX1_countFaults_20 ⟨rfl, rfl, rfl, rfl, rfl, r2, rfl⟩

set_option maxHeartbeats 4000000 in
set_option maxRecDepth 100000 in
theorem c_X3_audit (l : Launch) (sz0 : Nat) (D : va_G) (cs : Nat → ClassId) (X : Sh) (Z : ZT) (Y : va_W) (S : HS) (hS : HOK S) (hCX : CRx X) (h gp : Nat) (hCR : CR X Z S h gp) : Ctr l yX3_audit (wsM yX3_audit cX3_audit 4 (some .int)) ({ frames := 3, cells := 0, slots := 0, locals := 69 } : Room) sz0 D cs [.ref (X.1 0 0)] X Z Y (CPo X Z Y gp S (0)) := by
  refine Ctr.ofW (by decide +kernel) (by intro v hv; simp at hv; rcases hv with rfl <;> rfl) (Nat.le_of_ble_eq_true rfl) ?_
  intro p e s m below meth c ls C hr hlocks hname hl hN hw
  obtain ⟨hx, hb, hml, hown, hts⟩ := id C
  have hX := hCX.1
  have hU := hCX.2.1.1
  have hGF : ∀ i, i < 8 → X.2.2.1 i = true → Z 20 i 0 ≠ 0 → Z 20 i 6 = nI (gfr X Z i) := fun i hi hm hh => by
    have h0 : S.1 i ≠ 0 := fun q => (hCR.2.2 i hi).1 q ⟨hm, hh⟩
    have hL := hCR.gl hS hi h0
    rw [hL.2.1]; exact hL.2.2.1
  obtain ⟨o, hd, g3, g4, fc, hA, hB, hg⟩ := id hCR.1
  refine lv_aload_n hx hb dX3_audit_0 rfl (hl.at rfl) ?_
  refine w_get C hw (c0 := 0) (i0 := 0) rfl inA3 0 (by decide) mw16 rfl dX3_audit_1 (hX 0 (by decide)) rfl rfl rfl ?_
  refine lv_aload_n hx hb dX3_audit_4 rfl (hl.at rfl) ?_
  refine w_get C hw (c0 := 0) (i0 := 0) rfl inA3 2 (by decide) mw22 rfl dX3_audit_5 (hX 0 (by decide)) rfl rfl rfl ?_
  refine w_callV C hN hw (c_X1_countFaults l sz0 D cs X _ Y hCX h o hd g3 g4 fc hA hB hGF) ⟨(Nat.le_of_ble_eq_true rfl), (Nat.le_of_ble_eq_true rfl), mw606, mw15, cy_X1_countFaults⟩ mw603 mw604 mw605 (w_rec hw (c0 := 2) (i0 := 0) (hX 2 (by decide)) rfl rfl) rfl hl.1.1 rfl (Nat.le_of_ble_eq_true rfl) dX3_audit_8 ⟨Nat.le_of_ble_eq_true rfl, Nat.le_of_ble_eq_true rfl⟩ (fun X' Z' Y' v k n H locs hp hw => ?_)
  obtain ⟨rfl, rfl, rfl, rfl, rfl, r, rfl⟩ := hp
  have hC1 : CR X (upr Z 11 0 r) S h gp := CR_11 hCR
  refine w_istore_n hx hb dX3_audit_11 rfl hl (Nat.le_of_ble_eq_true rfl) (fun ls hl => ?_)
  refine lv_iconst (v := 0) hx hb dX3_audit_12 (by decide) ?_
  refine w_istore_n hx hb dX3_audit_13 rfl hl (Nat.le_of_ble_eq_true rfl) (fun ls hl => ?_)
  have loop : ∀ (d j : Nat), j + d = 8 → ∀ (H : Heap) (locs : List Loc) (ls : Array Slot) (x3 : Option Value), lo ls [some (.ref (X.1 0 0)), some (.int 0), some (.int (nI j)), x3] → Wd sz0 D cs s X (upr Z 11 0 r) Y H locs → W p l e ({ frames := 3, cells := 0, slots := 0, locals := 69 } : Room) s m ([.ref (X.1 0 0)] : List Value).toArray below meth c H locs 0 0 (xQ below (CQ sz0 D cs (CPo X Z Y gp S (0))) ([.ref (X.1 0 0)] : List Value).toArray s (Asz sz0)) (F0 m 14 ls []) := by
    intro d
    induction d with
    | zero =>
      intro j hj H locs ls x3 hl hw
      refine lv_iload_n hx hb dX3_audit_14 rfl (hl.at rfl) ?_
      refine lv_bipush (v := 8) hx hb dX3_audit_15 (by decide) ?_
      refine lv_icmp_ge (tgt := 47) hx hb dX3_audit_17 (by decide) (fun h17 => ?_) (fun h17 => ?_)
      · refine lv_iload_n hx hb dX3_audit_47 rfl (hl.at rfl) ?_
        exact w_iret C hw hr hlocks dX3_audit_48 (CPo_z hCX hC1 (fun c i q => upr_k (by omega)) rfl)
      · exact absurd (nI_le (show 8 ≤ j by omega) (by omega)) h17
    | succ d ih =>
      intro j hj H locs ls x3 hl hw
      refine lv_iload_n hx hb dX3_audit_14 rfl (hl.at rfl) ?_
      refine lv_bipush (v := 8) hx hb dX3_audit_15 (by decide) ?_
      refine lv_icmp_ge (tgt := 47) hx hb dX3_audit_17 (by decide) (fun h17 => ?_) (fun h17 => ?_)
      · exact absurd (show nI 8 ≤ nI j from h17) (nI_ge (show j < 8 by omega) (by decide))
      · refine lv_aload_n hx hb dX3_audit_20 rfl (hl.at rfl) ?_
        refine lv_iload_n hx hb dX3_audit_21 rfl (hl.at rfl) ?_
        refine w_callV C hN hw (c_X3_find l sz0 D cs X _ Y S hS hCX h gp hC1 (nI j)) ⟨(Nat.le_of_ble_eq_true rfl), (Nat.le_of_ble_eq_true rfl), mw105, mw3, cy_X3_find⟩ mw102 mw103 mw104 (w_rec hw (c0 := 0) (i0 := 0) (hX 0 (by decide)) rfl rfl) rfl hl.1.1 rfl (Nat.le_of_ble_eq_true rfl) dX3_audit_22 ⟨Nat.le_of_ble_eq_true rfl, Nat.le_of_ble_eq_true rfl⟩ (fun X' Z' Y' v k n H locs hp hw => ?_)
        obtain ⟨rfl, rfl, rfl, rfl, rfl, hp⟩ := hp
        rcases hp with ⟨i, hi, ei, h0, rfl⟩ | ⟨hn, rfl⟩
        · obtain ⟨hmd, hh1, hF6, hR⟩ := (hC1.2.2 i hi).2 h0
          have hG := hCX.2.2 i hi hmd
          refine w_astore_n hx hb dX3_audit_25 rfl hl (Nat.le_of_ble_eq_true rfl) (fun ls hl => ?_)
          refine lv_iload_n hx hb dX3_audit_26 rfl (hl.at rfl) ?_
          refine lv_aload_n hx hb dX3_audit_27 rfl (hl.at rfl) ?_
          refine lv_ifnonnull (tgt := 35) hx hb dX3_audit_28 (by decide) ?_
          refine lv_aload_n hx hb dX3_audit_35 rfl (hl.at rfl) ?_
          refine w_callV C hN hw (c_X0_countFaults l sz0 D cs X _ Y i hG (S.1 i) (S.2.1 i) (hS.1 i hi).1 hF6 hR ((hS.1 i hi).2 h0)) ⟨(Nat.le_of_ble_eq_true rfl), (Nat.le_of_ble_eq_true rfl), mw630, mw111, cy_X0_countFaults⟩ mw627 mw628 mw629 (w_rec hw (c0 := 20) (i0 := i) (hG 20 (by decide) (by decide)) rfl rfl) rfl hl.1.1 rfl (Nat.le_of_ble_eq_true rfl) dX3_audit_36 ⟨Nat.le_of_ble_eq_true rfl, Nat.le_of_ble_eq_true rfl⟩ (fun X' Z' Y' v k n H locs hp hw => ?_)
          obtain ⟨rfl, rfl, rfl, rfl, rfl, rfl⟩ := hp
          refine lv_iadd hx hb dX3_audit_39 ?_
          refine lv_topi (fun y ey => ?_)
          obtain rfl : y = 0 := ey.trans (by decide)
          refine w_istore_n hx hb dX3_audit_40 rfl hl (Nat.le_of_ble_eq_true rfl) (fun ls hl => ?_)
          refine w_iinc hx hb dX3_audit_41 hl rfl rfl (fun ls hl => ?_)
          refine lv_goto (tgt := 14) hx hb dX3_audit_44 (by decide) ?_
          exact ih (j + 1) (by omega) _ _ _ _ (by rw [← nI_1 j]; exact hl) hw
        · refine w_astore_nN hx hb dX3_audit_25 rfl hl (Nat.le_of_ble_eq_true rfl) (fun ls hl => ?_)
          refine lv_iload_n hx hb dX3_audit_26 rfl (hl.at rfl) ?_
          refine lv_aload_nN hx hb dX3_audit_27 rfl (hl.at rfl) ?_
          refine lv_ifnonnullN hx hb dX3_audit_28 ?_
          refine lv_iconst (v := 0) hx hb dX3_audit_31 (by decide) ?_
          refine lv_goto (tgt := 39) hx hb dX3_audit_32 (by decide) ?_
          refine lv_iadd hx hb dX3_audit_39 ?_
          refine lv_topi (fun y ey => ?_)
          obtain rfl : y = 0 := ey.trans (by decide)
          refine w_istore_n hx hb dX3_audit_40 rfl hl (Nat.le_of_ble_eq_true rfl) (fun ls hl => ?_)
          refine w_iinc hx hb dX3_audit_41 hl rfl rfl (fun ls hl => ?_)
          refine lv_goto (tgt := 14) hx hb dX3_audit_44 (by decide) ?_
          exact ih (j + 1) (by omega) _ _ _ _ (by rw [← nI_1 j]; exact hl) hw
  exact loop 8 0 (by decide) _ _ _ _ hl hw
