set_option maxHeartbeats 4000000 in
set_option maxRecDepth 100000 in
theorem c_X1_makeOwn (l : Launch) (sz0 : Nat) (D : va_G) (cs : Nat → ClassId) (X : Sh) (Z : ZT) (Y : va_W) (hX : HXI X) (hU : HUI X) (i : Nat) (hG : GI X i) (h o hd g3 g4 fc kc ks fr sh f0 : Nat) (hH : HA X Z h o hd g3 g4) (hB : HB X Z fc) (hi : i < 8) (hfr : fr < gfr X Z i) (hs : sh < 513) (e21 : Z 21 i fr = nI sh) (e8 : Z 8 0 sh = nI f0) (hf0 : f0 < o) (hkc : g3 + g4 ≤ kc) (hks : 32832 * (g3 + g4) ≤ ks) : Ctr l yX1_makeOwn (wsM yX1_makeOwn cX1_makeOwn 7 (some .int)) ({ frames := 3, cells := kc, slots := ks, locals := 72 } : Room) sz0 D cs [.ref (X.1 2 0), .ref (X.1 20 i), .int (nI fr), .int (nI f0)] X Z Y (fun X' Z' Y' v k n => Y = Y' ∧ ∃ f, v = some (.int (nI f)) ∧ MO X Z h g3 g4 i fr X' Z' f k n) := by
  refine Ctr.ofW (by decide +kernel) (by intro v hv; simp at hv; rcases hv with rfl | rfl | rfl | rfl <;> rfl) (Nat.le_of_ble_eq_true rfl) ?_
  intro p e s m below meth c ls C hr hlocks hname hl hN hw
  obtain ⟨hx, hb, hml, hown, hts⟩ := id C
  have hH0 := hH
  have hB0 := hB
  obtain ⟨⟨a1, a2, a3, a4⟩, ⟨b1, b2, b3⟩, ⟨c11, c12, c13, c14⟩, c2, c3, c4, c5, c6, c7⟩ := hH
  obtain ⟨d1, d2, d3, d4, d5, d6, d7, d8, d9⟩ := hB
  have hfr64 : fr < 64 := by have := d3 i hi; omega
  have hcl : cnt X Z sh ≤ 513 := by have h1 := hB0.total; have h2 := sumN_ge (f := fun s => cnt X Z s) hs; try dsimp only at h2
                                    omega
  refine lv_aload_n hx hb dX1_makeOwn_0 rfl (hl.at rfl) ?_
  refine w_getN C hN hw (c0 := 20) (i0 := i) rfl inA0 7 (by decide) mw649 rfl dX1_makeOwn_1 (hG 20 (by decide) (by decide)) rfl rfl rfl ?_
  refine lv_iload_n hx hb dX1_makeOwn_4 rfl (hl.at rfl) ?_
  refine lv_bipush (v := 63) hx hb dX1_makeOwn_5 (by decide) ?_
  refine lv_iand hx hb dX1_makeOwn_7 ?_
  rw [and63 hfr64]
  refine w_ild C hw (c0 := 21) (i0 := i) dX1_makeOwn_8 (hG 21 (by decide) (by decide)) rfl rfl (vp_in_nI hfr64 (by omega)) (nI_clamp (by omega)) ?_
  rw [e21]
  refine w_istore hx hb dX1_makeOwn_9 hl (Nat.le_of_ble_eq_true rfl) (fun ls hl => ?_)
  refine lv_aload_n hx hb dX1_makeOwn_11 rfl (hl.at rfl) ?_
  refine lv_iload hx hb dX1_makeOwn_12 (hl.at rfl) ?_
  refine w_callV C hN hw (c_X1_isSheet l sz0 D cs X _ Y _) ⟨(Nat.le_of_ble_eq_true rfl), (Nat.le_of_ble_eq_true rfl), mw202, mw15, cy_X1_isSheet⟩ mw199 mw200 mw201 (w_rec hw (c0 := 2) (i0 := 0) (hX 2 (by decide)) rfl rfl) rfl hl.1.1 rfl (Nat.le_of_ble_eq_true rfl) dX1_makeOwn_14 ⟨by show 0 + 0 ≤ kc; omega, by show 0 + 0 ≤ ks; omega⟩ (fun X' Z' Y' v k n H locs hp hw => ?_)
  obtain ⟨rfl, rfl, rfl, rfl, rfl, rfl⟩ := hp
  rw [isShv_nI hs]
  refine lv_if_ne (tgt := 22) hx hb dX1_makeOwn_17 (by decide) (fun h17 => ?_) (fun h17 => ?_)
  · refine lv_aload_n hx hb dX1_makeOwn_22 rfl (hl.at rfl) ?_
    refine w_get C hw (c0 := 2) (i0 := 0) rfl inA1 8 (by decide) mw32 rfl dX1_makeOwn_23 (hX 2 (by decide)) rfl rfl rfl ?_
    refine lv_iload hx hb dX1_makeOwn_26 (hl.at rfl) ?_
    refine w_ild C hw (c0 := 7) (i0 := 0) dX1_makeOwn_28 (hX 7 (by decide)) rfl rfl (vp_in_nI hs (by omega)) (nI_clamp (by omega)) ?_
    rw [d1 sh hs]
    refine lv_iconst (v := 1) hx hb dX1_makeOwn_29 (by decide) ?_
    refine lv_icmp_ne (tgt := 43) hx hb dX1_makeOwn_30 (by decide) (fun h30 => ?_) (fun h30 => ?_)
    · have hc2 : 2 ≤ cnt X Z sh := by
        have h1 := cnt_ge hi hfr e21
        have h2 : cnt X Z sh ≠ 1 := fun q => h30 (by rw [q]; rfl)
        omega
      obtain ⟨fc0, rfl⟩ : ∃ fc0, fc = fc0 + 1 := ⟨fc - 1, by have := hB0.room hs hc2; omega⟩
      obtain ⟨s2, hs2, e10, hs20⟩ := d7 fc0 (by omega)
      have e5 : Z 5 0 f0 = nI sh := by
        rcases c3 sh hs with q | ⟨f1, q1, q2, q3, -⟩
        · rw [q] at e8; exact absurd e8.symm (nI_ne_m1 (by omega))
        · have := nI_inj (by omega) (by omega) (q2.symm.trans e8)
          rw [← this]; exact q3
      refine lv_aload_n hx hb dX1_makeOwn_43 rfl (hl.at rfl) ?_
      refine lv_iload_n hx hb dX1_makeOwn_44 rfl (hl.at rfl) ?_
      refine w_callV C hN hw (c_X1_takeFrame l sz0 D cs X _ Y hX hU h o hd g3 g4 g3 (32768 * g3) (nI f0) hH0 (Or.inr ⟨f0, hf0, rfl, by rw [e5]; exact nI_ne_m1 (by omega)⟩) (Nat.le_refl _) (Nat.le_refl _)) ⟨(Nat.le_of_ble_eq_true rfl), (Nat.le_of_ble_eq_true rfl), mw206, mw15, cy_X1_takeFrame⟩ mw203 mw204 mw205 (w_rec hw (c0 := 2) (i0 := 0) (hX 2 (by decide)) rfl rfl) rfl hl.1.1 rfl (Nat.le_of_ble_eq_true rfl) dX1_makeOwn_45 ⟨by show 0 + g3 ≤ kc; omega, by show 0 + 32768 * g3 ≤ ks; omega⟩ (fun X' Z' Y' v k n H locs hp hw => ?_)
      obtain ⟨rfl, f, rfl, hT⟩ := hp
      have hT0 := hT
      obtain ⟨V1, o1, hd1, g31, rfl, v4, v14, t1, t2, t3, t4, t5, t6, t7, t8, t9, t10, t11, t12⟩ := hT
      have t4b := t4
      obtain ⟨⟨-, q2, q3, -⟩, -, ⟨q11, -, q13, -⟩, q2x, -⟩ := t4b
      refine w_istore hx hb dX1_makeOwn_48 hl (Nat.le_of_ble_eq_true rfl) (fun ls hl => ?_)
      refine lv_iload hx hb dX1_makeOwn_50 (hl.at rfl) ?_
      refine lv_iconst (v := -1) hx hb dX1_makeOwn_52 (by decide) ?_
      refine lv_icmp_ne (tgt := 60) hx hb dX1_makeOwn_53 (by decide) (fun h53 => ?_) (fun h53 => ?_)
      · refine lv_aload_n hx hb dX1_makeOwn_60 rfl (hl.at rfl) ?_
        refine w_callV C hN hw (c_X1_takeSheet l sz0 D cs (X.1, V1, X.2.2) Z' Y hX hU s2 fc0 g4 g4 (32832 * g4) (by have := hB0.fc_le; omega) (by rw [t12 3 (by decide) (by decide)]; exact d6) (by rw [t11 10 0 (by unfold tfR; omega)]; exact e10) hs2 q2x (Nat.le_refl _) (Nat.le_refl _)) ⟨(Nat.le_of_ble_eq_true rfl), (Nat.le_of_ble_eq_true rfl), mw228, mw15, cy_X1_takeSheet⟩ mw225 mw226 mw227 (w_rec hw (c0 := 2) (i0 := 0) (hX 2 (by decide)) rfl rfl) rfl hl.1.1 rfl (Nat.le_of_ble_eq_true rfl) dX1_makeOwn_61 ⟨by show 0 + 0 + k + g4 ≤ kc; omega, by show 0 + 0 + n + 32832 * g4 ≤ ks; omega⟩ (fun X2 Z2 Y2 v2 k2 n2 H locs hp hw => ?_)
        obtain ⟨rfl, rfl, hS⟩ := hp
        have hS0 := hS
        obtain ⟨V2, g42, rfl, w3, w13, s1, s2x, s3, s4, s5, s6, u1, u2, u3⟩ := hS
        refine w_istore hx hb dX1_makeOwn_64 hl (Nat.le_of_ble_eq_true rfl) (fun ls hl => ?_)
        refine lv_iload hx hb dX1_makeOwn_66 (hl.at rfl) ?_
        refine lv_iconst (v := -1) hx hb dX1_makeOwn_68 (by decide) ?_
        refine lv_icmp_ne (tgt := 74) hx hb dX1_makeOwn_69 (by decide) (fun h69 => ?_) (fun h69 => ?_)
        · refine lv_aload_n hx hb dX1_makeOwn_74 rfl (hl.at rfl) ?_
          refine w_get C hw (c0 := 2) (i0 := 0) rfl inA1 4 (by decide) mw27 rfl dX1_makeOwn_75 (hX 2 (by decide)) rfl rfl rfl ?_
          refine lv_iload_n hx hb dX1_makeOwn_78 rfl (hl.at rfl) ?_
          refine lv_bipush (v := 64) hx hb dX1_makeOwn_79 (by decide) ?_
          refine lv_imul hx hb dX1_makeOwn_81 ?_
          refine lv_aload_n hx hb dX1_makeOwn_82 rfl (hl.at rfl) ?_
          refine w_get C hw (c0 := 2) (i0 := 0) rfl inA1 4 (by decide) mw27 rfl dX1_makeOwn_83 (hX 2 (by decide)) rfl rfl rfl ?_
          refine lv_iload hx hb dX1_makeOwn_86 (hl.at rfl) ?_
          refine lv_bipush (v := 64) hx hb dX1_makeOwn_88 (by decide) ?_
          refine lv_imul hx hb dX1_makeOwn_90 ?_
          refine lv_bipush (v := 64) hx hb dX1_makeOwn_91 (by decide) ?_
          have ex : nI f * 64 = nI (64 * f) := by rw [show nI f * 64 = nI f * nI 64 from rfl, pk_mul, Nat.mul_comm]
          have es : nI f0 * 64 = nI (64 * f0) := by rw [show nI f0 * 64 = nI f0 * nI 64 from rfl, pk_mul, Nat.mul_comm]
          rw [ex, es]
          have hl3 : 64 * o1 ≤ V2 3 := by rw [w3]; exact q11
          refine w_cpy C hw (c0 := 3) (i0 := 0) (c1 := 3) (i1 := 0) mw195 dX1_makeOwn_93 (hX 3 (by decide)) rfl rfl (hX 3 (by decide)) rfl (fun _ => rfl) (nI_pos (by omega)) (nI_pos (by omega)) (by decide) (nI_clamp (by omega)) (nI_clamp (by omega)) (jn := 64) (by decide) (show 64 * f0 + 64 ≤ V2 3 by omega) (show 64 * f + 64 ≤ V2 3 by omega) hl.1.1 (Nat.le_of_ble_eq_true rfl) (Nat.le_of_ble_eq_true rfl) (fun H locs hw => ?_)
          refine lv_aload_n hx hb dX1_makeOwn_96 rfl (hl.at rfl) ?_
          refine w_get C hw (c0 := 2) (i0 := 0) rfl inA1 8 (by decide) mw32 rfl dX1_makeOwn_97 (hX 2 (by decide)) rfl rfl rfl ?_
          refine lv_iload hx hb dX1_makeOwn_100 (hl.at rfl) ?_
          refine lv_dup2_11 hx hb dX1_makeOwn_102 rfl rfl ?_
          refine w_ild C hw (c0 := 7) (i0 := 0) dX1_makeOwn_103 (hX 7 (by decide)) rfl rfl (vp_in_nI hs (by omega)) (nI_clamp (by omega)) ?_
          refine lv_iconst (v := 1) hx hb dX1_makeOwn_104 (by decide) ?_
          refine lv_isub hx hb dX1_makeOwn_105 ?_
          refine w_ist C hw (c0 := 7) (i0 := 0) dX1_makeOwn_106 (hX 7 (by decide)) rfl (fun _ => rfl) (vp_in_nI hs (by omega)) (nI_clamp (by omega)) (fun H locs hw => ?_)
          refine lv_aload_n hx hb dX1_makeOwn_107 rfl (hl.at rfl) ?_
          refine w_get C hw (c0 := 2) (i0 := 0) rfl inA1 8 (by decide) mw32 rfl dX1_makeOwn_108 (hX 2 (by decide)) rfl rfl rfl ?_
          refine lv_iload hx hb dX1_makeOwn_111 (hl.at rfl) ?_
          refine lv_iconst (v := 1) hx hb dX1_makeOwn_113 (by decide) ?_
          refine w_ist C hw (c0 := 7) (i0 := 0) dX1_makeOwn_114 (hX 7 (by decide)) rfl (fun _ => rfl) (vp_in_nI hs2 (by omega)) (nI_clamp (by omega)) (fun H locs hw => ?_)
          refine lv_aload_n hx hb dX1_makeOwn_115 rfl (hl.at rfl) ?_
          refine w_get C hw (c0 := 2) (i0 := 0) rfl inA1 9 (by decide) mw33 rfl dX1_makeOwn_116 (hX 2 (by decide)) rfl rfl rfl ?_
          refine lv_iload hx hb dX1_makeOwn_119 (hl.at rfl) ?_
          refine lv_iload hx hb dX1_makeOwn_121 (hl.at rfl) ?_
          refine w_ist C hw (c0 := 8) (i0 := 0) dX1_makeOwn_123 (hX 8 (by decide)) rfl (fun _ => rfl) (vp_in_nI hs2 (by omega)) (nI_clamp (by omega)) (fun H locs hw => ?_)
          refine lv_aload_n hx hb dX1_makeOwn_124 rfl (hl.at rfl) ?_
          refine w_get C hw (c0 := 2) (i0 := 0) rfl inA1 10 (by decide) mw34 rfl dX1_makeOwn_125 (hX 2 (by decide)) rfl rfl rfl ?_
          refine lv_iload hx hb dX1_makeOwn_128 (hl.at rfl) ?_
          refine lv_iconst (v := 1) hx hb dX1_makeOwn_130 (by decide) ?_
          refine w_zst C hw (c0 := 9) (i0 := 0) dX1_makeOwn_131 (hX 9 (by decide)) rfl (fun _ => rfl) (vp_in_nI hs2 (by omega)) (nI_clamp (by omega)) (by decide) (fun H locs hw => ?_)
          refine lv_aload_n hx hb dX1_makeOwn_132 rfl (hl.at rfl) ?_
          refine w_get C hw (c0 := 2) (i0 := 0) rfl inA1 6 (by decide) mw29 rfl dX1_makeOwn_133 (hX 2 (by decide)) rfl rfl rfl ?_
          refine lv_iload hx hb dX1_makeOwn_136 (hl.at rfl) ?_
          refine lv_iload hx hb dX1_makeOwn_138 (hl.at rfl) ?_
          refine w_ist C hw (c0 := 5) (i0 := 0) dX1_makeOwn_140 (hX 5 (by decide)) rfl (fun _ => rfl) (vp_in_nI (show f < 256 by omega) (by omega)) (nI_clamp (by omega)) (fun H locs hw => ?_)
          refine lv_aload_n hx hb dX1_makeOwn_141 rfl (hl.at rfl) ?_
          refine w_get C hw (c0 := 2) (i0 := 0) rfl inA1 7 (by decide) mw31 rfl dX1_makeOwn_142 (hX 2 (by decide)) rfl rfl rfl ?_
          refine lv_iload hx hb dX1_makeOwn_145 (hl.at rfl) ?_
          refine lv_iconst (v := 1) hx hb dX1_makeOwn_147 (by decide) ?_
          refine w_zst C hw (c0 := 6) (i0 := 0) dX1_makeOwn_148 (hX 6 (by decide)) rfl (fun _ => rfl) (vp_in_nI (show f < 256 by omega) (by omega)) (nI_clamp (by omega)) (by decide) (fun H locs hw => ?_)
          refine lv_aload_n hx hb dX1_makeOwn_149 rfl (hl.at rfl) ?_
          refine w_getN C hN hw (c0 := 20) (i0 := i) rfl inA0 7 (by decide) mw649 rfl dX1_makeOwn_150 (hG 20 (by decide) (by decide)) rfl rfl rfl ?_
          refine lv_iload_n hx hb dX1_makeOwn_153 rfl (hl.at rfl) ?_
          refine lv_bipush (v := 63) hx hb dX1_makeOwn_154 (by decide) ?_
          refine lv_iand hx hb dX1_makeOwn_156 ?_
          rw [and63 hfr64]
          refine lv_iload hx hb dX1_makeOwn_157 (hl.at rfl) ?_
          refine w_ist C hw (c0 := 21) (i0 := i) dX1_makeOwn_159 (hG 21 (by decide) (by decide)) rfl (fun _ => rfl) (vp_in_nI hfr64 (by omega)) (nI_clamp (by omega)) (fun H locs hw => ?_)
          refine lv_iload hx hb dX1_makeOwn_160 (hl.at rfl) ?_
          refine w_iret C hw hr hlocks dX1_makeOwn_162 ⟨rfl, f, rfl, ?_⟩
          rw [show 0 + 0 + k + k2 = k + k2 by omega, show 0 + 0 + n + n2 = n + n2 by omega]
          refine mo_two hH0 hB0 hi hfr hs e21 e8 hc2 hT0 hf0 e10 hs2 hS0 ?_ ?_ ?_ ?_ ?_ ?_ ?_ ?_ ?_ ?_
          · simp [upr]
          · simp [upr]
          · simp [upr]
          · simp [upr]
          · simp [upr]
          · simp [upr]
          · simp [upr]
          · simp [upr]
          · simp [upr]
          · intro c i' h1 h2
            rw [upr_n (by omega), upr_n (by omega), upr_n (by omega), upr_n (by omega), upr_n (by omega), upr_n (by omega), upr_n (by omega), upr_n (by omega)]
        · exact absurd h69 (nI_ne_m1 (by omega))
      · exact absurd h53 (nI_ne_m1 (by omega))
    · have hc1 : cnt X Z sh = 1 := nI_inj (by omega) (by decide) h30
      refine lv_aload_n hx hb dX1_makeOwn_33 rfl (hl.at rfl) ?_
      refine w_get C hw (c0 := 2) (i0 := 0) rfl inA1 10 (by decide) mw34 rfl dX1_makeOwn_34 (hX 2 (by decide)) rfl rfl rfl ?_
      refine lv_iload hx hb dX1_makeOwn_37 (hl.at rfl) ?_
      refine lv_iconst (v := 1) hx hb dX1_makeOwn_39 (by decide) ?_
      refine w_zst C hw (c0 := 9) (i0 := 0) dX1_makeOwn_40 (hX 9 (by decide)) rfl (fun _ => rfl) (vp_in_nI hs (by omega)) (nI_clamp (by omega)) (by decide) (fun H locs hw => ?_)
      refine lv_iload_n hx hb dX1_makeOwn_41 rfl (hl.at rfl) ?_
      exact w_iret C hw hr hlocks dX1_makeOwn_42 ⟨rfl, f0, rfl, mo_one hH0 hB0 hi hfr hs e21 e8 hf0 hc1⟩
  · exact absurd h17 (by decide)
