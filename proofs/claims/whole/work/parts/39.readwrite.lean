theorem shr6 {n : Nat} (h : n < 2 ^ 31) : nI n >>> ((6 : Int32) &&& 31) = nI (n / 64) := pk_shrN h _ 6 (by decide)
theorem and63m {n : Nat} (h : n < 2 ^ 31) : nI n &&& 63 = nI (n % 64) := pk_andN (by omega) 6 (by decide)
theorem m64 (n : Nat) : nI n * 64 = nI (64 * n) := by rw [show nI n * 64 = nI n * nI 64 from rfl, pk_mul, Nat.mul_comm]

set_option maxHeartbeats 4000000 in
set_option maxRecDepth 100000 in
theorem c_X1_read (l : Launch) (sz0 : Nat) (D : va_G) (cs : Nat → ClassId) (X : Sh) (Z : ZT) (Y : va_W) (hX : HXI X) (hU : HUI X) (i : Nat) (hG : GI X i) (h gp kc ks F : Nat) (hI : HI X Z h gp) (hL : GL X Z i F) (a : Int32) (hkc : gp ≤ kc) (hks : 32832 * gp ≤ ks) : Ctr l yX1_read (wsM yX1_read cX1_read 4 (some .int)) ({ frames := 4, cells := kc, slots := ks, locals := 94 } : Room) sz0 D cs [.ref (X.1 2 0), .ref (X.1 20 i), .int a] X Z Y (fun X' Z' Y' v k n => Y = Y' ∧ v = some (.int (rdv Z i F a)) ∧ HM X Z h gp X' Z' k n (mw Z)) := by
  refine Ctr.ofW (by decide +kernel) (by intro v hv; simp at hv; rcases hv with rfl | rfl | rfl <;> rfl) (Nat.le_of_ble_eq_true rfl) ?_
  intro p e s m below meth c ls C hr hlocks hname hl hN hw
  obtain ⟨hx, hb, hml, hown, hts⟩ := id C
  have hI0 := hI
  obtain ⟨o, hd, g3, g4, fc, hA, hB, hgp⟩ := hI
  obtain ⟨hi, hgf, hF6, hF1, hF64⟩ := hL
  have hA0 := hA
  have hB0 := hB
  obtain ⟨⟨a1, a2, a3, a4⟩, -, ⟨c11, c12, c13, c14⟩, -, c3, c4, c5, c6, c7⟩ := hA
  obtain ⟨d1, d2, d3, d4, d5, d6, d7, d8, d9⟩ := hB
  refine lv_aload_n hx hb dX1_read_0 rfl (hl.at rfl) ?_
  refine lv_iload_n hx hb dX1_read_1 rfl (hl.at rfl) ?_
  refine w_callV C hN hw (c_X0_hasWord l sz0 D cs X _ Y i hG a) ⟨(Nat.le_of_ble_eq_true rfl), (Nat.le_of_ble_eq_true rfl), mw185, mw111, cy_X0_hasWord⟩ mw190 mw183 mw184 (w_rec hw (c0 := 20) (i0 := i) (hG 20 (by decide) (by decide)) rfl rfl) rfl hl.1.1 rfl (Nat.le_of_ble_eq_true rfl) dX1_read_2 ⟨by show 0 + 0 ≤ kc; omega, by show 0 + 0 ≤ ks; omega⟩ (fun X' Z' Y' v k n H locs hp hw => ?_)
  obtain ⟨rfl, rfl, rfl, rfl, rfl, rfl⟩ := hp
  rw [hF6]
  refine lv_if_eq (tgt := 24) hx hb dX1_read_5 (by decide) (fun h5 => ?_) (fun h5 => ?_)
  · refine lv_iconst (v := -1) hx hb dX1_read_24 (by decide) ?_
    refine w_istore_n hx hb dX1_read_25 rfl hl (Nat.le_of_ble_eq_true rfl) (fun ls hl => ?_)
    refine lv_iload_n hx hb dX1_read_26 rfl (hl.at rfl) ?_
    refine lv_iconst (v := -1) hx hb dX1_read_27 (by decide) ?_
    refine lv_icmp_ne (tgt := 35) hx hb dX1_read_28 (by decide) (fun h28 => ?_) (fun h28 => ?_)
    · exact absurd rfl h28
    · refine lv_iconst (v := 0) hx hb dX1_read_31 (by decide) ?_
      refine lv_goto (tgt := 49) hx hb dX1_read_32 (by decide) ?_
      exact w_iret C hw hr hlocks dX1_read_49 ⟨rfl, by unfold rdv; rw [if_pos h5], HM.rfl' hI0⟩
  · obtain ⟨an, han, rfl⟩ := hasWv_in hF64 h5
    have hk : an / 64 < gfr X Z i := by rw [hgf]; omega
    obtain ⟨sh, hs, e21⟩ := d2 i (an / 64) hi hk
    have hcs : cnt X Z sh ≠ 0 := by have := cnt_ge hi hk e21; omega
    refine lv_aload_n hx hb dX1_read_8 rfl (hl.at rfl) ?_
    refine lv_aload_n hx hb dX1_read_9 rfl (hl.at rfl) ?_
    refine w_getN C hN hw (c0 := 20) (i0 := i) rfl inA0 7 (by decide) mw649 rfl dX1_read_10 (hG 20 (by decide) (by decide)) rfl rfl rfl ?_
    refine lv_iload_n hx hb dX1_read_13 rfl (hl.at rfl) ?_
    refine lv_bipush (v := 6) hx hb dX1_read_14 (by decide) ?_
    refine lv_ishr hx hb dX1_read_16 ?_
    rw [shr6 (by omega)]
    refine w_ild C hw (c0 := 21) (i0 := i) dX1_read_17 (hG 21 (by decide) (by decide)) rfl rfl (vp_in_nI (show an / 64 < 64 by omega) (by omega)) (nI_clamp (by omega)) ?_
    rw [e21]
    refine w_callV C hN hw (c_X1_bring l sz0 D cs X _ Y hX hU h o hd g3 g4 g3 (32768 * g3) sh hA0 hs (d4 sh hs hcs) (Nat.le_refl _) (Nat.le_refl _)) ⟨(Nat.le_of_ble_eq_true rfl), (Nat.le_of_ble_eq_true rfl), mw194, mw15, cy_X1_bring⟩ mw191 mw192 mw193 (w_rec hw (c0 := 2) (i0 := 0) (hX 2 (by decide)) rfl rfl) rfl hl.1.1 rfl (Nat.le_of_ble_eq_true rfl) dX1_read_18 ⟨by show 0 + 0 + g3 ≤ kc; omega, by show 0 + 0 + 32768 * g3 ≤ ks; omega⟩ (fun X' Z' Y' v k n H locs hp hw => ?_)
    obtain ⟨rfl, f, rfl, hR⟩ := hp
    have hR0 := hR
    obtain ⟨V, o1, hd1, g31, rfl, v4, v14, hf, ho, hA1, hk1, hn1, e8, sc, r, r2, r8⟩ := hR
    have hA1b := hA1
    obtain ⟨⟨-, q2, q3, -⟩, -, ⟨q11, -, q13, -⟩, -⟩ := hA1b
    refine lv_goto (tgt := 25) hx hb dX1_read_21 (by decide) ?_
    refine w_istore_n hx hb dX1_read_25 rfl hl (Nat.le_of_ble_eq_true rfl) (fun ls hl => ?_)
    refine lv_iload_n hx hb dX1_read_26 rfl (hl.at rfl) ?_
    refine lv_iconst (v := -1) hx hb dX1_read_27 (by decide) ?_
    refine lv_icmp_ne (tgt := 35) hx hb dX1_read_28 (by decide) (fun h28 => ?_) (fun h28 => ?_)
    · refine lv_aload_n hx hb dX1_read_35 rfl (hl.at rfl) ?_
      refine w_get C hw (c0 := 2) (i0 := 0) rfl inA1 4 (by decide) mw27 rfl dX1_read_36 (hX 2 (by decide)) rfl rfl rfl ?_
      refine lv_iload_n hx hb dX1_read_39 rfl (hl.at rfl) ?_
      refine lv_bipush (v := 64) hx hb dX1_read_40 (by decide) ?_
      refine lv_imul hx hb dX1_read_42 ?_
      refine lv_iload_n hx hb dX1_read_43 rfl (hl.at rfl) ?_
      refine lv_bipush (v := 63) hx hb dX1_read_44 (by decide) ?_
      refine lv_iand hx hb dX1_read_46 ?_
      refine lv_iadd hx hb dX1_read_47 ?_
      rw [m64, and63m (by omega), nI_add]
      refine w_ild C hw (c0 := 3) (i0 := 0) dX1_read_48 (hX 3 (by decide)) rfl rfl (vp_in_nI (show 64 * f + an % 64 < V 3 by have q : 64 * o1 ≤ V 3 := q11; omega) (by have q : V 3 < 32768 := q13; omega)) (nI_clamp (by omega)) ?_
      have ev : Z' 3 0 (64 * f + an % 64) = rdv Z i F (nI an) := by
        rw [rdv_nI hF64 han]
        unfold mw
        rw [e21, nI_clamp (by omega), ← sc sh (an % 64) hs (by omega), scn_mem (by omega) e8]
      rw [ev]
      exact w_iret C hw hr hlocks dX1_read_49 ⟨rfl, rfl, by rw [show 0 + 0 + k = k by omega, show 0 + 0 + n = n by omega]; exact br_HM (hd := hd) hB0 hs hcs hgp hR0⟩
    · exact absurd h28 (nI_ne_m1 (by omega))

set_option maxHeartbeats 4000000 in
set_option maxRecDepth 100000 in
theorem c_X1_write (l : Launch) (sz0 : Nat) (D : va_G) (cs : Nat → ClassId) (X : Sh) (Z : ZT) (Y : va_W) (hX : HXI X) (hU : HUI X) (i : Nat) (hG : GI X i) (h gp kc ks F : Nat) (hI : HI X Z h gp) (hL : GL X Z i F) (a b : Int32) (hkc : gp ≤ kc) (hks : 32832 * gp ≤ ks) : Ctr l yX1_write (wsM yX1_write cX1_write 5 none) ({ frames := 4, cells := kc, slots := ks, locals := 98 } : Room) sz0 D cs [.ref (X.1 2 0), .ref (X.1 20 i), .int a, .int b] X Z Y (fun X' Z' Y' v k n => Y = Y' ∧ v = none ∧ HM X Z h gp X' Z' k n (fun j k w => if hasWv (nI F) a ≠ 0 ∧ j = i ∧ k = a.toNatClampNeg / 64 ∧ w = a.toNatClampNeg % 64 then b else mw Z j k w)) := by
  refine Ctr.ofW (by decide +kernel) (by intro v hv; simp at hv; rcases hv with rfl | rfl | rfl | rfl <;> rfl) (Nat.le_of_ble_eq_true rfl) ?_
  intro p e s m below meth c ls C hr hlocks hname hl hN hw
  obtain ⟨hx, hb, hml, hown, hts⟩ := id C
  have hI0 := hI
  obtain ⟨o, hd, g3, g4, fc, hA, hB, hgp⟩ := hI
  obtain ⟨hi, hgf, hF6, hF1, hF64⟩ := hL
  have hA0 := hA
  have hB0 := hB
  obtain ⟨⟨a1, a2, a3, a4⟩, -, ⟨c11, c12, c13, c14⟩, -, c3, c4, c5, c6, c7⟩ := hA
  obtain ⟨d1, d2, d3, d4, d5, d6, d7, d8, d9⟩ := hB
  have hsame : ∀ {X' : Sh} {Z' : ZT} {k n : Nat}, (∀ j k w, j < 8 → k < gfr X Z j → w < 64 → (hasWv (nI F) a ≠ 0 ∧ j = i ∧ k = a.toNatClampNeg / 64 ∧ w = a.toNatClampNeg % 64) → mw Z j k w = b) → HM X Z h gp X' Z' k n (mw Z) → HM X Z h gp X' Z' k n (fun j k w => if hasWv (nI F) a ≠ 0 ∧ j = i ∧ k = a.toNatClampNeg / 64 ∧ w = a.toNatClampNeg % 64 then b else mw Z j k w) := by
    rintro X' Z' k n h1 ⟨V, gp', e1, e2, e3, e4, e5, e6⟩
    refine ⟨V, gp', e1, e2, e3, e4, fun j k w hj hk hw => ?_, e6⟩
    rw [e5 j k w hj hk hw]
    show mw Z j k w = if hasWv (nI F) a ≠ 0 ∧ j = i ∧ k = a.toNatClampNeg / 64 ∧ w = a.toNatClampNeg % 64 then b else mw Z j k w
    by_cases q : hasWv (nI F) a ≠ 0 ∧ j = i ∧ k = a.toNatClampNeg / 64 ∧ w = a.toNatClampNeg % 64
    · rw [if_pos q, h1 j k w hj hk hw q]
    · rw [if_neg q]
  refine lv_aload_n hx hb dX1_write_0 rfl (hl.at rfl) ?_
  refine lv_iload_n hx hb dX1_write_1 rfl (hl.at rfl) ?_
  refine w_callV C hN hw (c_X0_hasWord l sz0 D cs X _ Y i hG a) ⟨(Nat.le_of_ble_eq_true rfl), (Nat.le_of_ble_eq_true rfl), mw185, mw111, cy_X0_hasWord⟩ mw190 mw183 mw184 (w_rec hw (c0 := 20) (i0 := i) (hG 20 (by decide) (by decide)) rfl rfl) rfl hl.1.1 rfl (Nat.le_of_ble_eq_true rfl) dX1_write_2 ⟨by show 0 + 0 ≤ kc; omega, by show 0 + 0 ≤ ks; omega⟩ (fun X' Z' Y' v k n H locs hp hw => ?_)
  obtain ⟨rfl, rfl, rfl, rfl, rfl, rfl⟩ := hp
  rw [hF6]
  refine lv_if_eq (tgt := 24) hx hb dX1_write_5 (by decide) (fun h5 => ?_) (fun h5 => ?_)
  · refine lv_iconst (v := -1) hx hb dX1_write_24 (by decide) ?_
    refine w_istore hx hb dX1_write_25 hl (Nat.le_of_ble_eq_true rfl) (fun ls hl => ?_)
    refine lv_iload hx hb dX1_write_27 (hl.at rfl) ?_
    refine lv_iconst (v := -1) hx hb dX1_write_29 (by decide) ?_
    refine lv_icmp_eq (tgt := 52) hx hb dX1_write_30 (by decide) (fun h30 => ?_) (fun h30 => ?_)
    · exact w_vret C hw hr hlocks dX1_write_52 ⟨rfl, rfl, hsame (fun j k w _ _ _ q => absurd h5 q.1) (HM.rfl' hI0)⟩
    · exact absurd rfl h30
  · obtain ⟨an, han, rfl⟩ := hasWv_in hF64 h5
    have hk : an / 64 < gfr X Z i := by rw [hgf]; omega
    obtain ⟨sh, hs, e21⟩ := d2 i (an / 64) hi hk
    have hcs : cnt X Z sh ≠ 0 := by have := cnt_ge hi hk e21; omega
    refine lv_aload_n hx hb dX1_write_8 rfl (hl.at rfl) ?_
    refine lv_aload_n hx hb dX1_write_9 rfl (hl.at rfl) ?_
    refine w_getN C hN hw (c0 := 20) (i0 := i) rfl inA0 7 (by decide) mw649 rfl dX1_write_10 (hG 20 (by decide) (by decide)) rfl rfl rfl ?_
    refine lv_iload_n hx hb dX1_write_13 rfl (hl.at rfl) ?_
    refine lv_bipush (v := 6) hx hb dX1_write_14 (by decide) ?_
    refine lv_ishr hx hb dX1_write_16 ?_
    rw [shr6 (by omega)]
    refine w_ild C hw (c0 := 21) (i0 := i) dX1_write_17 (hG 21 (by decide) (by decide)) rfl rfl (vp_in_nI (show an / 64 < 64 by omega) (by omega)) (nI_clamp (by omega)) ?_
    rw [e21]
    refine w_callV C hN hw (c_X1_bring l sz0 D cs X _ Y hX hU h o hd g3 g4 g3 (32768 * g3) sh hA0 hs (d4 sh hs hcs) (Nat.le_refl _) (Nat.le_refl _)) ⟨(Nat.le_of_ble_eq_true rfl), (Nat.le_of_ble_eq_true rfl), mw194, mw15, cy_X1_bring⟩ mw191 mw192 mw193 (w_rec hw (c0 := 2) (i0 := 0) (hX 2 (by decide)) rfl rfl) rfl hl.1.1 rfl (Nat.le_of_ble_eq_true rfl) dX1_write_18 ⟨by show 0 + 0 + g3 ≤ kc; omega, by show 0 + 0 + 32768 * g3 ≤ ks; omega⟩ (fun X' Z' Y' v k n H locs hp hw => ?_)
    obtain ⟨rfl, f, rfl, hR⟩ := hp
    have hR0 := hR
    obtain ⟨V, o1, hd1, g31, rfl, v4, v14, hf, ho, hA1, hk1, hn1, e8, sc, r, r2, r8⟩ := hR
    have hA1b := hA1
    obtain ⟨⟨-, q2, q3, -⟩, -, ⟨q11, -, q13, -⟩, -⟩ := hA1b
    refine lv_goto (tgt := 25) hx hb dX1_write_21 (by decide) ?_
    refine w_istore hx hb dX1_write_25 hl (Nat.le_of_ble_eq_true rfl) (fun ls hl => ?_)
    refine lv_iload hx hb dX1_write_27 (hl.at rfl) ?_
    refine lv_iconst (v := -1) hx hb dX1_write_29 (by decide) ?_
    refine lv_icmp_eq (tgt := 52) hx hb dX1_write_30 (by decide) (fun h30 => ?_) (fun h30 => ?_)
    · exact absurd h30 (nI_ne_m1 (by omega))
    · refine lv_aload_n hx hb dX1_write_33 rfl (hl.at rfl) ?_
      refine w_get C hw (c0 := 2) (i0 := 0) rfl inA1 4 (by decide) mw27 rfl dX1_write_34 (hX 2 (by decide)) rfl rfl rfl ?_
      refine lv_iload hx hb dX1_write_37 (hl.at rfl) ?_
      refine lv_bipush (v := 64) hx hb dX1_write_39 (by decide) ?_
      refine lv_imul hx hb dX1_write_41 ?_
      refine lv_iload_n hx hb dX1_write_42 rfl (hl.at rfl) ?_
      refine lv_bipush (v := 63) hx hb dX1_write_43 (by decide) ?_
      refine lv_iand hx hb dX1_write_45 ?_
      refine lv_iadd hx hb dX1_write_46 ?_
      rw [m64, and63m (by omega), nI_add]
      refine w_ild C hw (c0 := 3) (i0 := 0) dX1_write_47 (hX 3 (by decide)) rfl rfl (vp_in_nI (show 64 * f + an % 64 < V 3 by have q : 64 * o1 ≤ V 3 := q11; omega) (by have q : V 3 < 32768 := q13; omega)) (nI_clamp (by omega)) ?_
      have ev : Z' 3 0 (64 * f + an % 64) = mw Z i (an / 64) (an % 64) := by
        unfold mw
        rw [e21, nI_clamp (by omega), ← sc sh (an % 64) hs (by omega), scn_mem (by omega) e8]
      rw [ev]
      refine lv_iload_n hx hb dX1_write_48 rfl (hl.at rfl) ?_
      refine lv_icmp_ne (tgt := 53) hx hb dX1_write_49 (by decide) (fun h49 => ?_) (fun h49 => ?_)
      · refine lv_aload_n hx hb dX1_write_53 rfl (hl.at rfl) ?_
        refine lv_aload_n hx hb dX1_write_54 rfl (hl.at rfl) ?_
        refine lv_iload_n hx hb dX1_write_55 rfl (hl.at rfl) ?_
        refine lv_bipush (v := 6) hx hb dX1_write_56 (by decide) ?_
        refine lv_ishr hx hb dX1_write_58 ?_
        refine lv_iload hx hb dX1_write_59 (hl.at rfl) ?_
        have hB1 := br_HB hB0 hs hcs hR0
        rw [shr6 (by omega)]
        have hg1 : gfr (X.1, V, X.2.2) Z' i = gfr X Z i := gfr_same rfl (r 20 i (by unfold tfR; omega))
        have hfo : f < o1 := hf
        refine w_callV C hN hw (c_X1_makeOwn l sz0 D cs (X.1, V, X.2.2) Z' Y hX hU i hG h o1 hd1 g31 g4 fc (g31 + g4) (32832 * (g31 + g4)) (an / 64) sh f hA1 hB1 hi (by rw [hg1]; exact hk) hs (by rw [r 21 i (by unfold tfR; omega)]; exact e21) e8 hfo (Nat.le_refl _) (Nat.le_refl _)) ⟨(Nat.le_of_ble_eq_true rfl), (Nat.le_of_ble_eq_true rfl), mw224, mw15, cy_X1_makeOwn⟩ mw221 mw222 mw223 (w_rec hw (c0 := 2) (i0 := 0) (hX 2 (by decide)) rfl rfl) rfl hl.1.1 rfl (Nat.le_of_ble_eq_true rfl) dX1_write_61 ⟨by show 0 + 0 + k + (g31 + g4) ≤ kc; omega, by show 0 + 0 + n + 32832 * (g31 + g4) ≤ ks; omega⟩ (fun X2 Z2 Y2 v2 k2 n2 H locs hp hw => ?_)
        obtain ⟨rfl, f2, rfl, hO⟩ := hp
        have hO0 := hO
        obtain ⟨V2, o2, hd2, g32, g42, fc2, s2, rfl, hA2, -, hf2, -⟩ := hO
        obtain ⟨⟨-, w2, w3, -⟩, -, ⟨w11, -, w13, -⟩, -⟩ := hA2
        refine w_istore hx hb dX1_write_64 hl (Nat.le_of_ble_eq_true rfl) (fun ls hl => ?_)
        refine lv_iload hx hb dX1_write_66 (hl.at rfl) ?_
        refine lv_iconst (v := -1) hx hb dX1_write_68 (by decide) ?_
        refine lv_icmp_eq (tgt := 88) hx hb dX1_write_69 (by decide) (fun h69 => ?_) (fun h69 => ?_)
        · exact absurd h69 (nI_ne_m1 (by omega))
        · refine lv_aload_n hx hb dX1_write_72 rfl (hl.at rfl) ?_
          refine w_get C hw (c0 := 2) (i0 := 0) rfl inA1 4 (by decide) mw27 rfl dX1_write_73 (hX 2 (by decide)) rfl rfl rfl ?_
          refine lv_iload hx hb dX1_write_76 (hl.at rfl) ?_
          refine lv_bipush (v := 64) hx hb dX1_write_78 (by decide) ?_
          refine lv_imul hx hb dX1_write_80 ?_
          refine lv_iload_n hx hb dX1_write_81 rfl (hl.at rfl) ?_
          refine lv_bipush (v := 63) hx hb dX1_write_82 (by decide) ?_
          refine lv_iand hx hb dX1_write_84 ?_
          refine lv_iadd hx hb dX1_write_85 ?_
          refine lv_iload_n hx hb dX1_write_86 rfl (hl.at rfl) ?_
          rw [show nI f2 * 64 + (nI an &&& 63) = nI (64 * f2 + an % 64) by rw [m64, and63m (by omega), nI_add]]
          refine w_ist C hw (c0 := 3) (i0 := 0) dX1_write_87 (hX 3 (by decide)) rfl (fun _ => rfl) (vp_in_nI (show 64 * f2 + an % 64 < V2 3 by have q : 64 * o2 ≤ V2 3 := w11; omega) (by have q : V2 3 < 32768 := w13; omega)) (nI_clamp (by omega)) (fun H locs hw => ?_)
          have hm := mo_put (gp := gp - k) (Z2 := upr Z2 3 0 (upd (Z2 3 0) (64 * f2 + an % 64) b)) hi (by rw [hg1]; exact hk) (by omega) hO0 (m := upd (Z2 3 0) (64 * f2 + an % 64) b) (fun j hj => upd_n (by omega)) rfl
          obtain ⟨V3, gp3, e1, e2, e3, e4, e5, e6⟩ := hm
          refine w_vret C hw hr hlocks dX1_write_88 ⟨rfl, rfl, V2, gp3, rfl, ?_, by omega, by omega, fun j k w hj hkj hw => ?_, fun c i' h1 h2 => ?_⟩
          · rw [e1] at e2 ⊢
            exact e2
          · have hgj : gfr (X.1, V, X.2.2) Z' j = gfr X Z j := gfr_same rfl (r 20 j (by unfold tfR; omega))
            have hmj : mw Z' j k w = mw Z j k w := by
              unfold mw
              rw [r 21 j (by unfold tfR; omega)]
              obtain ⟨t, ht, et⟩ := d2 j k hj hkj
              rw [et, nI_clamp (by omega)]
              exact sc t w ht hw
            rw [e5 j k w hj (by rw [hgj]; exact hkj) hw]
            show (if j = i ∧ k = an / 64 then upd (Z2 3 0) (64 * f2 + an % 64) b (64 * f2 + w) else mw Z' j k w) = if hasWv (nI F) (nI an) ≠ 0 ∧ j = i ∧ k = (nI an).toNatClampNeg / 64 ∧ w = (nI an).toNatClampNeg % 64 then b else mw Z j k w
            rw [nI_clamp (by omega)]
            by_cases q : j = i ∧ k = an / 64
            · obtain ⟨rfl, rfl⟩ := q
              rw [if_pos ⟨rfl, rfl⟩]
              by_cases q2 : w = an % 64
              · subst q2
                rw [if_pos ⟨h5, rfl, rfl, rfl⟩, upd_s]
              · rw [if_neg (fun q => q2 q.2.2.2), upd_n (by omega), mo_row hi (by rw [hg1]; exact hk) hw hO0]
                exact hmj
            · rw [if_neg q, if_neg (fun p => q ⟨p.2.1, p.2.2.1⟩)]
              exact hmj
          · rw [e6 c i' h1 h2]
            exact r c i' (by unfold tfR; omega)
      · refine w_vret C hw hr hlocks dX1_write_52 ⟨rfl, rfl, hsame (fun j k w _ _ _ q => ?_) (by rw [show 0 + 0 + k = k by omega, show 0 + 0 + n = n by omega]; exact br_HM (hd := hd) hB0 hs hcs hgp hR0)⟩
        rw [nI_clamp (by omega)] at q
        rw [q.2.1, q.2.2.1, q.2.2.2]
        exact h49
