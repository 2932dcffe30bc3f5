def secN (x : Int32) : Nat := (x &&& 15).toNatClampNeg
theorem sec_nI (x : Int32) : x &&& 15 = nI (secN x) ∧ secN x < 16 := by
  obtain ⟨j, hj, e⟩ := pk_andE x (m := 15) 4 (by decide)
  have : secN x = j := by unfold secN; rw [e, nI_clamp (by omega)]
  rw [this]
  exact ⟨e, hj⟩
def svR (Z : ZT) (i fr sec : Nat) : Nat → Int32 := fun j => if 64 * sec ≤ j ∧ j < 64 * sec + 64 then mw Z i fr (j - 64 * sec) else Z 22 i j

set_option maxHeartbeats 4000000 in
set_option maxRecDepth 100000 in
theorem c_X1_saveFrame (l : Launch) (sz0 : Nat) (D : va_G) (cs : Nat → ClassId) (X : Sh) (Z : ZT) (Y : va_W) (hX : HXI X) (hU : HUI X) (i : Nat) (hG : GI X i) (h gp kc ks F : Nat) (hI : HI X Z h gp) (hL : GL X Z i F) (fr : Nat) (hfr : fr < F) (x : Int32) (hkc : gp ≤ kc) (hks : 32832 * gp ≤ ks) : Ctr l yX1_saveFrame (wsM yX1_saveFrame cX1_saveFrame 5 none) ({ frames := 4, cells := kc, slots := ks, locals := 94 } : Room) sz0 D cs [.ref (X.1 2 0), .ref (X.1 20 i), .int (nI fr), .int x] X Z Y (fun X' Z' Y' v k n => Y = Y' ∧ v = none ∧ ∃ Z1, HM X Z h gp X' Z1 k n (mw Z) ∧ Z' = upr Z1 22 i (svR Z i fr (secN x))) := by
  refine Ctr.ofW (by decide +kernel) (by intro v hv; simp at hv; rcases hv with rfl | rfl | rfl | rfl <;> rfl) (Nat.le_of_ble_eq_true rfl) ?_
  intro p e s m below meth c ls C hr hlocks hname hl hN hw
  obtain ⟨hx, hb, hml, hown, hts⟩ := id C
  have hI0 := hI
  obtain ⟨o, hd, g3, g4, fc, hA, hB, hgp⟩ := hI
  obtain ⟨hi, hgf, hF6, hF1, hF64⟩ := hL
  have hA0 := hA
  have hB0 := hB
  obtain ⟨⟨a1, a2, a3, a4⟩, -, ⟨c11, c12, c13, c14⟩, -, c3, c4, c5, c6, c7⟩ := hA
  obtain ⟨d1, d2, d3, d4, d5, d6, d7, d8, d9⟩ := hB
  have hk : fr < gfr X Z i := by rw [hgf]; exact hfr
  obtain ⟨sh, hs, e21⟩ := d2 i fr hi hk
  have hcs : cnt X Z sh ≠ 0 := by have := cnt_ge hi hk e21; omega
  refine lv_aload_n hx hb dX1_saveFrame_0 rfl (hl.at rfl) ?_
  refine lv_aload_n hx hb dX1_saveFrame_1 rfl (hl.at rfl) ?_
  refine w_getN C hN hw (c0 := 20) (i0 := i) rfl inA0 7 (by decide) mw649 rfl dX1_saveFrame_2 (hG 20 (by decide) (by decide)) rfl rfl rfl ?_
  refine lv_iload_n hx hb dX1_saveFrame_5 rfl (hl.at rfl) ?_
  refine lv_bipush (v := 63) hx hb dX1_saveFrame_6 (by decide) ?_
  refine lv_iand hx hb dX1_saveFrame_8 ?_
  rw [and63 (show fr < 64 by omega)]
  refine w_ild C hw (c0 := 21) (i0 := i) dX1_saveFrame_9 (hG 21 (by decide) (by decide)) rfl rfl (vp_in_nI (show fr < 64 by omega) (by omega)) (nI_clamp (by omega)) ?_
  rw [e21]
  refine w_callV C hN hw (c_X1_bring l sz0 D cs X _ Y hX hU h o hd g3 g4 g3 (32768 * g3) sh hA0 hs (d4 sh hs hcs) (Nat.le_refl _) (Nat.le_refl _)) ⟨(Nat.le_of_ble_eq_true rfl), (Nat.le_of_ble_eq_true rfl), mw194, mw15, cy_X1_bring⟩ mw191 mw192 mw193 (w_rec hw (c0 := 2) (i0 := 0) (hX 2 (by decide)) rfl rfl) rfl hl.1.1 rfl (Nat.le_of_ble_eq_true rfl) dX1_saveFrame_10 ⟨by show 0 + g3 ≤ kc; omega, by show 0 + 32768 * g3 ≤ ks; omega⟩ (fun X' Z' Y' v k n H locs hp hw => ?_)
  obtain ⟨rfl, f, rfl, hR⟩ := hp
  have hR0 := hR
  obtain ⟨V, o1, hd1, g31, rfl, v4, v14, hf, ho, hA1, hk1, hn1, e8, sc, r, r2, r8⟩ := hR
  have hA1b := hA1
  obtain ⟨⟨-, q2, q3, -⟩, -, ⟨q11, -, q13, -⟩, -⟩ := hA1b
  obtain ⟨es, hsec⟩ := sec_nI x
  refine w_istore hx hb dX1_saveFrame_13 hl (Nat.le_of_ble_eq_true rfl) (fun ls hl => ?_)
  refine lv_iload hx hb dX1_saveFrame_15 (hl.at rfl) ?_
  refine lv_iconst (v := -1) hx hb dX1_saveFrame_17 (by decide) ?_
  refine lv_icmp_eq (tgt := 46) hx hb dX1_saveFrame_18 (by decide) (fun h18 => ?_) (fun h18 => ?_)
  · exact absurd h18 (nI_ne_m1 (by omega))
  · refine lv_aload_n hx hb dX1_saveFrame_21 rfl (hl.at rfl) ?_
    refine w_get C hw (c0 := 2) (i0 := 0) rfl inA1 4 (by decide) mw27 rfl dX1_saveFrame_22 (hX 2 (by decide)) rfl rfl rfl ?_
    refine lv_iload hx hb dX1_saveFrame_25 (hl.at rfl) ?_
    refine lv_bipush (v := 64) hx hb dX1_saveFrame_27 (by decide) ?_
    refine lv_imul hx hb dX1_saveFrame_29 ?_
    refine lv_aload_n hx hb dX1_saveFrame_30 rfl (hl.at rfl) ?_
    refine w_getN C hN hw (c0 := 20) (i0 := i) rfl inA0 8 (by decide) mw651 rfl dX1_saveFrame_31 (hG 20 (by decide) (by decide)) rfl rfl rfl ?_
    refine lv_iload_n hx hb dX1_saveFrame_34 rfl (hl.at rfl) ?_
    refine lv_bipush (v := 15) hx hb dX1_saveFrame_35 (by decide) ?_
    refine lv_iand hx hb dX1_saveFrame_37 ?_
    refine lv_bipush (v := 64) hx hb dX1_saveFrame_38 (by decide) ?_
    refine lv_imul hx hb dX1_saveFrame_40 ?_
    refine lv_bipush (v := 64) hx hb dX1_saveFrame_41 (by decide) ?_
    rw [es, m64, m64]
    refine w_cpy C hw (c0 := 3) (i0 := 0) (c1 := 22) (i1 := i) mw195 dX1_saveFrame_43 (hX 3 (by decide)) rfl rfl (hG 22 (by decide) (by decide)) rfl (fun _ => rfl) (nI_pos (by omega)) (nI_pos (by omega)) (by decide) (nI_clamp (by omega)) (nI_clamp (by omega)) (jn := 64) (by decide) (show 64 * f + 64 ≤ V 3 by have q : 64 * o1 ≤ V 3 := q11; omega) (by omega) hl.1.1 (Nat.le_of_ble_eq_true rfl) (Nat.le_of_ble_eq_true rfl) (fun H locs hw => ?_)
    have em : va_cpy (Z' 3 0) (Z' 22 i) (64 * f) (64 * secN x) 64 = svR Z i fr (secN x) := by
      funext j
      unfold svR
      by_cases q : 64 * secN x ≤ j ∧ j < 64 * secN x + 64
      · rw [pk_cpy_in q.1 q.2, if_pos q]
        unfold mw
        rw [e21, nI_clamp (by omega), ← sc sh _ hs (by omega), scn_mem (by omega) e8]
      · rw [pk_cpy_out (by omega), if_neg q, r 22 i (by unfold tfR; omega)]
    rw [em] at hw
    exact w_vret C hw hr hlocks dX1_saveFrame_46 ⟨rfl, rfl, Z', by rw [show 0 + k = k by omega, show 0 + n = n by omega]; exact br_HM (hd := hd) hB0 hs hcs hgp hR0, rfl⟩

set_option maxHeartbeats 4000000 in
set_option maxRecDepth 100000 in
theorem c_X1_loadFrame (l : Launch) (sz0 : Nat) (D : va_G) (cs : Nat → ClassId) (X : Sh) (Z : ZT) (Y : va_W) (hX : HXI X) (hU : HUI X) (i : Nat) (hG : GI X i) (h gp kc ks F : Nat) (hI : HI X Z h gp) (hL : GL X Z i F) (fr : Nat) (hfr : fr < F) (x : Int32) (hkc : gp ≤ kc) (hks : 32832 * gp ≤ ks) : Ctr l yX1_loadFrame (wsM yX1_loadFrame cX1_loadFrame 5 none) ({ frames := 4, cells := kc, slots := ks, locals := 98 } : Room) sz0 D cs [.ref (X.1 2 0), .ref (X.1 20 i), .int (nI fr), .int x] X Z Y (fun X' Z' Y' v k n => Y = Y' ∧ v = none ∧ HM X Z h gp X' Z' k n (fun j k w => if j = i ∧ k = fr then Z 22 i (64 * secN x + w) else mw Z j k w)) := by
  refine Ctr.ofW (by decide +kernel) (by intro v hv; simp at hv; rcases hv with rfl | rfl | rfl | rfl <;> rfl) (Nat.le_of_ble_eq_true rfl) ?_
  intro p e s m below meth c ls C hr hlocks hname hl hN hw
  obtain ⟨hx, hb, hml, hown, hts⟩ := id C
  have hI0 := hI
  obtain ⟨o, hd, g3, g4, fc, hA, hB, hgp⟩ := hI
  obtain ⟨hi, hgf, hF6, hF1, hF64⟩ := hL
  have hA0 := hA
  have hB0 := hB
  obtain ⟨⟨a1, a2, a3, a4⟩, -, ⟨c11, c12, c13, c14⟩, -, c3, c4, c5, c6, c7⟩ := hA
  obtain ⟨d1, d2, d3, d4, d5, d6, d7, d8, d9⟩ := hB
  have hk : fr < gfr X Z i := by rw [hgf]; exact hfr
  obtain ⟨sh, hs, e21⟩ := d2 i fr hi hk
  have hcs : cnt X Z sh ≠ 0 := by have := cnt_ge hi hk e21; omega
  refine lv_aload_n hx hb dX1_loadFrame_0 rfl (hl.at rfl) ?_
  refine lv_aload_n hx hb dX1_loadFrame_1 rfl (hl.at rfl) ?_
  refine w_getN C hN hw (c0 := 20) (i0 := i) rfl inA0 7 (by decide) mw649 rfl dX1_loadFrame_2 (hG 20 (by decide) (by decide)) rfl rfl rfl ?_
  refine lv_iload_n hx hb dX1_loadFrame_5 rfl (hl.at rfl) ?_
  refine lv_bipush (v := 63) hx hb dX1_loadFrame_6 (by decide) ?_
  refine lv_iand hx hb dX1_loadFrame_8 ?_
  rw [and63 (show fr < 64 by omega)]
  refine w_ild C hw (c0 := 21) (i0 := i) dX1_loadFrame_9 (hG 21 (by decide) (by decide)) rfl rfl (vp_in_nI (show fr < 64 by omega) (by omega)) (nI_clamp (by omega)) ?_
  rw [e21]
  refine w_callV C hN hw (c_X1_bring l sz0 D cs X _ Y hX hU h o hd g3 g4 g3 (32768 * g3) sh hA0 hs (d4 sh hs hcs) (Nat.le_refl _) (Nat.le_refl _)) ⟨(Nat.le_of_ble_eq_true rfl), (Nat.le_of_ble_eq_true rfl), mw194, mw15, cy_X1_bring⟩ mw191 mw192 mw193 (w_rec hw (c0 := 2) (i0 := 0) (hX 2 (by decide)) rfl rfl) rfl hl.1.1 rfl (Nat.le_of_ble_eq_true rfl) dX1_loadFrame_10 ⟨by show 0 + g3 ≤ kc; omega, by show 0 + 32768 * g3 ≤ ks; omega⟩ (fun X' Z' Y' v k n H locs hp hw => ?_)
  obtain ⟨rfl, f, rfl, hR⟩ := hp
  have hR0 := hR
  obtain ⟨V, o1, hd1, g31, rfl, v4, v14, hf, ho, hA1, hk1, hn1, e8, sc, r, r2, r8⟩ := hR
  have hA1b := hA1
  obtain ⟨⟨-, q2, q3, -⟩, -, ⟨q11, -, q13, -⟩, -⟩ := hA1b
  obtain ⟨es, hsec⟩ := sec_nI x
  refine w_istore hx hb dX1_loadFrame_13 hl (Nat.le_of_ble_eq_true rfl) (fun ls hl => ?_)
  refine lv_iload hx hb dX1_loadFrame_15 (hl.at rfl) ?_
  refine lv_iconst (v := -1) hx hb dX1_loadFrame_17 (by decide) ?_
  refine lv_icmp_eq (tgt := 34) hx hb dX1_loadFrame_18 (by decide) (fun h18 => ?_) (fun h18 => ?_)
  · exact absurd h18 (nI_ne_m1 (by omega))
  · refine lv_aload_n hx hb dX1_loadFrame_21 rfl (hl.at rfl) ?_
    refine lv_aload_n hx hb dX1_loadFrame_22 rfl (hl.at rfl) ?_
    refine lv_iload_n hx hb dX1_loadFrame_23 rfl (hl.at rfl) ?_
    refine lv_bipush (v := 63) hx hb dX1_loadFrame_24 (by decide) ?_
    refine lv_iand hx hb dX1_loadFrame_26 ?_
    refine lv_iload hx hb dX1_loadFrame_27 (hl.at rfl) ?_
    rw [and63 (show fr < 64 by omega)]
    have hB1 := br_HB hB0 hs hcs hR0
    have hg1 : gfr (X.1, V, X.2.2) Z' i = gfr X Z i := gfr_same rfl (r 20 i (by unfold tfR; omega))
    have hfo : f < o1 := hf
    refine w_callV C hN hw (c_X1_makeOwn l sz0 D cs (X.1, V, X.2.2) Z' Y hX hU i hG h o1 hd1 g31 g4 fc (g31 + g4) (32832 * (g31 + g4)) fr sh f hA1 hB1 hi (by rw [hg1]; exact hk) hs (by rw [r 21 i (by unfold tfR; omega)]; exact e21) e8 hfo (Nat.le_refl _) (Nat.le_refl _)) ⟨(Nat.le_of_ble_eq_true rfl), (Nat.le_of_ble_eq_true rfl), mw224, mw15, cy_X1_makeOwn⟩ mw221 mw222 mw223 (w_rec hw (c0 := 2) (i0 := 0) (hX 2 (by decide)) rfl rfl) rfl hl.1.1 rfl (Nat.le_of_ble_eq_true rfl) dX1_loadFrame_29 ⟨by show 0 + k + (g31 + g4) ≤ kc; omega, by show 0 + n + 32832 * (g31 + g4) ≤ ks; omega⟩ (fun X2 Z2 Y2 v2 k2 n2 H locs hp hw => ?_)
    obtain ⟨rfl, f2, rfl, hO⟩ := hp
    have hO0 := hO
    obtain ⟨V2, o2, hd2, g32, g42, fc2, s2, rfl, hA2, -, hf2, -, -, -, -, -, -, -, -, -, rr, -⟩ := hO
    obtain ⟨⟨-, w2, w3, -⟩, -, ⟨w11, -, w13, -⟩, -⟩ := hA2
    refine w_istore hx hb dX1_loadFrame_32 hl (Nat.le_of_ble_eq_true rfl) (fun ls hl => ?_)
    refine lv_iload hx hb dX1_loadFrame_34 (hl.at rfl) ?_
    refine lv_iconst (v := -1) hx hb dX1_loadFrame_36 (by decide) ?_
    refine lv_icmp_eq (tgt := 65) hx hb dX1_loadFrame_37 (by decide) (fun h37 => ?_) (fun h37 => ?_)
    · exact absurd h37 (nI_ne_m1 (by omega))
    · refine lv_aload_n hx hb dX1_loadFrame_40 rfl (hl.at rfl) ?_
      refine w_getN C hN hw (c0 := 20) (i0 := i) rfl inA0 8 (by decide) mw651 rfl dX1_loadFrame_41 (hG 20 (by decide) (by decide)) rfl rfl rfl ?_
      refine lv_iload_n hx hb dX1_loadFrame_44 rfl (hl.at rfl) ?_
      refine lv_bipush (v := 15) hx hb dX1_loadFrame_45 (by decide) ?_
      refine lv_iand hx hb dX1_loadFrame_47 ?_
      refine lv_bipush (v := 64) hx hb dX1_loadFrame_48 (by decide) ?_
      refine lv_imul hx hb dX1_loadFrame_50 ?_
      refine lv_aload_n hx hb dX1_loadFrame_51 rfl (hl.at rfl) ?_
      refine w_get C hw (c0 := 2) (i0 := 0) rfl inA1 4 (by decide) mw27 rfl dX1_loadFrame_52 (hX 2 (by decide)) rfl rfl rfl ?_
      refine lv_iload hx hb dX1_loadFrame_55 (hl.at rfl) ?_
      refine lv_bipush (v := 64) hx hb dX1_loadFrame_57 (by decide) ?_
      refine lv_imul hx hb dX1_loadFrame_59 ?_
      refine lv_bipush (v := 64) hx hb dX1_loadFrame_60 (by decide) ?_
      rw [es, m64, m64]
      refine w_cpy C hw (c0 := 22) (i0 := i) (c1 := 3) (i1 := 0) mw195 dX1_loadFrame_62 (hG 22 (by decide) (by decide)) rfl rfl (hX 3 (by decide)) rfl (fun _ => rfl) (nI_pos (by omega)) (nI_pos (by omega)) (by decide) (nI_clamp (by omega)) (nI_clamp (by omega)) (jn := 64) (by decide) (by omega) (show 64 * f2 + 64 ≤ V2 3 by have q : 64 * o2 ≤ V2 3 := w11; omega) hl.1.1 (Nat.le_of_ble_eq_true rfl) (Nat.le_of_ble_eq_true rfl) (fun H locs hw => ?_)
      have z22 : Z2 22 i = Z 22 i := by rw [rr 22 i (by omega) (by omega), r 22 i (by unfold tfR; omega)]
      have hm := mo_put (gp := gp - k) (Z2 := upr Z2 3 0 (va_cpy (Z2 22 i) (Z2 3 0) (64 * secN x) (64 * f2) 64)) hi (by rw [hg1]; exact hk) (by omega) hO0 (m := va_cpy (Z2 22 i) (Z2 3 0) (64 * secN x) (64 * f2) 64) (fun j hj => pk_cpy_out (by omega)) rfl
      obtain ⟨V3, gp3, e1, e2, e3, e4, e5, e6⟩ := hm
      refine w_vret C hw hr hlocks dX1_loadFrame_65 ⟨rfl, rfl, V2, gp3, rfl, ?_, by omega, by omega, fun j k w hj hkj hw => ?_, fun c i' h1 h2 => ?_⟩
      · rw [e1] at e2 ⊢
        exact e2
      · have hgj : gfr (X.1, V, X.2.2) Z' j = gfr X Z j := gfr_same rfl (r 20 j (by unfold tfR; omega))
        have hmj : mw Z' j k w = mw Z j k w := by
          unfold mw
          rw [r 21 j (by unfold tfR; omega)]
          obtain ⟨t, ht, et⟩ := d2 j k hj hkj
          rw [et, nI_clamp (by omega)]
          exact sc t w ht hw
        rw [e5 j k w hj (by rw [hgj]; exact hkj) hw]
        show (if j = i ∧ k = fr then va_cpy (Z2 22 i) (Z2 3 0) (64 * secN x) (64 * f2) 64 (64 * f2 + w) else mw Z' j k w) = if j = i ∧ k = fr then Z 22 i (64 * secN x + w) else mw Z j k w
        by_cases q : j = i ∧ k = fr
        · rw [if_pos q, if_pos q, pk_cpy_in (by omega) (by omega), z22]
          congr 1
          omega
        · rw [if_neg q, if_neg q]
          exact hmj
      · rw [e6 c i' h1 h2]
        exact r c i' (by unfold tfR; omega)
