set_option maxHeartbeats 4000000 in
set_option maxRecDepth 100000 in
theorem c_X4_taken (l : Launch) (sz0 : Nat) (D : va_G) (cs : Nat → ClassId) (X : Sh) (Z : ZT) (Y : va_W) (i : Nat) (hB : BI X i) (F : Nat) (g : GS) (hF : F ≤ 64) (hR : BRr Z i F g) : Ctr l yX4_taken (wsM yX4_taken cX4_taken 3 (some .int)) ({ frames := 0, cells := 0, slots := 0, locals := 0 } : Room) sz0 D cs [.ref (X.1 40 i)] X Z Y (Pz X Y (fun Z' v => v = some (.int (popS g).2) ∧ BRr Z' i F (popS g).1 ∧ SB Z i Z' ∧ Z' 40 i 17 = Z 40 i 17)) := by
  refine Ctr.ofW (by decide +kernel) (by intro v hv; simp at hv; rcases hv with rfl <;> rfl) (Nat.le_of_ble_eq_true rfl) ?_
  intro p e s m below meth c ls C hr hlocks hname hl hN hw
  obtain ⟨hx, hb, hml, hown, hts⟩ := id C
  obtain ⟨w, hw64, e14, hq⟩ := hR.2.2.2.2.2.2.1
  have g14 : g 0 14 = nI w := by rw [← e14]; exact hR.1.2.2.2.2.2.2.1.symm
  refine lv_aload_n hx hb dX4_taken_0 rfl (hl.at rfl) ?_
  refine w_get C hw (c0 := 40) (i0 := i) rfl inA4 14 (by decide) mw163 rfl dX4_taken_1 (hB 40 (by decide) (by decide)) rfl rfl rfl ?_
  rw [e14]
  refine lv_if_ne (tgt := 9) hx hb dX4_taken_4 (by decide) (fun h4 => ?_) (fun h4 => ?_)
  · have hw0 : w ≠ 0 := fun q => h4 (by rw [q]; rfl)
    obtain ⟨w', rfl⟩ : ∃ w', w = w' + 1 := ⟨w - 1, by omega⟩
    have eP : popS g = (gr (gu g 0 14 (g 0 14 - 1)) 6 (fun j => g 6 (j + 1)), g 6 0) := by
      unfold popS
      rw [if_neg (fun q => q (by rw [g14]; exact nI_lt (a := 0) (by omega) (by omega)))]
    refine lv_aload_n hx hb dX4_taken_9 rfl (hl.at rfl) ?_
    refine w_get C hw (c0 := 40) (i0 := i) rfl inA4 8 (by decide) mw81 rfl dX4_taken_10 (hB 40 (by decide) (by decide)) rfl rfl rfl ?_
    refine lv_iconst (v := 0) hx hb dX4_taken_13 (by decide) ?_
    refine w_ild C hw (c0 := 47) (i0 := i) dX4_taken_14 (hB 47 (by decide) (by decide)) rfl rfl (vpk (by decide)) (j := 0) (by decide) ?_
    rw [hq 0 (by omega)]
    refine w_istore_n hx hb dX4_taken_15 rfl hl (Nat.le_of_ble_eq_true rfl) (fun ls hl => ?_)
    refine lv_iconst (v := 1) hx hb dX4_taken_16 (by decide) ?_
    refine w_istore_n hx hb dX4_taken_17 rfl hl (Nat.le_of_ble_eq_true rfl) (fun ls hl => ?_)
    have loop : ∀ (d j : Nat), j + d = w' → ∀ (H : Heap) (locs : List Loc) (ls : Array Slot), lo ls [some (.ref (X.1 40 i)), some (.int (g 6 0)), some (.int (nI (j + 1)))] → Wd sz0 D cs s X (upr Z 47 i (stR j (fun k => Z 47 i (k + 1)) (Z 47 i))) Y H locs → W p l e ({ frames := 0, cells := 0, slots := 0, locals := 0 } : Room) s m ([.ref (X.1 40 i)] : List Value).toArray below meth c H locs 0 0 (xQ below (CQ sz0 D cs (Pz X Y (fun Z' v => v = some (.int (popS g).2) ∧ BRr Z' i F (popS g).1 ∧ SB Z i Z' ∧ Z' 40 i 17 = Z 40 i 17))) ([.ref (X.1 40 i)] : List Value).toArray s (Asz sz0)) (F0 m 18 ls []) := by
      intro d
      induction d with
      | zero =>
        intro j hj H locs ls hl hw
        refine lv_iload_n hx hb dX4_taken_18 rfl (hl.at rfl) ?_
        refine lv_aload_n hx hb dX4_taken_19 rfl (hl.at rfl) ?_
        refine w_get C hw (c0 := 40) (i0 := i) rfl inA4 14 (by decide) mw163 rfl dX4_taken_20 (hB 40 (by decide) (by decide)) rfl rfl rfl ?_
        rw [upr_k (show (40 : Nat) ≠ 47 by decide), e14]
        refine lv_icmp_ge (tgt := 46) hx hb dX4_taken_23 (by decide) (fun h23 => ?_) (fun h23 => ?_)
        · have hjn : j = w' := by omega
          subst hjn
          refine lv_aload_n hx hb dX4_taken_46 rfl (hl.at rfl) ?_
          refine lv_dup hx hb dX4_taken_47 rfl ?_
          refine w_get C hw (c0 := 40) (i0 := i) rfl inA4 14 (by decide) mw163 rfl dX4_taken_48 (hB 40 (by decide) (by decide)) rfl rfl rfl ?_
          refine lv_iconst (v := 1) hx hb dX4_taken_51 (by decide) ?_
          refine lv_isub hx hb dX4_taken_52 ?_
          refine w_put C hw (c0 := 40) (i0 := i) rfl inA4 tyX4_ok nmX4 14 (by decide) mw163 rfl rfl rfl dX4_taken_53 (hB 40 (by decide) (by decide)) rfl rfl rfl rfl (Nat.le_of_ble_eq_true rfl) rfl (fun H locs hw => ?_)
          refine lv_iload_n hx hb dX4_taken_56 rfl (hl.at rfl) ?_
          rw [upr_k (show (40 : Nat) ≠ 47 by decide)] at hw
          exact w_iret C hw hr hlocks dX4_taken_57 ⟨rfl, rfl, rfl, rfl, by rw [eP], by rw [eP]; exact BR_pop hR hw64 e14 (fun k hk => by unfold stR; rw [if_pos hk]), SB.trans (SB.refl.up (c := 47) (f := stR j (fun k => Z 47 i (k + 1)) (Z 47 i)) (by decide) (by decide)) (by have := SB.u40 (Z := (upr Z 47 i (stR j (fun k => Z 47 i (k + 1)) (Z 47 i)))) (i := i) (k := 14) (x := Z 40 i 14 - 1) SB.refl (by decide); rw [upr_k (show (40 : Nat) ≠ 47 by decide)] at this; exact this), by rw [upr_s, upd_n (by decide)]⟩
        · exact absurd (nI_le (show w' + 1 ≤ j + 1 by omega) (by omega)) h23
      | succ d ih =>
        intro j hj H locs ls hl hw
        refine lv_iload_n hx hb dX4_taken_18 rfl (hl.at rfl) ?_
        refine lv_aload_n hx hb dX4_taken_19 rfl (hl.at rfl) ?_
        refine w_get C hw (c0 := 40) (i0 := i) rfl inA4 14 (by decide) mw163 rfl dX4_taken_20 (hB 40 (by decide) (by decide)) rfl rfl rfl ?_
        rw [upr_k (show (40 : Nat) ≠ 47 by decide), e14]
        refine lv_icmp_ge (tgt := 46) hx hb dX4_taken_23 (by decide) (fun h23 => ?_) (fun h23 => ?_)
        · exact absurd h23 (nI_ge (show j + 1 < w' + 1 by omega) (by omega))
        · refine lv_aload_n hx hb dX4_taken_26 rfl (hl.at rfl) ?_
          refine w_get C hw (c0 := 40) (i0 := i) rfl inA4 8 (by decide) mw81 rfl dX4_taken_27 (hB 40 (by decide) (by decide)) rfl rfl rfl ?_
          refine lv_iload_n hx hb dX4_taken_30 rfl (hl.at rfl) ?_
          refine lv_iconst (v := 1) hx hb dX4_taken_31 (by decide) ?_
          refine lv_isub hx hb dX4_taken_32 ?_
          rw [nI_pred]
          refine lv_aload_n hx hb dX4_taken_33 rfl (hl.at rfl) ?_
          refine w_get C hw (c0 := 40) (i0 := i) rfl inA4 8 (by decide) mw81 rfl dX4_taken_34 (hB 40 (by decide) (by decide)) rfl rfl rfl ?_
          refine lv_iload_n hx hb dX4_taken_37 rfl (hl.at rfl) ?_
          refine w_ild C hw (c0 := 47) (i0 := i) dX4_taken_38 (hB 47 (by decide) (by decide)) rfl rfl (vp_in_nI (show j + 1 < 64 by omega) (by decide)) (nI_clamp (by omega)) ?_
          rw [upr_s, show stR j (fun k => Z 47 i (k + 1)) (Z 47 i) (j + 1) = Z 47 i (j + 1) from if_neg (by omega)]
          refine w_ist C hw (c0 := 47) (i0 := i) dX4_taken_39 (hB 47 (by decide) (by decide)) rfl (fun _ => rfl) (vp_in_nI (show j < 64 by omega) (by decide)) (nI_clamp (by omega)) (fun H locs hw => ?_)
          refine w_iinc hx hb dX4_taken_40 hl rfl rfl (fun ls hl => ?_)
          refine lv_goto (tgt := 18) hx hb dX4_taken_43 (by decide) ?_
          refine ih (j + 1) (by omega) H locs ls (by rw [← nI_1 (j + 1)]; exact hl) ?_
          rw [upr_uu, upr_s, stR_s (f := fun k => Z 47 i (k + 1))] at hw
          exact hw
    refine loop w' 0 (by omega) _ _ _ hl ?_
    rw [stR_0, upr_id]
    exact hw
  · refine lv_iconst (v := 0) hx hb dX4_taken_7 (by decide) ?_
    have eP : popS g = (g, 0) := by unfold popS; rw [if_pos (by rw [g14, h4]; decide)]
    exact w_iret C hw hr hlocks dX4_taken_8 ⟨rfl, rfl, rfl, rfl, by rw [eP], by rw [eP]; exact hR, SB.refl, rfl⟩

set_option maxHeartbeats 4000000 in
set_option maxRecDepth 100000 in
theorem c_X4_put (l : Launch) (sz0 : Nat) (D : va_G) (cs : Nat → ClassId) (X : Sh) (Z : ZT) (Y : va_W) (i : Nat) (hB : BI X i) (F : Nat) (g : GS) (hF : F ≤ 64) (hR : BRr Z i F g) (a n : Int32) : Ctr l yX4_put (wsM yX4_put cX4_put 6 none) ({ frames := 1, cells := 0, slots := 0, locals := 21 } : Room) sz0 D cs [.ref (X.1 40 i), .int a, .int n] X Z Y (Pz X Y (fun Z' v => v = none ∧ BRr Z' i F (outS F g a n) ∧ SB Z i Z' ∧ Z' 40 i 17 = Z 40 i 17)) := by
  refine Ctr.ofW (by decide +kernel) (by intro v hv; simp at hv; rcases hv with rfl | rfl | rfl <;> rfl) (Nat.le_of_ble_eq_true rfl) ?_
  intro p e s m below meth c ls C hr hlocks hname hl hN hw
  obtain ⟨hx, hb, hml, hown, hts⟩ := id C
  have e0 : Z 40 i 0 = nI F := hR.1.1
  have e13 : Z 40 i 13 = g 0 4 := hR.1.2.2.2.2.1
  refine lv_iload_n hx hb dX4_put_0 rfl (hl.at rfl) ?_
  refine lv_if_ne (tgt := 44) hx hb dX4_put_1 (by decide) (fun h1 => ?_) (fun h1 => ?_)
  · refine lv_iload_n hx hb dX4_put_44 rfl (hl.at rfl) ?_
    refine lv_iconst (v := 1) hx hb dX4_put_45 (by decide) ?_
    refine lv_icmp_ne (tgt := 57) hx hb dX4_put_46 (by decide) (fun h46 => ?_) (fun h46 => ?_)
    · refine lv_iload_n hx hb dX4_put_57 rfl (hl.at rfl) ?_
      refine lv_iconst (v := 2) hx hb dX4_put_58 (by decide) ?_
      refine lv_icmp_ne (tgt := 159) hx hb dX4_put_59 (by decide) (fun h59 => ?_) (fun h59 => ?_)
      · have eO : outS F g a n = g := by unfold outS; rw [if_neg h1, if_neg h46, if_neg (fun q => h59 q.1)]
        exact w_vret C hw hr hlocks dX4_put_159 ⟨rfl, rfl, rfl, rfl, rfl, by rw [eO]; exact hR, SB.refl, rfl⟩
      · refine lv_aload_n hx hb dX4_put_62 rfl (hl.at rfl) ?_
        refine w_get C hw (c0 := 40) (i0 := i) rfl inA4 13 (by decide) mw171 rfl dX4_put_63 (hB 40 (by decide) (by decide)) rfl rfl rfl ?_
        refine lv_aload_n hx hb dX4_put_66 rfl (hl.at rfl) ?_
        refine w_get C hw (c0 := 40) (i0 := i) rfl inA4 0 (by decide) mw161 rfl dX4_put_67 (hB 40 (by decide) (by decide)) rfl rfl rfl ?_
        rw [e13, e0]
        refine w_callSN C hN hw (c_X5_isBelow l sz0 D cs X _ Y _ _) ⟨(Nat.le_of_ble_eq_true rfl), (Nat.le_of_ble_eq_true rfl), mw249, mw6, cy_X5_isBelow⟩ mw660 mw248 rfl hl.1.1 rfl (Nat.le_of_ble_eq_true rfl) dX4_put_70 ⟨Nat.le_of_ble_eq_true rfl, Nat.le_of_ble_eq_true rfl⟩ (fun X' Z' Y' v k n H locs hp hw => ?_)
        obtain ⟨rfl, rfl, rfl, rfl, rfl, rfl⟩ := hp
        rw [bwv_in (nI_pos (show F < 2 ^ 31 by omega))]
        by_cases cp : ¬ g 0 4 < 0 ∧ ¬ nI F ≤ g 0 4
        · rw [if_neg cp.1, if_neg cp.2]
          refine lv_if_eq (tgt := 159) hx hb dX4_put_73 (by decide) (fun h73 => ?_) (fun h73 => ?_)
          · exact absurd h73 (by decide)
          · obtain ⟨pl, hpl, epl⟩ := nI_of cp.1
            have hpF : pl < F := Nat.not_le.mp (fun q => cp.2 (by rw [epl]; exact nI_le q hpl))
            obtain ⟨es, hs16⟩ := sec_nI (a >>> ((1 : Int32) &&& 31))
            have eO : outS F g a n = diskS g a := by unfold outS; rw [if_neg h1, if_neg h46, if_pos ⟨h59, cp⟩]
            have ecl : (g 0 4).toNatClampNeg = pl := by rw [epl, nI_clamp hpl]
            refine lv_bipush (v := 64) hx hb dX4_put_76 (by decide) ?_
            refine lv_iload_n hx hb dX4_put_78 rfl (hl.at rfl) ?_
            refine lv_iconst (v := 1) hx hb dX4_put_79 (by decide) ?_
            refine lv_ishr hx hb dX4_put_80 ?_
            refine lv_bipush (v := 15) hx hb dX4_put_81 (by decide) ?_
            refine lv_iand hx hb dX4_put_83 ?_
            rw [es]
            refine lv_imul hx hb dX4_put_84 ?_
            rw [m64l]
            refine w_istore_n hx hb dX4_put_85 rfl hl (Nat.le_of_ble_eq_true rfl) (fun ls hl => ?_)
            refine lv_bipush (v := 64) hx hb dX4_put_86 (by decide) ?_
            refine lv_aload_n hx hb dX4_put_88 rfl (hl.at rfl) ?_
            refine w_get C hw (c0 := 40) (i0 := i) rfl inA4 13 (by decide) mw171 rfl dX4_put_89 (hB 40 (by decide) (by decide)) rfl rfl rfl ?_
            rw [e13, epl]
            refine lv_imul hx hb dX4_put_92 ?_
            rw [m64l]
            refine w_istore hx hb dX4_put_93 hl (Nat.le_of_ble_eq_true rfl) (fun ls hl => ?_)
            refine lv_iconst (v := 0) hx hb dX4_put_95 (by decide) ?_
            refine w_istore hx hb dX4_put_96 hl (Nat.le_of_ble_eq_true rfl) (fun ls hl => ?_)
            obtain ⟨sc, esc⟩ : ∃ sc, sc = secN (a >>> ((1 : Int32) &&& 31)) := ⟨_, rfl⟩
            rw [← esc] at hl hs16
            by_cases c1 : a &&& 1 = 0
            · have loop : ∀ (d j : Nat), j + d = 64 → ∀ (H : Heap) (locs : List Loc) (ls : Array Slot), lo ls [some (.ref (X.1 40 i)), some (.int a), some (.int n), some (.int (nI (64 * sc))), some (.int (nI (64 * pl))), some (.int (nI j))] → Wd sz0 D cs s X (upr Z 41 i (blR (64 * pl) j (fun k => Z 42 i (64 * sc + k)) (Z 41 i))) Y H locs → W p l e ({ frames := 1, cells := 0, slots := 0, locals := 21 } : Room) s m ([.ref (X.1 40 i), .int a, .int n] : List Value).toArray below meth c H locs 0 0 (xQ below (CQ sz0 D cs (Pz X Y (fun Z' v => v = none ∧ BRr Z' i F (outS F g a n) ∧ SB Z i Z' ∧ Z' 40 i 17 = Z 40 i 17))) ([.ref (X.1 40 i), .int a, .int n] : List Value).toArray s (Asz sz0)) (F0 m 98 ls []) := by
                intro d
                induction d with
                | zero =>
                  intro j hj H locs ls hl hw
                  refine lv_iload hx hb dX4_put_98 (hl.at rfl) ?_
                  refine lv_bipush (v := 64) hx hb dX4_put_100 (by decide) ?_
                  refine lv_icmp_ge (tgt := 159) hx hb dX4_put_102 (by decide) (fun h102 => ?_) (fun h102 => ?_)
                  · have hjn : j = 64 := by omega
                    subst hjn
                    have hRx : BRr (upr Z 41 i (blR (64 * pl) 64 (fun k => Z 42 i (64 * sc + k)) (Z 41 i))) i F (diskS g a) := by
                      unfold diskS
                      rw [if_pos c1, ecl, ← esc]
                      refine BR_41r hR (fun k hk => ?_)
                      unfold blR
                      by_cases q : 64 * pl ≤ k ∧ k < 64 * pl + 64
                      · rw [if_pos q, if_pos q]; exact hR.2.2.1 _ (by omega)
                      · rw [if_neg q, if_neg q]; exact hR.2.1 k hk
                    exact w_vret C hw hr hlocks dX4_put_159 ⟨rfl, rfl, rfl, rfl, rfl, by rw [eO]; exact hRx, SB.refl.up (by decide) (by decide), by rw [upr_k (by decide)]⟩
                  · exact absurd (nI_le (show 64 ≤ j by omega) (by omega)) h102
                | succ d ih =>
                  intro j hj H locs ls hl hw
                  refine lv_iload hx hb dX4_put_98 (hl.at rfl) ?_
                  refine lv_bipush (v := 64) hx hb dX4_put_100 (by decide) ?_
                  refine lv_icmp_ge (tgt := 159) hx hb dX4_put_102 (by decide) (fun h102 => ?_) (fun h102 => ?_)
                  · exact absurd h102 (nI_ge (show j < 64 by omega) (by decide))
                  · refine lv_iload_n hx hb dX4_put_105 rfl (hl.at rfl) ?_
                    refine lv_iconst (v := 1) hx hb dX4_put_106 (by decide) ?_
                    refine lv_iand hx hb dX4_put_107 ?_
                    refine lv_iconst (v := 1) hx hb dX4_put_108 (by decide) ?_
                    refine lv_icmp_ne (tgt := 134) hx hb dX4_put_109 (by decide) (fun h109 => ?_) (fun h109 => ?_)
                    · refine lv_aload_n hx hb dX4_put_134 rfl (hl.at rfl) ?_
                      refine w_get C hw (c0 := 40) (i0 := i) rfl inA4 2 (by decide) mw75 rfl dX4_put_135 (hB 40 (by decide) (by decide)) rfl rfl rfl ?_
                      refine lv_iload hx hb dX4_put_138 (hl.at rfl) ?_
                      refine lv_iload hx hb dX4_put_140 (hl.at rfl) ?_
                      refine lv_iadd hx hb dX4_put_142 ?_
                      rw [nI_add]
                      refine lv_aload_n hx hb dX4_put_143 rfl (hl.at rfl) ?_
                      refine w_get C hw (c0 := 40) (i0 := i) rfl inA4 3 (by decide) mw76 rfl dX4_put_144 (hB 40 (by decide) (by decide)) rfl rfl rfl ?_
                      refine lv_iload_n hx hb dX4_put_147 rfl (hl.at rfl) ?_
                      refine lv_iload hx hb dX4_put_148 (hl.at rfl) ?_
                      refine lv_iadd hx hb dX4_put_150 ?_
                      rw [nI_add]
                      refine w_ild C hw (c0 := 42) (i0 := i) dX4_put_151 (hB 42 (by decide) (by decide)) rfl rfl (vp_in_nI (show 64 * sc + j < 1024 by omega) (by decide)) (nI_clamp (by omega)) ?_
                      refine w_ist C hw (c0 := 41) (i0 := i) dX4_put_152 (hB 41 (by decide) (by decide)) rfl (fun _ => rfl) (vp_in_nI (show 64 * pl + j < 4096 by omega) (by decide)) (nI_clamp (by omega)) (fun H locs hw => ?_)
                      refine w_iinc hx hb dX4_put_153 hl rfl rfl (fun ls hl => ?_)
                      refine lv_goto (tgt := 98) hx hb dX4_put_156 (by decide) ?_
                      refine ih (j + 1) (by omega) H locs ls (by rw [← nI_1]; exact hl) ?_
                      rw [upr_uu, upr_s, upr_k (by decide), blR_s (f := fun k => Z 42 i (64 * sc + k))] at hw
                      exact hw
                    · exact absurd (h109.symm.trans c1) (by decide)
              refine loop 64 0 (by decide) _ _ _ hl ?_
              rw [blR_0, upr_id]
              exact hw
            · have c11 : a &&& 1 = 1 := by
                rw [bit_of k_0] at c1 ⊢
                split at c1
                · rename_i q; rw [if_pos q]
                · exact absurd rfl c1
              have loop : ∀ (d j : Nat), j + d = 64 → ∀ (H : Heap) (locs : List Loc) (ls : Array Slot), lo ls [some (.ref (X.1 40 i)), some (.int a), some (.int n), some (.int (nI (64 * sc))), some (.int (nI (64 * pl))), some (.int (nI j))] → Wd sz0 D cs s X (upr Z 42 i (blR (64 * sc) j (fun k => Z 41 i (64 * pl + k)) (Z 42 i))) Y H locs → W p l e ({ frames := 1, cells := 0, slots := 0, locals := 21 } : Room) s m ([.ref (X.1 40 i), .int a, .int n] : List Value).toArray below meth c H locs 0 0 (xQ below (CQ sz0 D cs (Pz X Y (fun Z' v => v = none ∧ BRr Z' i F (outS F g a n) ∧ SB Z i Z' ∧ Z' 40 i 17 = Z 40 i 17))) ([.ref (X.1 40 i), .int a, .int n] : List Value).toArray s (Asz sz0)) (F0 m 98 ls []) := by
                intro d
                induction d with
                | zero =>
                  intro j hj H locs ls hl hw
                  refine lv_iload hx hb dX4_put_98 (hl.at rfl) ?_
                  refine lv_bipush (v := 64) hx hb dX4_put_100 (by decide) ?_
                  refine lv_icmp_ge (tgt := 159) hx hb dX4_put_102 (by decide) (fun h102 => ?_) (fun h102 => ?_)
                  · have hjn : j = 64 := by omega
                    subst hjn
                    have hRx : BRr (upr Z 42 i (blR (64 * sc) 64 (fun k => Z 41 i (64 * pl + k)) (Z 42 i))) i F (diskS g a) := by
                      unfold diskS
                      rw [if_neg c1, ecl, ← esc]
                      refine BR_42r hR (fun k hk => ?_)
                      unfold blR
                      by_cases q : 64 * sc ≤ k ∧ k < 64 * sc + 64
                      · rw [if_pos q, if_pos q]; exact hR.2.1 _ (by omega)
                      · rw [if_neg q, if_neg q]; exact hR.2.2.1 k hk
                    exact w_vret C hw hr hlocks dX4_put_159 ⟨rfl, rfl, rfl, rfl, rfl, by rw [eO]; exact hRx, SB.refl.up (by decide) (by decide), by rw [upr_k (by decide)]⟩
                  · exact absurd (nI_le (show 64 ≤ j by omega) (by omega)) h102
                | succ d ih =>
                  intro j hj H locs ls hl hw
                  refine lv_iload hx hb dX4_put_98 (hl.at rfl) ?_
                  refine lv_bipush (v := 64) hx hb dX4_put_100 (by decide) ?_
                  refine lv_icmp_ge (tgt := 159) hx hb dX4_put_102 (by decide) (fun h102 => ?_) (fun h102 => ?_)
                  · exact absurd h102 (nI_ge (show j < 64 by omega) (by decide))
                  · refine lv_iload_n hx hb dX4_put_105 rfl (hl.at rfl) ?_
                    refine lv_iconst (v := 1) hx hb dX4_put_106 (by decide) ?_
                    refine lv_iand hx hb dX4_put_107 ?_
                    refine lv_iconst (v := 1) hx hb dX4_put_108 (by decide) ?_
                    refine lv_icmp_ne (tgt := 134) hx hb dX4_put_109 (by decide) (fun h109 => ?_) (fun h109 => ?_)
                    · exact absurd c11 h109
                    · refine lv_aload_n hx hb dX4_put_112 rfl (hl.at rfl) ?_
                      refine w_get C hw (c0 := 40) (i0 := i) rfl inA4 3 (by decide) mw76 rfl dX4_put_113 (hB 40 (by decide) (by decide)) rfl rfl rfl ?_
                      refine lv_iload_n hx hb dX4_put_116 rfl (hl.at rfl) ?_
                      refine lv_iload hx hb dX4_put_117 (hl.at rfl) ?_
                      refine lv_iadd hx hb dX4_put_119 ?_
                      rw [nI_add]
                      refine lv_aload_n hx hb dX4_put_120 rfl (hl.at rfl) ?_
                      refine w_get C hw (c0 := 40) (i0 := i) rfl inA4 2 (by decide) mw75 rfl dX4_put_121 (hB 40 (by decide) (by decide)) rfl rfl rfl ?_
                      refine lv_iload hx hb dX4_put_124 (hl.at rfl) ?_
                      refine lv_iload hx hb dX4_put_126 (hl.at rfl) ?_
                      refine lv_iadd hx hb dX4_put_128 ?_
                      rw [nI_add]
                      refine w_ild C hw (c0 := 41) (i0 := i) dX4_put_129 (hB 41 (by decide) (by decide)) rfl rfl (vp_in_nI (show 64 * pl + j < 4096 by omega) (by decide)) (nI_clamp (by omega)) ?_
                      refine w_ist C hw (c0 := 42) (i0 := i) dX4_put_130 (hB 42 (by decide) (by decide)) rfl (fun _ => rfl) (vp_in_nI (show 64 * sc + j < 1024 by omega) (by decide)) (nI_clamp (by omega)) (fun H locs hw => ?_)
                      refine lv_goto (tgt := 153) hx hb dX4_put_131 (by decide) ?_
                      refine w_iinc hx hb dX4_put_153 hl rfl rfl (fun ls hl => ?_)
                      refine lv_goto (tgt := 98) hx hb dX4_put_156 (by decide) ?_
                      refine ih (j + 1) (by omega) H locs ls (by rw [← nI_1]; exact hl) ?_
                      rw [upr_uu, upr_s, upr_k (by decide), blR_s (f := fun k => Z 41 i (64 * pl + k))] at hw
                      exact hw
              refine loop 64 0 (by decide) _ _ _ hl ?_
              rw [blR_0, upr_id]
              exact hw
        · have ez : (if g 0 4 < 0 then (0 : Int32) else if nI F ≤ g 0 4 then 0 else 1) = 0 := by
            by_cases c : g 0 4 < 0
            · rw [if_pos c]
            · rw [if_neg c]; by_cases d : nI F ≤ g 0 4
              · rw [if_pos d]
              · exact absurd ⟨c, d⟩ cp
          rw [ez]
          refine lv_if_eq (tgt := 159) hx hb dX4_put_73 (by decide) (fun h73 => ?_) (fun h73 => ?_)
          · have eO : outS F g a n = g := by unfold outS; rw [if_neg h1, if_neg h46, if_neg (fun q => cp q.2)]
            exact w_vret C hw hr hlocks dX4_put_159 ⟨rfl, rfl, rfl, rfl, rfl, by rw [eO]; exact hR, SB.refl, rfl⟩
          · exact absurd rfl h73
    · refine lv_aload_n hx hb dX4_put_49 rfl (hl.at rfl) ?_
      refine lv_iload_n hx hb dX4_put_50 rfl (hl.at rfl) ?_
      refine w_put C hw (c0 := 40) (i0 := i) rfl inA4 tyX4_ok nmX4 13 (by decide) mw171 rfl rfl rfl dX4_put_51 (hB 40 (by decide) (by decide)) rfl rfl rfl rfl (Nat.le_of_ble_eq_true rfl) rfl (fun H locs hw => ?_)
      refine lv_goto (tgt := 159) hx hb dX4_put_54 (by decide) ?_
      have eO : outS F g a n = gu g 0 4 a := by unfold outS; rw [if_neg h1, if_pos h46]
      exact w_vret C hw hr hlocks dX4_put_159 ⟨rfl, rfl, rfl, rfl, rfl, by rw [eO]; exact BR_n hR rfl, SB.refl.u40 (by decide), by rw [upr_s, upd_n (by decide)]⟩
  · have eO : outS F g a n = putS g a := by unfold outS; rw [if_pos h1]
    refine lv_aload_n hx hb dX4_put_4 rfl (hl.at rfl) ?_
    refine w_get C hw (c0 := 40) (i0 := i) rfl inA4 15 (by decide) mw164 rfl dX4_put_5 (hB 40 (by decide) (by decide)) rfl rfl rfl ?_
    refine lv_if_lt (tgt := 31) hx hb dX4_put_8 (by decide) (fun h8 => ?_) (fun h8 => ?_)
    · refine lv_aload_n hx hb dX4_put_31 rfl (hl.at rfl) ?_
      refine lv_dup hx hb dX4_put_32 rfl ?_
      refine w_get C hw (c0 := 40) (i0 := i) rfl inA4 15 (by decide) mw164 rfl dX4_put_33 (hB 40 (by decide) (by decide)) rfl rfl rfl ?_
      refine lv_iconst (v := 1) hx hb dX4_put_36 (by decide) ?_
      refine lv_iadd hx hb dX4_put_37 ?_
      refine w_put C hw (c0 := 40) (i0 := i) rfl inA4 tyX4_ok nmX4 15 (by decide) mw164 rfl rfl rfl dX4_put_38 (hB 40 (by decide) (by decide)) rfl rfl rfl rfl (Nat.le_of_ble_eq_true rfl) rfl (fun H locs hw => ?_)
      refine lv_goto (tgt := 159) hx hb dX4_put_41 (by decide) ?_
      have hRx := BR_put (a := a) hR
      rw [if_pos (Or.inl h8)] at hRx
      exact w_vret C hw hr hlocks dX4_put_159 ⟨rfl, rfl, rfl, rfl, rfl, by rw [eO]; exact hRx, SB.refl.u40 (by decide), by rw [upr_s, upd_n (by decide)]⟩
    · refine lv_aload_n hx hb dX4_put_11 rfl (hl.at rfl) ?_
      refine w_get C hw (c0 := 40) (i0 := i) rfl inA4 15 (by decide) mw164 rfl dX4_put_12 (hB 40 (by decide) (by decide)) rfl rfl rfl ?_
      refine lv_sipush (v := 1000) hx hb dX4_put_15 (by decide) ?_
      refine lv_icmp_ge (tgt := 31) hx hb dX4_put_18 (by decide) (fun h18 => ?_) (fun h18 => ?_)
      · refine lv_aload_n hx hb dX4_put_31 rfl (hl.at rfl) ?_
        refine lv_dup hx hb dX4_put_32 rfl ?_
        refine w_get C hw (c0 := 40) (i0 := i) rfl inA4 15 (by decide) mw164 rfl dX4_put_33 (hB 40 (by decide) (by decide)) rfl rfl rfl ?_
        refine lv_iconst (v := 1) hx hb dX4_put_36 (by decide) ?_
        refine lv_iadd hx hb dX4_put_37 ?_
        refine w_put C hw (c0 := 40) (i0 := i) rfl inA4 tyX4_ok nmX4 15 (by decide) mw164 rfl rfl rfl dX4_put_38 (hB 40 (by decide) (by decide)) rfl rfl rfl rfl (Nat.le_of_ble_eq_true rfl) rfl (fun H locs hw => ?_)
        refine lv_goto (tgt := 159) hx hb dX4_put_41 (by decide) ?_
        have hRx := BR_put (a := a) hR
        rw [if_pos (Or.inr h18)] at hRx
        exact w_vret C hw hr hlocks dX4_put_159 ⟨rfl, rfl, rfl, rfl, rfl, by rw [eO]; exact hRx, SB.refl.u40 (by decide), by rw [upr_s, upd_n (by decide)]⟩
      · obtain ⟨on, hon, eon⟩ := putN h8 h18
        refine lv_aload_n hx hb dX4_put_21 rfl (hl.at rfl) ?_
        refine w_get C hw (c0 := 40) (i0 := i) rfl inA4 9 (by decide) mw82 rfl dX4_put_22 (hB 40 (by decide) (by decide)) rfl rfl rfl ?_
        refine lv_aload_n hx hb dX4_put_25 rfl (hl.at rfl) ?_
        refine w_get C hw (c0 := 40) (i0 := i) rfl inA4 15 (by decide) mw164 rfl dX4_put_26 (hB 40 (by decide) (by decide)) rfl rfl rfl ?_
        refine lv_iload_n hx hb dX4_put_29 rfl (hl.at rfl) ?_
        refine w_ist C hw (c0 := 48) (i0 := i) dX4_put_30 (hB 48 (by decide) (by decide)) rfl (fun _ => rfl) (by rw [eon]; exact vp_in_nI hon (by decide)) rfl (fun H locs hw => ?_)
        refine lv_aload_n hx hb dX4_put_31 rfl (hl.at rfl) ?_
        refine lv_dup hx hb dX4_put_32 rfl ?_
        refine w_get C hw (c0 := 40) (i0 := i) rfl inA4 15 (by decide) mw164 rfl dX4_put_33 (hB 40 (by decide) (by decide)) rfl rfl rfl ?_
        refine lv_iconst (v := 1) hx hb dX4_put_36 (by decide) ?_
        refine lv_iadd hx hb dX4_put_37 ?_
        refine w_put C hw (c0 := 40) (i0 := i) rfl inA4 tyX4_ok nmX4 15 (by decide) mw164 rfl rfl rfl dX4_put_38 (hB 40 (by decide) (by decide)) rfl rfl rfl rfl (Nat.le_of_ble_eq_true rfl) rfl (fun H locs hw => ?_)
        refine lv_goto (tgt := 159) hx hb dX4_put_41 (by decide) ?_
        have hRx := BR_put (a := a) hR
        rw [if_neg (fun q => q.elim h8 h18)] at hRx
        rw [upr_k (show (40 : Nat) ≠ 48 by decide)] at hw
        exact w_vret C hw hr hlocks dX4_put_159 ⟨rfl, rfl, rfl, rfl, rfl, by rw [eO]; exact hRx, SB.trans (SB.refl.up (c := 48) (f := upd (Z 48 i) (Z 40 i 15).toNatClampNeg a) (by decide) (by decide)) (by have := SB.u40 (Z := upr Z 48 i (upd (Z 48 i) (Z 40 i 15).toNatClampNeg a)) (i := i) (k := 15) (x := Z 40 i 15 + 1) SB.refl (by decide); rw [upr_k (show (40 : Nat) ≠ 48 by decide)] at this; exact this), by rw [upr_s, upd_n (by decide)]⟩
