set_option maxHeartbeats 4000000 in
set_option maxRecDepth 100000 in
theorem c_X5_turn (l : Launch) (sz0 : Nat) (D : va_G) (cs : Nat → ClassId) (X : Sh) (Z : ZT) (Y : va_W) (S : HS) (hS : HOK S) (hMX : MRx X) (hMR : MR Z S) : Ctr l yX5_turn (wsM yX5_turn cX5_turn 3 (some .boolean)) ({ frames := 7, cells := 0, slots := 0, locals := 166 } : Room) sz0 D cs [.ref (X.1 30 0)] X Z Y (Pz X Y (fun Z' v => v = some (.int (if (turnS S).2 = true then 1 else 0)) ∧ MR Z' (addSt (turnS S).1 (if (turnS S).2 = true then 1 else 0)) ∧ FM Z Z')) := by
  refine Ctr.ofW (by decide +kernel) (by intro v hv; simp at hv; rcases hv with rfl <;> rfl) (Nat.le_of_ble_eq_true rfl) ?_
  intro p e s m below meth c ls C hr hlocks hname hl hN hw
  obtain ⟨hx, hb, hml, hown, hts⟩ := id C
  have hM := hMX.1
  obtain ⟨cu, hc, ec⟩ := hS.2.1
  obtain ⟨m1, m2, m3, m4⟩ := hMR.1
  rw [ec] at m2
  have k72 : ∀ (Z1 : ZT) (S1 : HS) (i : Nat) (x1 x2 : Option Value) (H : Heap) (locs : List Loc) (ls : Array Slot), lo ls [some (.ref (X.1 30 0)), x1, x2] → i < 8 → S1.1 i ≠ 0 → HOK S1 → MR Z1 S1 → FM Z Z1 → S1.2.2 1 = nI i → turnS S = (stp1 (S1.1, S1.2.1, upd S1.2.2 2 (S1.2.2 2 - 1)) i, true) → Wd sz0 D cs s X Z1 Y H locs → W p l e ({ frames := 7, cells := 0, slots := 0, locals := 166 } : Room) s m ([.ref (X.1 30 0)] : List Value).toArray below meth c H locs 0 0 (xQ below (CQ sz0 D cs (Pz X Y (fun Z' v => v = some (.int (if (turnS S).2 = true then 1 else 0)) ∧ MR Z' (addSt (turnS S).1 (if (turnS S).2 = true then 1 else 0)) ∧ FM Z Z'))) ([.ref (X.1 30 0)] : List Value).toArray s (Asz sz0)) (F0 m 72 ls []) := by
    intro Z1 S1 i x1 x2 H locs ls hl hi h0 hS1 hMR1 hFM hcur hT hw
    have hB := hMX.2.1 i hi
    obtain ⟨n1, n2, n3, n4⟩ := hMR1.1
    have hR := ((hMR1.2 i hi).2 h0).2
    refine lv_aload_n hx hb dX5_turn_72 rfl (hl.at rfl) ?_
    refine w_get C hw (c0 := 30) (i0 := 0) rfl inA5 0 (by decide) mw67 rfl dX5_turn_73 (hM 30 (by decide) (by decide)) rfl rfl rfl ?_
    refine lv_aload_n hx hb dX5_turn_76 rfl (hl.at rfl) ?_
    refine w_get C hw (c0 := 30) (i0 := 0) rfl inA5 2 (by decide) mw69 rfl dX5_turn_77 (hM 30 (by decide) (by decide)) rfl rfl rfl ?_
    rw [n2, hcur]
    refine w_ald C hw (c0 := 31) (i0 := 0) (t := 3) dX5_turn_80 (hM 31 (by decide) (by decide)) rfl rfl rfl (vp_in_nI hi (by decide)) (nI_clamp (by omega)) ?_
    rw [arefM (hMX.2.2 i hi)]
    refine w_callV C hN hw (c_X4_step l sz0 D cs X _ Y i hB (S1.1 i) (S1.2.1 i) (hS1.1 i hi).1 hR ((hS1.1 i hi).2 h0)) ⟨(Nat.le_of_ble_eq_true rfl), (Nat.le_of_ble_eq_true rfl), mw456, mw71, cy_X4_step⟩ mw453 mw454 mw455 (w_rec hw (c0 := 40) (i0 := i) (hB 40 (by decide) (by decide)) rfl rfl) rfl hl.1.1 rfl (Nat.le_of_ble_eq_true rfl) dX5_turn_81 ⟨Nat.le_of_ble_eq_true rfl, Nat.le_of_ble_eq_true rfl⟩ (fun X' Z' Y' v k n H locs hp hw => ?_)
    obtain ⟨rfl, rfl, rfl, rfl, rfl, hR2, hSB⟩ := hp
    refine lv_aload_n hx hb dX5_turn_84 rfl (hl.at rfl) ?_
    refine lv_dup hx hb dX5_turn_85 rfl ?_
    refine w_get C hw (c0 := 30) (i0 := 0) rfl inA5 4 (by decide) mw93 rfl dX5_turn_86 (hM 30 (by decide) (by decide)) rfl rfl rfl ?_
    rw [hSB.1 30 0 (by omega), n4]
    refine lv_iconst (v := 1) hx hb dX5_turn_89 (by decide) ?_
    refine lv_iadd hx hb dX5_turn_90 ?_
    refine w_put C hw (c0 := 30) (i0 := 0) rfl inA5 tyX5_ok nmX5 4 (by decide) mw93 rfl rfl rfl dX5_turn_91 (hM 30 (by decide) (by decide)) rfl rfl rfl rfl (Nat.le_of_ble_eq_true rfl) rfl (fun H locs hw => ?_)
    refine lv_aload_n hx hb dX5_turn_94 rfl (hl.at rfl) ?_
    refine lv_dup hx hb dX5_turn_95 rfl ?_
    refine w_get C hw (c0 := 30) (i0 := 0) rfl inA5 3 (by decide) mw92 rfl dX5_turn_96 (hM 30 (by decide) (by decide)) rfl rfl rfl ?_
    rw [upr_s, upd_n (show (3 : Nat) ≠ 4 by decide), hSB.1 30 0 (by omega), n3]
    refine lv_iconst (v := 1) hx hb dX5_turn_99 (by decide) ?_
    refine lv_isub hx hb dX5_turn_100 ?_
    refine w_put C hw (c0 := 30) (i0 := 0) rfl inA5 tyX5_ok nmX5 3 (by decide) mw92 rfl rfl rfl dX5_turn_101 (hM 30 (by decide) (by decide)) rfl rfl rfl rfl (Nat.le_of_ble_eq_true rfl) rfl (fun H locs hw => ?_)
    refine lv_iconst (v := 1) hx hb dX5_turn_104 (by decide) ?_
    simp only [upr_uu, upr_s] at hw
    have hM2 := MR_set hMR1 h0 hi hSB hR2
    exact w_zret C hw hr hlocks dX5_turn_105 (by decide) ⟨rfl, rfl, rfl, rfl, by rw [hT]; rfl, by rw [hT]; show MR _ ((setM S1 i (stepS (S1.1 i) (S1.2.1 i))).1, (setM S1 i (stepS (S1.1 i) (S1.2.1 i))).2.1, upd (upd S1.2.2 2 (S1.2.2 2 - 1)) 3 (upd S1.2.2 2 (S1.2.2 2 - 1) 3 + 1)); exact MR_num hM2 (by rw [hSB.1 30 0 (by omega)]; simp [upd, n1, n2]), (hFM.sb hSB).up (by decide)⟩
  have k18 : ∀ (H : Heap) (locs : List Loc) (ls : Array Slot), lo ls [some (.ref (X.1 30 0)), none, none] → ¬ (¬ S.2.2 2 = 0 ∧ runs S cu = true) → Wd sz0 D cs s X Z Y H locs → W p l e ({ frames := 7, cells := 0, slots := 0, locals := 166 } : Room) s m ([.ref (X.1 30 0)] : List Value).toArray below meth c H locs 0 0 (xQ below (CQ sz0 D cs (Pz X Y (fun Z' v => v = some (.int (if (turnS S).2 = true then 1 else 0)) ∧ MR Z' (addSt (turnS S).1 (if (turnS S).2 = true then 1 else 0)) ∧ FM Z Z'))) ([.ref (X.1 30 0)] : List Value).toArray s (Asz sz0)) (F0 m 18 ls []) := by
    intro H locs ls hl hno hw
    have hT : turnS S = if srch S cu 8 1 = 9 then (S, false) else (stp1 (S.1, S.2.1, upd (upd S.2.2 1 (nI ((cu + srch S cu 8 1) % 8))) 2 (S.2.2 0 - 1)) ((cu + srch S cu 8 1) % 8), true) := by
      unfold turnS; rw [ec, nI_clamp (by omega), if_neg hno]
    have k49 : ∀ (j : Nat) (H : Heap) (locs : List Loc) (ls : Array Slot), lo ls [some (.ref (X.1 30 0)), some (.int (nI ((cu + j) % 8))), some (.int (nI j))] → 1 ≤ j → j ≤ 8 → (runs S ((cu + j) % 8) = true → srch S cu 8 1 = j) → (runs S ((cu + j) % 8) = false → srch S cu 8 1 = 9) → Wd sz0 D cs s X Z Y H locs → W p l e ({ frames := 7, cells := 0, slots := 0, locals := 166 } : Room) s m ([.ref (X.1 30 0)] : List Value).toArray below meth c H locs 0 0 (xQ below (CQ sz0 D cs (Pz X Y (fun Z' v => v = some (.int (if (turnS S).2 = true then 1 else 0)) ∧ MR Z' (addSt (turnS S).1 (if (turnS S).2 = true then 1 else 0)) ∧ FM Z Z'))) ([.ref (X.1 30 0)] : List Value).toArray s (Asz sz0)) (F0 m 49 ls []) := by
      intro j H locs ls hl hj1 hj8 hy hn hw
      have hi : (cu + j) % 8 < 8 := Nat.mod_lt _ (by decide)
      refine lv_aload_n hx hb dX5_turn_49 rfl (hl.at rfl) ?_
      refine lv_iload_n hx hb dX5_turn_50 rfl (hl.at rfl) ?_
      refine w_callV C hN hw (c_X5_isRunning l sz0 D cs X _ Y S hS hMX hMR ((cu + j) % 8) hi) ⟨(Nat.le_of_ble_eq_true rfl), (Nat.le_of_ble_eq_true rfl), mw452, mw6, cy_X5_isRunning⟩ mw449 mw450 mw451 (w_rec hw (c0 := 30) (i0 := 0) (hM 30 (by decide) (by decide)) rfl rfl) rfl hl.1.1 rfl (Nat.le_of_ble_eq_true rfl) dX5_turn_51 ⟨Nat.le_of_ble_eq_true rfl, Nat.le_of_ble_eq_true rfl⟩ (fun X' Z' Y' v k n H locs hp hw => ?_)
      obtain ⟨rfl, rfl, rfl, rfl, rfl, rfl⟩ := hp
      by_cases r : runs S ((cu + j) % 8) = true
      · have es := hy r
        rw [if_pos r]
        refine lv_if_ne (tgt := 59) hx hb dX5_turn_54 (by decide) (fun h54 => ?_) (fun h54 => ?_)
        · refine lv_aload_n hx hb dX5_turn_59 rfl (hl.at rfl) ?_
          refine lv_iload_n hx hb dX5_turn_60 rfl (hl.at rfl) ?_
          refine w_put C hw (c0 := 30) (i0 := 0) rfl inA5 tyX5_ok nmX5 2 (by decide) mw69 rfl rfl rfl dX5_turn_61 (hM 30 (by decide) (by decide)) rfl rfl rfl rfl (Nat.le_of_ble_eq_true rfl) rfl (fun H locs hw => ?_)
          refine lv_aload_n hx hb dX5_turn_64 rfl (hl.at rfl) ?_
          refine lv_aload_n hx hb dX5_turn_65 rfl (hl.at rfl) ?_
          refine w_get C hw (c0 := 30) (i0 := 0) rfl inA5 1 (by decide) mw68 rfl dX5_turn_66 (hM 30 (by decide) (by decide)) rfl rfl rfl ?_
          rw [upr_s, upd_n (show (1 : Nat) ≠ 2 by decide), m1]
          refine w_put C hw (c0 := 30) (i0 := 0) rfl inA5 tyX5_ok nmX5 3 (by decide) mw92 rfl rfl rfl dX5_turn_69 (hM 30 (by decide) (by decide)) rfl rfl rfl rfl (Nat.le_of_ble_eq_true rfl) rfl (fun H locs hw => ?_)
          simp only [upr_uu, upr_s] at hw
          rw [es, if_neg (by omega)] at hT
          refine k72 _ (S.1, S.2.1, upd (upd S.2.2 1 (nI ((cu + j) % 8))) 2 (S.2.2 0)) ((cu + j) % 8) _ _ _ _ _ hl hi (runs_of r).1 (HOK_num hS ⟨_, hi, by rw [upd_n (by decide), upd_s]⟩ (by obtain ⟨y, -, hy, ey⟩ := hS.2.2.2; exact ⟨y, hy, by rw [upd_s]; exact ey⟩) (by rw [upd_n (by decide), upd_n (by decide)])) (MR_num hMR (by simp [upd, m1, m4])) (FM.refl.up (by decide)) (by show upd (upd S.2.2 1 (nI ((cu + j) % 8))) 2 (S.2.2 0) 1 = nI ((cu + j) % 8); rw [upd_n (by decide), upd_s]) ?_ hw
          show turnS S = (stp1 (S.1, S.2.1, upd (upd (upd S.2.2 1 (nI ((cu + j) % 8))) 2 (S.2.2 0)) 2 (upd (upd S.2.2 1 (nI ((cu + j) % 8))) 2 (S.2.2 0) 2 - 1)) ((cu + j) % 8), true)
          rw [hT, upd_uu, upd_s]
        · exact absurd h54 (by decide)
      · have es := hn (Bool.eq_false_iff.mpr r)
        rw [if_neg r]
        refine lv_if_ne (tgt := 59) hx hb dX5_turn_54 (by decide) (fun h54 => ?_) (fun h54 => ?_)
        · exact absurd rfl h54
        · rw [es, if_pos rfl] at hT
          refine lv_iconst (v := 0) hx hb dX5_turn_57 (by decide) ?_
          exact w_zret C hw hr hlocks dX5_turn_58 (by decide) ⟨rfl, rfl, rfl, rfl, by rw [hT]; rfl, by rw [hT]; show MR Z (S.1, S.2.1, upd S.2.2 3 (S.2.2 3 + 0)); rw [Int32.add_zero, upd_id]; exact hMR, FM.refl⟩
    have loop : ∀ (d j : Nat), j + d = 7 → ∀ (H : Heap) (locs : List Loc) (ls : Array Slot), lo ls [some (.ref (X.1 30 0)), some (.int (nI ((cu + j) % 8))), some (.int (nI j))] → srch S cu 8 1 = srch S cu (d + 1) (j + 1) → Wd sz0 D cs s X Z Y H locs → W p l e ({ frames := 7, cells := 0, slots := 0, locals := 166 } : Room) s m ([.ref (X.1 30 0)] : List Value).toArray below meth c H locs 0 0 (xQ below (CQ sz0 D cs (Pz X Y (fun Z' v => v = some (.int (if (turnS S).2 = true then 1 else 0)) ∧ MR Z' (addSt (turnS S).1 (if (turnS S).2 = true then 1 else 0)) ∧ FM Z Z'))) ([.ref (X.1 30 0)] : List Value).toArray s (Asz sz0)) (F0 m 25 ls []) := by
      intro d
      induction d with
      | zero =>
          intro j hj H locs ls hl hs hw
          refine lv_iload_n hx hb dX5_turn_25 rfl (hl.at rfl) ?_
          refine lv_iconst (v := 1) hx hb dX5_turn_26 (by decide) ?_
          refine lv_iadd hx hb dX5_turn_27 ?_
          refine lv_bipush (v := 8) hx hb dX5_turn_28 (by decide) ?_
          refine lv_irem hx hb dX5_turn_30 (by decide) ?_
          refine lv_topi (fun y ey => ?_)
          obtain rfl : y = nI ((cu + (j + 1)) % 8) := ey.trans (by rw [nI_1, rem8 (by omega)]; congr 1; omega)
          refine w_istore_n hx hb dX5_turn_31 rfl hl (Nat.le_of_ble_eq_true rfl) (fun ls hl => ?_)
          refine w_iinc hx hb dX5_turn_32 hl rfl rfl (fun ls hl => ?_)
          refine lv_iload_n hx hb dX5_turn_35 rfl (hl.at rfl) ?_
          refine lv_bipush (v := 8) hx hb dX5_turn_36 (by decide) ?_
          refine lv_icmp_ge (tgt := 49) hx hb dX5_turn_38 (by decide) (fun h38 => ?_) (fun h38 => ?_)
          · refine k49 (j + 1) _ _ _ (by rw [← nI_1 j]; exact hl) (by omega) (by omega) (fun r => ?_) (fun r => ?_) hw
            · rw [show srch S cu 8 1 = if runs S ((cu + (j + 1)) % 8) = true then j + 1 else j + 1 + 1 from hs, if_pos r]
            · rw [show srch S cu 8 1 = if runs S ((cu + (j + 1)) % 8) = true then j + 1 else j + 1 + 1 from hs, if_neg (by rw [r]; decide)]; omega
          · exact absurd (show (8 : Int32) ≤ nI j + 1 by rw [nI_1]; exact nI_le (a := 8) (show 8 ≤ j + 1 by omega) (by omega)) h38
      | succ d ih =>
          intro j hj H locs ls hl hs hw
          refine lv_iload_n hx hb dX5_turn_25 rfl (hl.at rfl) ?_
          refine lv_iconst (v := 1) hx hb dX5_turn_26 (by decide) ?_
          refine lv_iadd hx hb dX5_turn_27 ?_
          refine lv_bipush (v := 8) hx hb dX5_turn_28 (by decide) ?_
          refine lv_irem hx hb dX5_turn_30 (by decide) ?_
          refine lv_topi (fun y ey => ?_)
          obtain rfl : y = nI ((cu + (j + 1)) % 8) := ey.trans (by rw [nI_1, rem8 (by omega)]; congr 1; omega)
          refine w_istore_n hx hb dX5_turn_31 rfl hl (Nat.le_of_ble_eq_true rfl) (fun ls hl => ?_)
          refine w_iinc hx hb dX5_turn_32 hl rfl rfl (fun ls hl => ?_)
          refine lv_iload_n hx hb dX5_turn_35 rfl (hl.at rfl) ?_
          refine lv_bipush (v := 8) hx hb dX5_turn_36 (by decide) ?_
          refine lv_icmp_ge (tgt := 49) hx hb dX5_turn_38 (by decide) (fun h38 => ?_) (fun h38 => ?_)
          · exact absurd (show (8 : Int32) ≤ nI j + 1 from h38) (by rw [nI_1]; exact nI_ge (b := 8) (show j + 1 < 8 by omega) (by decide))
          · refine lv_aload_n hx hb dX5_turn_41 rfl (hl.at rfl) ?_
            refine lv_iload_n hx hb dX5_turn_42 rfl (hl.at rfl) ?_
            refine w_callV C hN hw (c_X5_isRunning l sz0 D cs X _ Y S hS hMX hMR ((cu + (j + 1)) % 8) (Nat.mod_lt _ (by decide))) ⟨(Nat.le_of_ble_eq_true rfl), (Nat.le_of_ble_eq_true rfl), mw452, mw6, cy_X5_isRunning⟩ mw449 mw450 mw451 (w_rec hw (c0 := 30) (i0 := 0) (hM 30 (by decide) (by decide)) rfl rfl) rfl hl.1.1 rfl (Nat.le_of_ble_eq_true rfl) dX5_turn_43 ⟨Nat.le_of_ble_eq_true rfl, Nat.le_of_ble_eq_true rfl⟩ (fun X' Z' Y' v k n H locs hp hw => ?_)
            obtain ⟨rfl, rfl, rfl, rfl, rfl, rfl⟩ := hp
            have hs2 : srch S cu 8 1 = if runs S ((cu + (j + 1)) % 8) = true then j + 1 else srch S cu (d + 1) (j + 1 + 1) := hs
            by_cases r : runs S ((cu + (j + 1)) % 8) = true
            · rw [if_pos r]
              refine lv_if_eq (tgt := 25) hx hb dX5_turn_46 (by decide) (fun h46 => ?_) (fun h46 => ?_)
              · exact absurd h46 (by decide)
              · refine k49 (j + 1) _ _ _ (by rw [← nI_1 j]; exact hl) (by omega) (by omega) (fun _ => ?_) (fun q => absurd r (by rw [q]; decide)) hw
                rw [hs2, if_pos r]
            · rw [if_neg r]
              refine lv_if_eq (tgt := 25) hx hb dX5_turn_46 (by decide) (fun h46 => ?_) (fun h46 => ?_)
              · refine ih (j + 1) (by omega) _ _ _ (by rw [← nI_1 j]; exact hl) ?_ hw
                rw [hs2, if_neg r]
              · exact absurd rfl h46
    refine lv_aload_n hx hb dX5_turn_18 rfl (hl.at rfl) ?_
    refine w_get C hw (c0 := 30) (i0 := 0) rfl inA5 2 (by decide) mw69 rfl dX5_turn_19 (hM 30 (by decide) (by decide)) rfl rfl rfl ?_
    rw [m2]
    refine w_istore_n hx hb dX5_turn_22 rfl hl (Nat.le_of_ble_eq_true rfl) (fun ls hl => ?_)
    refine lv_iconst (v := 0) hx hb dX5_turn_23 (by decide) ?_
    refine w_istore_n hx hb dX5_turn_24 rfl hl (Nat.le_of_ble_eq_true rfl) (fun ls hl => ?_)
    exact loop 7 0 (by decide) _ _ _ (by rw [Nat.add_zero, Nat.mod_eq_of_lt hc]; exact hl) rfl hw
  refine lv_aload_n hx hb dX5_turn_0 rfl (hl.at rfl) ?_
  refine w_get C hw (c0 := 30) (i0 := 0) rfl inA5 3 (by decide) mw92 rfl dX5_turn_1 (hM 30 (by decide) (by decide)) rfl rfl rfl ?_
  rw [m3]
  refine lv_if_eq (tgt := 18) hx hb dX5_turn_4 (by decide) (fun h4 => ?_) (fun h4 => ?_)
  · exact k18 _ _ _ hl (fun q => q.1 h4) hw
  · refine lv_aload_n hx hb dX5_turn_7 rfl (hl.at rfl) ?_
    refine lv_aload_n hx hb dX5_turn_8 rfl (hl.at rfl) ?_
    refine w_get C hw (c0 := 30) (i0 := 0) rfl inA5 2 (by decide) mw69 rfl dX5_turn_9 (hM 30 (by decide) (by decide)) rfl rfl rfl ?_
    rw [m2]
    refine w_callV C hN hw (c_X5_isRunning l sz0 D cs X _ Y S hS hMX hMR cu hc) ⟨(Nat.le_of_ble_eq_true rfl), (Nat.le_of_ble_eq_true rfl), mw452, mw6, cy_X5_isRunning⟩ mw449 mw450 mw451 (w_rec hw (c0 := 30) (i0 := 0) (hM 30 (by decide) (by decide)) rfl rfl) rfl hl.1.1 rfl (Nat.le_of_ble_eq_true rfl) dX5_turn_12 ⟨Nat.le_of_ble_eq_true rfl, Nat.le_of_ble_eq_true rfl⟩ (fun X' Z' Y' v k n H locs hp hw => ?_)
    obtain ⟨rfl, rfl, rfl, rfl, rfl, rfl⟩ := hp
    by_cases r : runs S cu = true
    · rw [if_pos r]
      refine lv_if_ne (tgt := 72) hx hb dX5_turn_15 (by decide) (fun h15 => ?_) (fun h15 => ?_)
      · refine k72 Z S cu _ _ _ _ _ hl hc (runs_of r).1 hS hMR FM.refl ec ?_ hw
        unfold turnS; rw [ec, nI_clamp (by omega), if_pos ⟨h4, r⟩]
      · exact absurd h15 (by decide)
    · rw [if_neg r]
      refine lv_if_ne (tgt := 72) hx hb dX5_turn_15 (by decide) (fun h15 => ?_) (fun h15 => ?_)
      · exact absurd rfl h15
      · exact k18 _ _ _ hl (fun q => r q.2) hw
