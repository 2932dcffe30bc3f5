/-! ===== GuestHouse: turns ===== -/

set_option maxHeartbeats 4000000 in
set_option maxRecDepth 100000 in
theorem c_X3_nextTurn (l : Launch) (sz0 : Nat) (D : va_G) (cs : Nat → ClassId) (X : Sh) (Z : ZT) (Y : va_W) (S : HS) (hS : HOK S) (hCX : CRx X) (h gp : Nat) (hCR : CR X Z S h gp) : Ctr l yX3_nextTurn (wsM yX3_nextTurn cX3_nextTurn 4 (some (.object "GuestHouse$Guest"))) ({ frames := 1, cells := 0, slots := 0, locals := 22 } : Room) sz0 D cs [.ref (X.1 0 0)] X Z Y (Pz X Y (fun Z' v => (∀ c i, 30 ≤ c → Z' c i = Z c i) ∧ ((∃ i f, i < 8 ∧ S.1 i ≠ 0 ∧ v = some (.ref (X.1 20 i)) ∧ CR X Z' (S.1, S.2.1, f) h gp ∧ turnS S = (stp1 (S.1, S.2.1, upd f 2 (f 2 - 1)) i, true)) ∨ (v = some .null ∧ Z' = Z ∧ turnS S = (S, false))))) := by
  refine Ctr.ofW (by decide +kernel) (by intro v hv; simp at hv; rcases hv with rfl <;> rfl) (Nat.le_of_ble_eq_true rfl) ?_
  intro p e s m below meth c ls C hr hlocks hname hl hN hw
  obtain ⟨hx, hb, hml, hown, hts⟩ := id C
  have hX := hCX.1
  have hU := hCX.2.1.1
  obtain ⟨cu, hc, ec⟩ := hS.2.1
  obtain ⟨xl, hxl, ex⟩ := hS.2.2.1
  obtain ⟨m1, m2, m3, m4⟩ := hCR.2.1
  rw [ec] at m2
  have k30 : ¬ (¬ S.2.2 2 = 0 ∧ runs S cu = true) → ∀ (x1 : Option Value) (H : Heap) (locs : List Loc) (ls : Array Slot), lo ls [some (.ref (X.1 0 0)), x1, none, none] → Wd sz0 D cs s X Z Y H locs → W p l e ({ frames := 1, cells := 0, slots := 0, locals := 22 } : Room) s m ([.ref (X.1 0 0)] : List Value).toArray below meth c H locs 0 0 (xQ below (CQ sz0 D cs (Pz X Y (fun Z' v => (∀ c i, 30 ≤ c → Z' c i = Z c i) ∧ ((∃ i f, i < 8 ∧ S.1 i ≠ 0 ∧ v = some (.ref (X.1 20 i)) ∧ CR X Z' (S.1, S.2.1, f) h gp ∧ turnS S = (stp1 (S.1, S.2.1, upd f 2 (f 2 - 1)) i, true)) ∨ (v = some .null ∧ Z' = Z ∧ turnS S = (S, false)))))) ([.ref (X.1 0 0)] : List Value).toArray s (Asz sz0)) (F0 m 30 ls []) := by
    intro hno x1 H locs ls hl hw
    have hT : turnS S = if srch S cu 8 1 = 9 then (S, false) else (stp1 (S.1, S.2.1, upd (upd S.2.2 1 (nI ((cu + srch S cu 8 1) % 8))) 2 (S.2.2 0 - 1)) ((cu + srch S cu 8 1) % 8), true) := by
      unfold turnS; rw [ec, nI_clamp (by omega), if_neg hno]
    have loop : ∀ (d j : Nat), j + d = 9 → 1 ≤ j → ∀ (x1 x3 : Option Value) (H : Heap) (locs : List Loc) (ls : Array Slot), lo ls [some (.ref (X.1 0 0)), x1, some (.int (nI j)), x3] → srch S cu 8 1 = srch S cu d j → Wd sz0 D cs s X Z Y H locs → W p l e ({ frames := 1, cells := 0, slots := 0, locals := 22 } : Room) s m ([.ref (X.1 0 0)] : List Value).toArray below meth c H locs 0 0 (xQ below (CQ sz0 D cs (Pz X Y (fun Z' v => (∀ c i, 30 ≤ c → Z' c i = Z c i) ∧ ((∃ i f, i < 8 ∧ S.1 i ≠ 0 ∧ v = some (.ref (X.1 20 i)) ∧ CR X Z' (S.1, S.2.1, f) h gp ∧ turnS S = (stp1 (S.1, S.2.1, upd f 2 (f 2 - 1)) i, true)) ∨ (v = some .null ∧ Z' = Z ∧ turnS S = (S, false)))))) ([.ref (X.1 0 0)] : List Value).toArray s (Asz sz0)) (F0 m 32 ls []) := by
      intro d
      induction d with
      | zero =>
          intro j hj hj1 x1 x3 H locs ls hl hs hw
          refine lv_iload_n hx hb dX3_nextTurn_32 rfl (hl.at rfl) ?_
          refine lv_bipush (v := 8) hx hb dX3_nextTurn_33 (by decide) ?_
          refine lv_icmp_gt (tgt := 87) hx hb dX3_nextTurn_35 (by decide) (fun h35 => ?_) (fun h35 => ?_)
          · have es : srch S cu 8 1 = 9 := hs.trans (by show j = 9; omega)
            rw [if_pos es] at hT
            refine lv_null hx hb dX3_nextTurn_87 ?_
            exact w_aret C hw hr (Or.inl ⟨_, rfl⟩) (Or.inl rfl) hlocks dX3_nextTurn_88 ⟨rfl, rfl, rfl, rfl, fun _ _ _ => rfl, Or.inr ⟨rfl, rfl, hT⟩⟩
          · exact absurd (nI_lt (show 8 < j by omega) (by omega)) h35
      | succ d ih =>
          intro j hj hj1 x1 x3 H locs ls hl hs hw
          refine lv_iload_n hx hb dX3_nextTurn_32 rfl (hl.at rfl) ?_
          refine lv_bipush (v := 8) hx hb dX3_nextTurn_33 (by decide) ?_
          refine lv_icmp_gt (tgt := 87) hx hb dX3_nextTurn_35 (by decide) (fun h35 => ?_) (fun h35 => ?_)
          · exact absurd (nI_le (a := j) (b := 8) (by omega) (by decide)) (Int32.not_le.mpr h35)
          · have hs2 : srch S cu 8 1 = if runs S ((cu + j) % 8) = true then j else srch S cu d (j + 1) := hs
            refine lv_aload_n hx hb dX3_nextTurn_38 rfl (hl.at rfl) ?_
            refine w_get C hw (c0 := 0) (i0 := 0) rfl inA3 4 (by decide) mw47 rfl dX3_nextTurn_39 (hX 0 (by decide)) rfl rfl rfl ?_
            rw [m2]
            refine lv_iload_n hx hb dX3_nextTurn_42 rfl (hl.at rfl) ?_
            refine lv_iadd hx hb dX3_nextTurn_43 ?_
            refine lv_bipush (v := 8) hx hb dX3_nextTurn_44 (by decide) ?_
            refine lv_irem hx hb dX3_nextTurn_46 (by decide) ?_
            refine lv_topi (fun y ey => ?_)
            obtain rfl : y = nI ((cu + j) % 8) := ey.trans (by rw [nI_add, rem8 (by omega)])
            refine w_istore_n hx hb dX3_nextTurn_47 rfl hl (Nat.le_of_ble_eq_true rfl) (fun ls hl => ?_)
            refine lv_aload_n hx hb dX3_nextTurn_48 rfl (hl.at rfl) ?_
            refine lv_iload_n hx hb dX3_nextTurn_49 rfl (hl.at rfl) ?_
            refine w_callV C hN hw (c_X3_find l sz0 D cs X _ Y S hS hCX h gp hCR (nI ((cu + j) % 8))) ⟨(Nat.le_of_ble_eq_true rfl), (Nat.le_of_ble_eq_true rfl), mw105, mw3, cy_X3_find⟩ mw102 mw103 mw104 (w_rec hw (c0 := 0) (i0 := 0) (hX 0 (by decide)) rfl rfl) rfl hl.1.1 rfl (Nat.le_of_ble_eq_true rfl) dX3_nextTurn_50 ⟨Nat.le_of_ble_eq_true rfl, Nat.le_of_ble_eq_true rfl⟩ (fun X' Z' Y' v k n H locs hp hw => ?_)
            obtain ⟨rfl, rfl, rfl, rfl, rfl, hp⟩ := hp
            rcases hp with ⟨i, hi, ei, h0, rfl⟩ | ⟨hn, rfl⟩
            · obtain ⟨hmd, hh1, hF6, hR⟩ := (hCR.2.2 i hi).2 h0
              have hG := hCX.2.2 i hi hmd
              have eij : (cu + j) % 8 = i := nI_inj (by omega) (by omega) ei
              refine w_astore_n hx hb dX3_nextTurn_53 rfl hl (Nat.le_of_ble_eq_true rfl) (fun ls hl => ?_)
              refine lv_aload_n hx hb dX3_nextTurn_54 rfl (hl.at rfl) ?_
              refine lv_ifnull hx hb dX3_nextTurn_55 ?_
              refine lv_aload_n hx hb dX3_nextTurn_58 rfl (hl.at rfl) ?_
              refine w_getN C hN hw (c0 := 20) (i0 := i) rfl inA0 1 (by decide) mw640 rfl dX3_nextTurn_59 (hG 20 (by decide) (by decide)) rfl rfl rfl ?_
              rw [hR.1.1]
              refine lv_iconst (v := 1) hx hb dX3_nextTurn_62 (by decide) ?_
              refine lv_icmp_ne (tgt := 81) hx hb dX3_nextTurn_63 (by decide) (fun h63 => ?_) (fun h63 => ?_)
              · rw [if_neg (by rw [eij]; exact fun q => h63 (runs_of q).2)] at hs2
                refine w_iinc hx hb dX3_nextTurn_81 hl rfl rfl (fun ls hl => ?_)
                refine lv_goto (tgt := 32) hx hb dX3_nextTurn_84 (by decide) ?_
                exact ih (j + 1) (by omega) (by omega) _ _ _ _ _ (by rw [← nI_1 j]; exact hl) hs2 hw
              · rw [if_pos (by rw [eij]; exact runs_y h0 h63)] at hs2
                rw [hs2, if_neg (by omega), eij] at hT
                rw [eij] at hl
                refine lv_aload_n hx hb dX3_nextTurn_66 rfl (hl.at rfl) ?_
                refine lv_iload_n hx hb dX3_nextTurn_67 rfl (hl.at rfl) ?_
                refine w_put C hw (c0 := 0) (i0 := 0) rfl inA3 tyX3_ok nmX3 4 (by decide) mw47 rfl rfl rfl dX3_nextTurn_68 (hX 0 (by decide)) rfl rfl rfl rfl (Nat.le_of_ble_eq_true rfl) rfl (fun H locs hw => ?_)
                refine lv_aload_n hx hb dX3_nextTurn_71 rfl (hl.at rfl) ?_
                refine lv_aload_n hx hb dX3_nextTurn_72 rfl (hl.at rfl) ?_
                refine w_get C hw (c0 := 0) (i0 := 0) rfl inA3 3 (by decide) mw46 rfl dX3_nextTurn_73 (hX 0 (by decide)) rfl rfl rfl ?_
                rw [upr_s, upd_n (show (3 : Nat) ≠ 4 by decide), m1]
                refine w_put C hw (c0 := 0) (i0 := 0) rfl inA3 tyX3_ok nmX3 5 (by decide) mw48 rfl rfl rfl dX3_nextTurn_76 (hX 0 (by decide)) rfl rfl rfl rfl (Nat.le_of_ble_eq_true rfl) rfl (fun H locs hw => ?_)
                refine lv_aload_n hx hb dX3_nextTurn_79 rfl (hl.at rfl) ?_
                simp only [upr_uu, upr_s] at hw
                exact w_aret C hw hr (Or.inl ⟨_, rfl⟩) (Or.inr ⟨_, rfl⟩) hlocks dX3_nextTurn_80 ⟨rfl, rfl, rfl, rfl, fun c i q => upr_k (by omega), Or.inl ⟨i, upd (upd S.2.2 1 (nI i)) 2 (S.2.2 0), hi, h0, rfl, CR_num hCR (by simp [upd, m1, m4]), by rw [hT, upd_uu, upd_s]⟩⟩
            · rw [if_neg (fun q => by have := fnd_0 (S := S) (Nat.mod_lt _ (by decide)) hn; exact (runs_of q).1 this)] at hs2
              refine w_astore_nN hx hb dX3_nextTurn_53 rfl hl (Nat.le_of_ble_eq_true rfl) (fun ls hl => ?_)
              refine lv_aload_nN hx hb dX3_nextTurn_54 rfl (hl.at rfl) ?_
              refine lv_ifnullN (tgt := 81) hx hb dX3_nextTurn_55 (by decide) ?_
              refine w_iinc hx hb dX3_nextTurn_81 hl rfl rfl (fun ls hl => ?_)
              refine lv_goto (tgt := 32) hx hb dX3_nextTurn_84 (by decide) ?_
              exact ih (j + 1) (by omega) (by omega) _ _ _ _ _ (by rw [← nI_1 j]; exact hl) hs2 hw
    refine lv_iconst (v := 1) hx hb dX3_nextTurn_30 (by decide) ?_
    refine w_istore_n hx hb dX3_nextTurn_31 rfl hl (Nat.le_of_ble_eq_true rfl) (fun ls hl => ?_)
    exact loop 8 1 (by decide) (by decide) _ _ _ _ _ hl rfl hw
  refine lv_aload_n hx hb dX3_nextTurn_0 rfl (hl.at rfl) ?_
  refine lv_aload_n hx hb dX3_nextTurn_1 rfl (hl.at rfl) ?_
  refine w_get C hw (c0 := 0) (i0 := 0) rfl inA3 4 (by decide) mw47 rfl dX3_nextTurn_2 (hX 0 (by decide)) rfl rfl rfl ?_
  rw [m2]
  refine w_callV C hN hw (c_X3_find l sz0 D cs X _ Y S hS hCX h gp hCR (nI cu)) ⟨(Nat.le_of_ble_eq_true rfl), (Nat.le_of_ble_eq_true rfl), mw105, mw3, cy_X3_find⟩ mw102 mw103 mw104 (w_rec hw (c0 := 0) (i0 := 0) (hX 0 (by decide)) rfl rfl) rfl hl.1.1 rfl (Nat.le_of_ble_eq_true rfl) dX3_nextTurn_5 ⟨Nat.le_of_ble_eq_true rfl, Nat.le_of_ble_eq_true rfl⟩ (fun X' Z' Y' v k n H locs hp hw => ?_)
  obtain ⟨rfl, rfl, rfl, rfl, rfl, hp⟩ := hp
  rcases hp with ⟨i, hi, ei, h0, rfl⟩ | ⟨hn, rfl⟩
  · obtain rfl := nI_inj (by omega) (by omega) ei
    obtain ⟨hmd, hh1, hF6, hR⟩ := (hCR.2.2 cu hi).2 h0
    have hG := hCX.2.2 cu hi hmd
    refine w_astore_n hx hb dX3_nextTurn_8 rfl hl (Nat.le_of_ble_eq_true rfl) (fun ls hl => ?_)
    refine lv_aload_n hx hb dX3_nextTurn_9 rfl (hl.at rfl) ?_
    refine w_get C hw (c0 := 0) (i0 := 0) rfl inA3 5 (by decide) mw48 rfl dX3_nextTurn_10 (hX 0 (by decide)) rfl rfl rfl ?_
    rw [m3]
    refine lv_if_le (tgt := 30) hx hb dX3_nextTurn_13 (by decide) (fun h13 => ?_) (fun h13 => ?_)
    · refine k30 (fun q => q.1 ?_) _ _ _ _ hl hw
      rw [ex] at h13 ⊢
      have : xl ≤ 0 := (nI_leI (b := 0) (by omega) (by decide)).mp h13
      rw [show xl = 0 by omega]; rfl
    · refine lv_aload_n hx hb dX3_nextTurn_16 rfl (hl.at rfl) ?_
      refine lv_ifnull hx hb dX3_nextTurn_17 ?_
      refine lv_aload_n hx hb dX3_nextTurn_20 rfl (hl.at rfl) ?_
      refine w_getN C hN hw (c0 := 20) (i0 := cu) rfl inA0 1 (by decide) mw640 rfl dX3_nextTurn_21 (hG 20 (by decide) (by decide)) rfl rfl rfl ?_
      rw [hR.1.1]
      refine lv_iconst (v := 1) hx hb dX3_nextTurn_24 (by decide) ?_
      refine lv_icmp_ne (tgt := 30) hx hb dX3_nextTurn_25 (by decide) (fun h25 => ?_) (fun h25 => ?_)
      · exact k30 (fun q => h25 (runs_of q.2).2) _ _ _ _ hl hw
      · refine lv_aload_n hx hb dX3_nextTurn_28 rfl (hl.at rfl) ?_
        refine w_aret C hw hr (Or.inl ⟨_, rfl⟩) (Or.inr ⟨_, rfl⟩) hlocks dX3_nextTurn_29 ⟨rfl, rfl, rfl, rfl, fun _ _ _ => rfl, Or.inl ⟨cu, S.2.2, hi, h0, rfl, hCR, ?_⟩⟩
        unfold turnS; rw [ec, nI_clamp (by omega), if_pos ⟨fun q => h13 (by rw [q]; decide), runs_y h0 h25⟩]
  · have hno : ¬ (¬ S.2.2 2 = 0 ∧ runs S cu = true) := fun q => (runs_of q.2).1 (fnd_0 hc hn)
    refine w_astore_nN hx hb dX3_nextTurn_8 rfl hl (Nat.le_of_ble_eq_true rfl) (fun ls hl => ?_)
    refine lv_aload_n hx hb dX3_nextTurn_9 rfl (hl.at rfl) ?_
    refine w_get C hw (c0 := 0) (i0 := 0) rfl inA3 5 (by decide) mw48 rfl dX3_nextTurn_10 (hX 0 (by decide)) rfl rfl rfl ?_
    refine lv_if_le (tgt := 30) hx hb dX3_nextTurn_13 (by decide) (fun h13 => ?_) (fun h13 => ?_)
    · exact k30 hno _ _ _ _ hl hw
    · refine lv_aload_nN hx hb dX3_nextTurn_16 rfl (hl.at rfl) ?_
      refine lv_ifnullN (tgt := 30) hx hb dX3_nextTurn_17 (by decide) ?_
      exact k30 hno _ _ _ _ hl hw

theorem CR_set' {X X' : Sh} {Z Z' : ZT} {S : HS} {h gp i k n gp' : Nat} {g : GS} (H : CR X Z S h gp) (hS : ∀ j, j < 8 → S.1 j ≤ 64) (hi : i < 8) (h0 : S.1 i ≠ 0) (T : SFp X Z h i gp X' Z' k n gp') (hR : GR Z' i (S.1 i) g) : CR X' Z' (setM S i g) h gp' := by
  have hgf : ∀ j, j < 8 → gfr X Z j = S.1 j := fun j hj => by
    by_cases h0 : S.1 j = 0
    · rw [H.g0 hj h0, h0]
    · obtain ⟨a1, a2, a3, -⟩ := (H.2.2 j hj).2 h0
      have := hS j hj
      unfold gfr
      rw [if_pos ⟨a1, by rw [a2]; decide⟩, a3, nI_clamp (by omega)]
  obtain ⟨a, b, c⟩ := H
  obtain ⟨⟨V, rfl⟩, t1, t2, t3, t4, t5, t6, t7⟩ := T
  refine ⟨t1, by rw [t5 0 0 (by omega) (by decide) (by omega) (by omega)]; exact b, fun j hj => ?_⟩
  show (S.1 j = 0 → ¬ (X.2.2.1 j = true ∧ Z' 20 j 0 ≠ 0)) ∧ (S.1 j ≠ 0 → X.2.2.1 j = true ∧ Z' 20 j 0 = 1 ∧ Z' 20 j 6 = nI (S.1 j) ∧ GR Z' j (S.1 j) (upm S.2.1 i g j))
  by_cases e : j = i
  · subst e
    rw [upm_s, t6, t7]
    exact ⟨fun q => absurd q h0, fun q => ⟨((c j hj).2 q).1, ((c j hj).2 q).2.1, ((c j hj).2 q).2.2.1, hR⟩⟩
  · rw [upm_n e, t5 20 j (by omega) (by decide) (by omega) (by omega)]
    exact ⟨(c j hj).1, fun q => ⟨((c j hj).2 q).1, ((c j hj).2 q).2.1, ((c j hj).2 q).2.2.1, GR_rows (fun c _ _ q21 => t5 c j (by omega) q21 (by omega) (by omega)) (fun k w hk hw => t4 j k w hj e (by rw [hgf j hj]; exact hk) hw) ((c j hj).2 q).2.2.2⟩⟩

set_option maxHeartbeats 4000000 in
set_option maxRecDepth 100000 in
theorem c_X3_run (l : Launch) (sz0 : Nat) (D : va_G) (cs : Nat → ClassId) (X : Sh) (Z : ZT) (Y : va_W) (S : HS) (hS : HOK S) (hCX : CRx X) (h gp : Nat) (hCR : CR X Z S h gp) (kc ks : Nat) (hkc : gp ≤ kc) (hks : 32832 * gp ≤ ks) (u : Int32) : Ctr l yX3_run (wsM yX3_run cX3_run 4 (some .int)) ({ frames := 8, cells := kc, slots := ks, locals := 200 } : Room) sz0 D cs [.ref (X.1 0 0), .int u] X Z Y (CPo X Z Y gp (runS S u).1 (runS S u).2) := by
  refine Ctr.ofW (by decide +kernel) (by intro v hv; simp at hv; rcases hv with rfl | rfl <;> rfl) (Nat.le_of_ble_eq_true rfl) ?_
  intro p e s m below meth c ls C hr hlocks hname hl hN hw
  obtain ⟨hx, hb, hml, hown, hts⟩ := id C
  have hX := hCX.1
  have hU := hCX.2.1.1
  refine lv_iload_n hx hb dX3_run_0 rfl (hl.at rfl) ?_
  refine lv_if_lt (tgt := 11) hx hb dX3_run_1 (by decide) (fun h1 => ?_) (fun h1 => ?_)
  · refine lv_iconst (v := -1) hx hb dX3_run_11 (by decide) ?_
    have eo : runS S u = (S, -1) := by unfold runS; rw [if_pos (Or.inl h1)]
    exact w_iret C hw hr hlocks dX3_run_12 (by rw [eo]; exact CPo_z hCX hCR (fun _ _ _ => rfl) rfl)
  · refine lv_iload_n hx hb dX3_run_4 rfl (hl.at rfl) ?_
    refine lv_sipush (v := 2000) hx hb dX3_run_5 (by decide) ?_
    refine lv_icmp_le (tgt := 13) hx hb dX3_run_8 (by decide) (fun h8 => ?_) (fun h8 => ?_)
    · obtain ⟨N, hNN, rfl⟩ := nI_of2 (M := 2000) (n := 2000) (by decide) h1 h8
      have eo : runS S (nI N) = (addSt (runL N 0 S).1 (nI (runL N 0 S).2), nI (runL N 0 S).2) := by unfold runS; rw [if_neg (fun q => q.elim h1 (fun q => Int32.not_lt.mpr h8 q)), nI_clamp (by omega)]
      refine lv_iconst (v := 0) hx hb dX3_run_13 (by decide) ?_
      refine w_istore_n hx hb dX3_run_14 rfl hl (Nat.le_of_ble_eq_true rfl) (fun ls hl => ?_)
      have k56 : ∀ (V : Nat → Nat) (Z1 : ZT) (S1 : HS) (t0 gp1 kk nn : Nat) (x3 : Option Value) (H : Heap) (locs : List Loc) (ls : Array Slot), lo ls [some (.ref (X.1 0 0)), some (.int (nI N)), some (.int (nI t0)), x3] → runL N 0 S = (S1, t0) → CR (X.1, V, X.2.2) Z1 S1 h gp1 → kk + gp1 ≤ gp → nn ≤ 32832 * kk → (∀ c i, 30 ≤ c → Z1 c i = Z c i) → Wd sz0 D cs s (X.1, V, X.2.2) Z1 Y H locs → W p l e ({ frames := 8, cells := kc, slots := ks, locals := 200 } : Room) s m ([.ref (X.1 0 0), .int (nI N)] : List Value).toArray below meth c H locs kk nn (xQ below (CQ sz0 D cs (CPo X Z Y gp (runS S (nI N)).1 (runS S (nI N)).2)) ([.ref (X.1 0 0), .int (nI N)] : List Value).toArray s (Asz sz0)) (F0 m 56 ls []) := by
        intro V Z1 S1 t0 gp1 kk nn x3 H locs ls hl hr1 hC1 hk1 hn1 h30 hw
        obtain ⟨n1, n2, n3, n4⟩ := hC1.2.1
        refine lv_aload_n hx hb dX3_run_56 rfl (hl.at rfl) ?_
        refine lv_dup hx hb dX3_run_57 rfl ?_
        refine w_get C hw (c0 := 0) (i0 := 0) rfl inA3 6 (by decide) mw49 rfl dX3_run_58 (hX 0 (by decide)) rfl rfl rfl ?_
        rw [n4]
        refine lv_iload_n hx hb dX3_run_61 rfl (hl.at rfl) ?_
        refine lv_iadd hx hb dX3_run_62 ?_
        refine w_put C hw (c0 := 0) (i0 := 0) rfl inA3 tyX3_ok nmX3 6 (by decide) mw49 rfl rfl rfl dX3_run_63 (hX 0 (by decide)) rfl rfl rfl rfl (Nat.le_of_ble_eq_true rfl) rfl (fun H locs hw => ?_)
        refine lv_iload_n hx hb dX3_run_66 rfl (hl.at rfl) ?_
        exact w_iret C hw hr hlocks dX3_run_67 ⟨rfl, by rw [eo, hr1], h, gp1, hCX, by rw [eo, hr1]; exact CR_num hC1 (by simp [upd, n1, n2, n3]), by show kk + gp1 + 8 * unm X ≤ gp + 8 * unm X; omega, hn1, KX.refl, fun c i q => by rw [upr_k (by omega)]; exact h30 c i q⟩
      have loop : ∀ (d t0 : Nat), t0 + d = N → ∀ (V : Nat → Nat) (Z1 : ZT) (S1 : HS) (gp1 kk nn : Nat) (x3 : Option Value) (H : Heap) (locs : List Loc) (ls : Array Slot), lo ls [some (.ref (X.1 0 0)), some (.int (nI N)), some (.int (nI t0)), x3] → runL N 0 S = runL d t0 S1 → HOK S1 → CR (X.1, V, X.2.2) Z1 S1 h gp1 → kk + gp1 ≤ gp → nn ≤ 32832 * kk → (∀ c i, 30 ≤ c → Z1 c i = Z c i) → Wd sz0 D cs s (X.1, V, X.2.2) Z1 Y H locs → W p l e ({ frames := 8, cells := kc, slots := ks, locals := 200 } : Room) s m ([.ref (X.1 0 0), .int (nI N)] : List Value).toArray below meth c H locs kk nn (xQ below (CQ sz0 D cs (CPo X Z Y gp (runS S (nI N)).1 (runS S (nI N)).2)) ([.ref (X.1 0 0), .int (nI N)] : List Value).toArray s (Asz sz0)) (F0 m 15 ls []) := by
        intro d
        induction d with
        | zero =>
            intro t0 hk V Z1 S1 gp1 kk nn x3 H locs ls hl hr1 hS1 hC1 hk1 hn1 h30 hw
            refine lv_iload_n hx hb dX3_run_15 rfl (hl.at rfl) ?_
            refine lv_iload_n hx hb dX3_run_16 rfl (hl.at rfl) ?_
            refine lv_icmp_ge (tgt := 56) hx hb dX3_run_17 (by decide) (fun h17 => ?_) (fun h17 => ?_)
            · exact k56 V Z1 S1 t0 gp1 kk nn x3 _ _ _ hl hr1 hC1 hk1 hn1 h30 hw
            · exact absurd (nI_le (show N ≤ t0 by omega) (by omega)) h17
        | succ d ih =>
            intro t0 hk V Z1 S1 gp1 kk nn x3 H locs ls hl hr1 hS1 hC1 hk1 hn1 h30 hw
            refine lv_iload_n hx hb dX3_run_15 rfl (hl.at rfl) ?_
            refine lv_iload_n hx hb dX3_run_16 rfl (hl.at rfl) ?_
            refine lv_icmp_ge (tgt := 56) hx hb dX3_run_17 (by decide) (fun h17 => ?_) (fun h17 => ?_)
            · exact absurd h17 (nI_ge (show t0 < N by omega) (by omega))
            · have hr1 : runL N 0 S = if (turnS S1).2 = true then runL d (t0 + 1) (turnS S1).1 else (S1, t0) := hr1
              refine lv_aload_n hx hb dX3_run_20 rfl (hl.at rfl) ?_
              refine w_callV C hN hw (c_X3_nextTurn l sz0 D cs (X.1, V, X.2.2) _ Y S1 hS1 hCX h gp1 hC1) ⟨(Nat.le_of_ble_eq_true rfl), (Nat.le_of_ble_eq_true rfl), mw336, mw3, cy_X3_nextTurn⟩ mw333 mw334 mw335 (w_rec hw (c0 := 0) (i0 := 0) (hX 0 (by decide)) rfl rfl) rfl hl.1.1 rfl (Nat.le_of_ble_eq_true rfl) dX3_run_21 ⟨by show kk + 0 ≤ kc; omega, by show nn + 0 ≤ ks; omega⟩ (fun X' Z' Y' v k n H locs hp hw => ?_)
              obtain ⟨rfl, rfl, rfl, rfl, h30', hp⟩ := hp
              rcases hp with ⟨i, f, hi, h0, rfl, hC2, eT⟩ | ⟨rfl, eZ, eT⟩
              · rw [eT, if_pos rfl] at hr1
                have hS2 : HOK (stp1 (S1.1, S1.2.1, upd f 2 (f 2 - 1)) i) := by have := HOK_turn hS1; rw [eT] at this; exact this
                have hSf : HOK (S1.1, S1.2.1, upd S1.2.2 1 (S1.2.2 1)) := by rw [upd_id]; exact hS1
                have hF : S1.1 i ≤ 64 := (hS1.1 i hi).1
                have hgi := (hC2.2.2 i hi).2 h0
                obtain ⟨hmd, hh1, hF6, hR⟩ := hgi
                have hG := hCX.2.2 i hi hmd
                have hL : GL (X.1, V, X.2.2) Z' i (S1.1 i) := ⟨hi, by unfold gfr; rw [if_pos ⟨hmd, by rw [hh1]; decide⟩, hF6]; exact nI_clamp (Nat.lt_of_le_of_lt hF (by decide)), hF6, Nat.one_le_iff_ne_zero.mpr h0, hF⟩
                refine w_astore_n hx hb dX3_run_24 rfl hl (Nat.le_of_ble_eq_true rfl) (fun ls hl => ?_)
                refine lv_aload_n hx hb dX3_run_25 rfl (hl.at rfl) ?_
                refine lv_ifnonnull (tgt := 32) hx hb dX3_run_26 (by decide) ?_
                refine lv_aload_n hx hb dX3_run_32 rfl (hl.at rfl) ?_
                refine w_get C hw (c0 := 0) (i0 := 0) rfl inA3 1 (by decide) mw20 rfl dX3_run_33 (hX 0 (by decide)) rfl rfl rfl ?_
                refine lv_aload_n hx hb dX3_run_36 rfl (hl.at rfl) ?_
                refine w_callV C hN hw (c_X2_step l sz0 D cs (X.1, V, X.2.2) _ Y hX hU i hG h gp1 gp1 (32832 * gp1) (S1.1 i) (S1.2.1 i) hC2.1 hL hR ((hS1.1 i hi).2 h0) (Nat.le_refl _) (Nat.le_refl _)) ⟨(Nat.le_of_ble_eq_true rfl), (Nat.le_of_ble_eq_true rfl), mw340, mw19, cy_X2_step⟩ mw337 mw338 mw339 (w_rec hw (c0 := 12) (i0 := 0) (hX 12 (by decide)) rfl rfl) rfl hl.1.1 rfl (Nat.le_of_ble_eq_true rfl) dX3_run_37 ⟨by show kk + 0 + gp1 ≤ kc; omega, by show nn + 0 + 32832 * gp1 ≤ ks; omega⟩ (fun X2 Z2 Y2 v k2 n2 H locs hp hw => ?_)
                obtain ⟨rfl, rfl, gp2, hT, hR2⟩ := hp
                have hC3 := CR_set' hC2 (fun j hj => (hS1.1 j hj).1) hi h0 hT hR2
                have hz30 := hT.up30
                obtain ⟨⟨V2, eV⟩, -, t2, t3, -⟩ := hT
                have eV : X2 = (X.1, V2, X.2.2) := eV
                subst eV
                obtain ⟨n1, n2', n3, n4⟩ := hC3.2.1
                refine lv_aload_n hx hb dX3_run_40 rfl (hl.at rfl) ?_
                refine lv_dup hx hb dX3_run_41 rfl ?_
                refine w_get C hw (c0 := 0) (i0 := 0) rfl inA3 5 (by decide) mw48 rfl dX3_run_42 (hX 0 (by decide)) rfl rfl rfl ?_
                rw [n3]
                refine lv_iconst (v := 1) hx hb dX3_run_45 (by decide) ?_
                refine lv_isub hx hb dX3_run_46 ?_
                refine w_put C hw (c0 := 0) (i0 := 0) rfl inA3 tyX3_ok nmX3 5 (by decide) mw48 rfl rfl rfl dX3_run_47 (hX 0 (by decide)) rfl rfl rfl rfl (Nat.le_of_ble_eq_true rfl) rfl (fun H locs hw => ?_)
                refine w_iinc hx hb dX3_run_50 hl rfl rfl (fun ls hl => ?_)
                refine lv_goto (tgt := 15) hx hb dX3_run_53 (by decide) ?_
                refine ih (t0 + 1) (by omega) V2 _ _ gp2 (kk + 0 + k2) (nn + 0 + n2) _ _ _ _ (by rw [← nI_1]; exact hl) hr1 hS2 (CR_num hC3 (n := upd f 2 (f 2 - 1)) (by simp [upd]; exact ⟨n1, n2', rfl, n4⟩)) (by omega) (by omega) (fun c j q => by rw [upr_k (by omega), hz30 c j q, h30' c j q]; exact h30 c j q) hw
              · rw [eT, if_neg (show ¬ (S1, false).2 = true from Bool.false_ne_true)] at hr1
                rw [eZ] at hw
                refine w_astore_nN hx hb dX3_run_24 rfl hl (Nat.le_of_ble_eq_true rfl) (fun ls hl => ?_)
                refine lv_aload_nN hx hb dX3_run_25 rfl (hl.at rfl) ?_
                refine lv_ifnonnullN hx hb dX3_run_26 ?_
                refine lv_goto (tgt := 56) hx hb dX3_run_29 (by decide) ?_
                exact k56 V _ S1 t0 gp1 kk nn _ _ _ _ hl hr1 hC1 hk1 hn1 h30 hw
      exact loop N 0 (by omega) X.2.1 Z S gp 0 0 _ _ _ _ hl rfl hS hCR (by omega) (by omega) (fun _ _ _ => rfl) hw
    · refine lv_iconst (v := -1) hx hb dX3_run_11 (by decide) ?_
      have eo : runS S u = (S, -1) := by unfold runS; rw [if_pos (Or.inr (Int32.not_le.mp h8))]
      exact w_iret C hw hr hlocks dX3_run_12 (by rw [eo]; exact CPo_z hCX hCR (fun _ _ _ => rfl) rfl)

set_option maxHeartbeats 4000000 in
set_option maxRecDepth 100000 in
theorem c_X3_only (l : Launch) (sz0 : Nat) (D : va_G) (cs : Nat → ClassId) (X : Sh) (Z : ZT) (Y : va_W) (S : HS) (hS : HOK S) (hCX : CRx X) (h gp : Nat) (hCR : CR X Z S h gp) (kc ks : Nat) (hkc : gp ≤ kc) (hks : 32832 * gp ≤ ks) (a u : Int32) : Ctr l yX3_only (wsM yX3_only cX3_only 5 (some .int)) ({ frames := 8, cells := kc, slots := ks, locals := 200 } : Room) sz0 D cs [.ref (X.1 0 0), .int a, .int u] X Z Y (CPo X Z Y gp (onS S a u).1 (onS S a u).2) := by
  refine Ctr.ofW (by decide +kernel) (by intro v hv; simp at hv; rcases hv with rfl | rfl | rfl <;> rfl) (Nat.le_of_ble_eq_true rfl) ?_
  intro p e s m below meth c ls C hr hlocks hname hl hN hw
  obtain ⟨hx, hb, hml, hown, hts⟩ := id C
  have hX := hCX.1
  have hU := hCX.2.1.1
  refine lv_aload_n hx hb dX3_only_0 rfl (hl.at rfl) ?_
  refine lv_iload_n hx hb dX3_only_1 rfl (hl.at rfl) ?_
  refine w_callV C hN hw (c_X3_find l sz0 D cs X _ Y S hS hCX h gp hCR a) ⟨(Nat.le_of_ble_eq_true rfl), (Nat.le_of_ble_eq_true rfl), mw105, mw3, cy_X3_find⟩ mw102 mw103 mw104 (w_rec hw (c0 := 0) (i0 := 0) (hX 0 (by decide)) rfl rfl) rfl hl.1.1 rfl (Nat.le_of_ble_eq_true rfl) dX3_only_2 ⟨Nat.zero_le _, Nat.zero_le _⟩ (fun X' Z' Y' v k n H locs hp hw => ?_)
  obtain ⟨rfl, rfl, rfl, rfl, rfl, hp⟩ := hp
  rcases hp with ⟨i, hi, rfl, h0, rfl⟩ | ⟨hn, rfl⟩
  · have hL := hCR.gl hS hi h0
    obtain ⟨hmd, hh1, hF6, hR⟩ := (hCR.2.2 i hi).2 h0
    have hG := hCX.2.2 i hi hmd
    have hy := fnd_y hi h0
    have ecl : (nI i).toNatClampNeg = i := nI_clamp (by omega)
    have hF : S.1 i ≤ 64 := (hS.1 i hi).1
    refine w_astore_n hx hb dX3_only_5 rfl hl (Nat.le_of_ble_eq_true rfl) (fun ls hl => ?_)
    refine lv_aload_n hx hb dX3_only_6 rfl (hl.at rfl) ?_
    refine lv_ifnonnull (tgt := 13) hx hb dX3_only_7 (by decide) ?_
    refine lv_iload_n hx hb dX3_only_13 rfl (hl.at rfl) ?_
    refine lv_if_lt (tgt := 24) hx hb dX3_only_14 (by decide) (fun h14 => ?_) (fun h14 => ?_)
    · refine lv_iconst (v := -1) hx hb dX3_only_24 (by decide) ?_
      have eo : onS S (nI i) u = (S, -1) := by unfold onS; rw [if_neg (by rw [hy]; decide), ecl, if_pos (Or.inl h14)]
      exact w_iret C hw hr hlocks dX3_only_25 (by rw [eo]; exact CPo_z hCX hCR (fun _ _ _ => rfl) rfl)
    · refine lv_iload_n hx hb dX3_only_17 rfl (hl.at rfl) ?_
      refine lv_sipush (v := 2000) hx hb dX3_only_18 (by decide) ?_
      refine lv_icmp_le (tgt := 26) hx hb dX3_only_21 (by decide) (fun h21 => ?_) (fun h21 => ?_)
      · obtain ⟨N, hNN, rfl⟩ := nI_of2 (M := 2000) (n := 2000) (by decide) h14 h21
        have eo : onS S (nI i) (nI N) = (addSt (onlL i N 0 S).1 (nI (onlL i N 0 S).2), nI (onlL i N 0 S).2) := by unfold onS; rw [if_neg (by rw [hy]; decide), ecl, if_neg (fun q => q.elim h14 (fun q => Int32.not_lt.mpr h21 q)), nI_clamp (show N < 2 ^ 31 by omega)]
        refine lv_iconst (v := 0) hx hb dX3_only_26 (by decide) ?_
        refine w_istore hx hb dX3_only_27 hl (Nat.le_of_ble_eq_true rfl) (fun ls hl => ?_)
        have k57 : ∀ (V : Nat → Nat) (Z1 : ZT) (S1 : HS) (t0 gp1 kk nn : Nat) (H : Heap) (locs : List Loc) (ls : Array Slot), lo ls [some (.ref (X.1 0 0)), some (.int (nI i)), some (.int (nI N)), some (.ref (X.1 20 i)), some (.int (nI t0))] → onlL i N 0 S = (S1, t0) → CR (X.1, V, X.2.2) Z1 S1 h gp1 → kk + gp1 ≤ gp → nn ≤ 32832 * kk → (∀ c i, 30 ≤ c → Z1 c i = Z c i) → Wd sz0 D cs s (X.1, V, X.2.2) Z1 Y H locs → W p l e ({ frames := 8, cells := kc, slots := ks, locals := 200 } : Room) s m ([.ref (X.1 0 0), .int (nI i), .int (nI N)] : List Value).toArray below meth c H locs kk nn (xQ below (CQ sz0 D cs (CPo X Z Y gp (onS S (nI i) (nI N)).1 (onS S (nI i) (nI N)).2)) ([.ref (X.1 0 0), .int (nI i), .int (nI N)] : List Value).toArray s (Asz sz0)) (F0 m 57 ls []) := by
          intro V Z1 S1 t0 gp1 kk nn H locs ls hl hr1 hC1 hk1 hn1 h30 hw
          obtain ⟨n1, n2, n3, n4⟩ := hC1.2.1
          refine lv_aload_n hx hb dX3_only_57 rfl (hl.at rfl) ?_
          refine lv_dup hx hb dX3_only_58 rfl ?_
          refine w_get C hw (c0 := 0) (i0 := 0) rfl inA3 6 (by decide) mw49 rfl dX3_only_59 (hX 0 (by decide)) rfl rfl rfl ?_
          rw [n4]
          refine lv_iload hx hb dX3_only_62 (hl.at rfl) ?_
          refine lv_iadd hx hb dX3_only_64 ?_
          refine w_put C hw (c0 := 0) (i0 := 0) rfl inA3 tyX3_ok nmX3 6 (by decide) mw49 rfl rfl rfl dX3_only_65 (hX 0 (by decide)) rfl rfl rfl rfl (Nat.le_of_ble_eq_true rfl) rfl (fun H locs hw => ?_)
          refine lv_iload hx hb dX3_only_68 (hl.at rfl) ?_
          exact w_iret C hw hr hlocks dX3_only_70 ⟨rfl, by rw [eo, hr1], h, gp1, hCX, by rw [eo, hr1]; exact CR_num hC1 (by simp [upd, n1, n2, n3]), by show kk + gp1 + 8 * unm X ≤ gp + 8 * unm X; omega, hn1, KX.refl, fun c i q => by rw [upr_k (by omega)]; exact h30 c i q⟩
        have loop : ∀ (d t0 : Nat), t0 + d = N → ∀ (V : Nat → Nat) (Z1 : ZT) (S1 : HS) (gp1 kk nn : Nat) (H : Heap) (locs : List Loc) (ls : Array Slot), lo ls [some (.ref (X.1 0 0)), some (.int (nI i)), some (.int (nI N)), some (.ref (X.1 20 i)), some (.int (nI t0))] → onlL i N 0 S = onlL i d t0 S1 → S1.1 i ≠ 0 → HOK S1 → CR (X.1, V, X.2.2) Z1 S1 h gp1 → kk + gp1 ≤ gp → nn ≤ 32832 * kk → (∀ c i, 30 ≤ c → Z1 c i = Z c i) → Wd sz0 D cs s (X.1, V, X.2.2) Z1 Y H locs → W p l e ({ frames := 8, cells := kc, slots := ks, locals := 200 } : Room) s m ([.ref (X.1 0 0), .int (nI i), .int (nI N)] : List Value).toArray below meth c H locs kk nn (xQ below (CQ sz0 D cs (CPo X Z Y gp (onS S (nI i) (nI N)).1 (onS S (nI i) (nI N)).2)) ([.ref (X.1 0 0), .int (nI i), .int (nI N)] : List Value).toArray s (Asz sz0)) (F0 m 29 ls []) := by
          intro d
          induction d with
          | zero =>
              intro t0 hk V Z1 S1 gp1 kk nn H locs ls hl hr1 h01 hS1 hC1 hk1 hn1 h30 hw
              refine lv_iload hx hb dX3_only_29 (hl.at rfl) ?_
              refine lv_iload_n hx hb dX3_only_31 rfl (hl.at rfl) ?_
              refine lv_icmp_ge (tgt := 57) hx hb dX3_only_32 (by decide) (fun h32 => ?_) (fun h32 => ?_)
              · exact k57 V Z1 S1 t0 gp1 kk nn _ _ _ hl hr1 hC1 hk1 hn1 h30 hw
              · exact absurd (nI_le (show N ≤ t0 by omega) (by omega)) h32
          | succ d ih =>
              intro t0 hk V Z1 S1 gp1 kk nn H locs ls hl hr1 h01 hS1 hC1 hk1 hn1 h30 hw
              refine lv_iload hx hb dX3_only_29 (hl.at rfl) ?_
              refine lv_iload_n hx hb dX3_only_31 rfl (hl.at rfl) ?_
              refine lv_icmp_ge (tgt := 57) hx hb dX3_only_32 (by decide) (fun h32 => ?_) (fun h32 => ?_)
              · exact absurd h32 (nI_ge (show t0 < N by omega) (by omega))
              · have hr1 : onlL i N 0 S = if S1.2.1 i 0 1 = 1 then onlL i d (t0 + 1) (stp1 S1 i) else (S1, t0) := hr1
                have hL1 := hC1.gl hS1 hi h01
                obtain ⟨hmd1, hh11, hF61, hR1⟩ := (hC1.2.2 i hi).2 h01
                refine lv_aload_n hx hb dX3_only_35 rfl (hl.at rfl) ?_
                refine w_getN C hN hw (c0 := 20) (i0 := i) rfl inA0 1 (by decide) mw640 rfl dX3_only_36 (hG 20 (by decide) (by decide)) rfl rfl rfl ?_
                rw [hR1.1.1]
                refine lv_iconst (v := 1) hx hb dX3_only_39 (by decide) ?_
                refine lv_icmp_ne (tgt := 57) hx hb dX3_only_40 (by decide) (fun h40 => ?_) (fun h40 => ?_)
                · rw [if_neg h40] at hr1
                  exact k57 V Z1 S1 t0 gp1 kk nn _ _ _ hl hr1 hC1 hk1 hn1 h30 hw
                · rw [if_pos h40] at hr1
                  refine lv_aload_n hx hb dX3_only_43 rfl (hl.at rfl) ?_
                  refine w_get C hw (c0 := 0) (i0 := 0) rfl inA3 1 (by decide) mw20 rfl dX3_only_44 (hX 0 (by decide)) rfl rfl rfl ?_
                  refine lv_aload_n hx hb dX3_only_47 rfl (hl.at rfl) ?_
                  refine w_callV C hN hw (c_X2_step l sz0 D cs (X.1, V, X.2.2) _ Y hX hU i hG h gp1 gp1 (32832 * gp1) (S1.1 i) (S1.2.1 i) hC1.1 hL1 hR1 ((hS1.1 i hi).2 h01) (Nat.le_refl _) (Nat.le_refl _)) ⟨(Nat.le_of_ble_eq_true rfl), (Nat.le_of_ble_eq_true rfl), mw340, mw19, cy_X2_step⟩ mw337 mw338 mw339 (w_rec hw (c0 := 12) (i0 := 0) (hX 12 (by decide)) rfl rfl) rfl hl.1.1 rfl (Nat.le_of_ble_eq_true rfl) dX3_only_48 ⟨by show kk + gp1 ≤ kc; omega, by show nn + 32832 * gp1 ≤ ks; omega⟩ (fun X2 Z2 Y2 v k2 n2 H locs hp hw => ?_)
                  obtain ⟨rfl, rfl, gp2, hT, hR2⟩ := hp
                  have hC3 := CR_set hC1 hS1 hi h01 hT hR2
                  have hz30 := hT.up30
                  obtain ⟨⟨V2, eV⟩, -, t2, t3, -⟩ := hT
                  have eV : X2 = (X.1, V2, X.2.2) := eV
                  subst eV
                  refine w_iinc hx hb dX3_only_51 hl rfl rfl (fun ls hl => ?_)
                  refine lv_goto (tgt := 29) hx hb dX3_only_54 (by decide) ?_
                  exact ih (t0 + 1) (by omega) V2 _ (stp1 S1 i) gp2 (kk + k2) (nn + n2) _ _ _ (by rw [← nI_1]; exact hl) hr1 h01 (HOK_stp hS1 hi) hC3 (by omega) (by omega) (fun c j q => by rw [hz30 c j q]; exact h30 c j q) hw
        exact loop N 0 (by omega) X.2.1 Z S gp 0 0 _ _ _ hl rfl h0 hS hCR (by omega) (by omega) (fun _ _ _ => rfl) hw
      · refine lv_iconst (v := -1) hx hb dX3_only_24 (by decide) ?_
        have eo : onS S (nI i) u = (S, -1) := by unfold onS; rw [if_neg (by rw [hy]; decide), ecl, if_pos (Or.inr (Int32.not_le.mp h21))]
        exact w_iret C hw hr hlocks dX3_only_25 (by rw [eo]; exact CPo_z hCX hCR (fun _ _ _ => rfl) rfl)
  · refine w_astore_nN hx hb dX3_only_5 rfl hl (Nat.le_of_ble_eq_true rfl) (fun ls hl => ?_)
    refine lv_aload_nN hx hb dX3_only_6 rfl (hl.at rfl) ?_
    refine lv_ifnonnullN hx hb dX3_only_7 ?_
    refine lv_bipush (v := -14) hx hb dX3_only_10 (by decide) ?_
    have eo : onS S a u = (S, -14) := by unfold onS; rw [if_pos hn]
    exact w_iret C hw hr hlocks dX3_only_12 (by rw [eo]; exact CPo_z hCX hCR (fun _ _ _ => rfl) rfl)
