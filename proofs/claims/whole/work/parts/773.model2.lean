set_option maxHeartbeats 4000000 in
set_option maxRecDepth 100000 in
theorem c_X5_drop (l : Launch) (sz0 : Nat) (D : va_G) (cs : Nat → ClassId) (X : Sh) (Z : ZT) (Y : va_W) (S : HS) (hS : HOK S) (hMX : MRx X) (hMR : MR Z S) (a : Int32)  : Ctr l yX5_drop (wsM yX5_drop cX5_drop 2 (some .int)) ({ frames := 1, cells := 0, slots := 0, locals := 21 } : Room) sz0 D cs [.ref (X.1 30 0), .int a] X Z Y (Pz X Y (fun Z' v => v = some (.int (drS S a).2) ∧ MR Z' (drS S a).1 ∧ FM Z Z')) := by
  refine Ctr.ofW (by decide +kernel) (by intro v hv; simp at hv; rcases hv with rfl | rfl <;> rfl) (Nat.le_of_ble_eq_true rfl) ?_
  intro p e s m below meth c ls C hr hlocks hname hl hN hw
  obtain ⟨hx, hb, hml, hown, hts⟩ := id C
  have hM := hMX.1
  refine lv_aload_n hx hb dX5_drop_0 rfl (hl.at rfl) ?_
  refine lv_iload_n hx hb dX5_drop_1 rfl (hl.at rfl) ?_
  refine w_callV C hN hw (c_X5_of l sz0 D cs X _ Y S hS hMX hMR a) ⟨(Nat.le_of_ble_eq_true rfl), (Nat.le_of_ble_eq_true rfl), mw243, mw6, cy_X5_of⟩ mw240 mw241 mw242 (w_rec hw (c0 := 30) (i0 := 0) (hM 30 (by decide) (by decide)) rfl rfl) rfl hl.1.1 rfl (Nat.le_of_ble_eq_true rfl) dX5_drop_2 ⟨Nat.le_of_ble_eq_true rfl, Nat.le_of_ble_eq_true rfl⟩ (fun X' Z' Y' v k n H locs hp hw => ?_)
  obtain ⟨rfl, rfl, rfl, rfl, rfl, hp⟩ := hp
  rcases hp with ⟨i, hi, rfl, h0, rfl⟩ | ⟨hn, rfl⟩
  · have hB := hMX.2.1 i hi
    have hg := (hMR.2 i hi).2 h0
    have hR := hg.2
    have hy := fnd_y hi h0
    have ecl : (nI i).toNatClampNeg = i := nI_clamp (by omega)
    have hF : S.1 i ≤ 64 := (hS.1 i hi).1
    refine lv_ifnonnull (tgt := 11) hx hb dX5_drop_5 (by decide) ?_
    refine lv_aload_n hx hb dX5_drop_11 rfl (hl.at rfl) ?_
    refine w_get C hw (c0 := 30) (i0 := 0) rfl inA5 0 (by decide) mw67 rfl dX5_drop_12 (hM 30 (by decide) (by decide)) rfl rfl rfl ?_
    refine lv_iload_n hx hb dX5_drop_15 rfl (hl.at rfl) ?_
    refine w_ald C hw (c0 := 31) (i0 := 0) (t := 3) dX5_drop_16 (hM 31 (by decide) (by decide)) rfl rfl rfl (vp_in_nI hi (by decide)) (nI_clamp (by omega)) ?_
    rw [arefM (hMX.2.2 i hi)]
    refine lv_iconst (v := 0) hx hb dX5_drop_17 (by decide) ?_
    refine w_put C hw (c0 := 40) (i0 := i) rfl inA4 tyX4_ok nmX4 1 (by decide) mw91 rfl rfl rfl dX5_drop_18 (hB 40 (by decide) (by decide)) rfl (by decide) (by decide) rfl (Nat.le_of_ble_eq_true rfl) rfl (fun H locs hw => ?_)
    refine lv_iconst (v := 0) hx hb dX5_drop_21 (by decide) ?_
    have eo : drS S (nI i) = ((upn S.1 i 0, S.2.1, S.2.2), 0) := by unfold drS; rw [if_neg (by rw [hy]; decide), ecl]
    exact w_iret C hw hr hlocks dX5_drop_22 ⟨rfl, rfl, rfl, rfl, by rw [eo], by rw [eo]; exact MR_drop hMR, FM.refl.up (by decide)⟩
  · refine lv_ifnonnullN hx hb dX5_drop_5 ?_
    refine lv_bipush (v := -14) hx hb dX5_drop_8 (by decide) ?_
    exact w_iret C hw hr hlocks dX5_drop_10 ⟨rfl, rfl, rfl, rfl, by unfold drS; rw [if_pos hn], by unfold drS; rw [if_pos hn]; exact hMR, FM.refl⟩

set_option maxHeartbeats 4000000 in
set_option maxRecDepth 100000 in
theorem c_X5_guest (l : Launch) (sz0 : Nat) (D : va_G) (cs : Nat → ClassId) (X : Sh) (Z : ZT) (Y : va_W) (S : HS) (hS : HOK S) (hMX : MRx X) (hMR : MR Z S) (f : Int32)  : Ctr l yX5_guest (wsM yX5_guest cX5_guest 3 (some .int)) ({ frames := 3, cells := 0, slots := 0, locals := 65 } : Room) sz0 D cs [.ref (X.1 30 0), .int f] X Z Y (Pz X Y (fun Z' v => v = some (.int (gstS S f).2) ∧ MR Z' (gstS S f).1 ∧ FM Z Z')) := by
  refine Ctr.ofW (by decide +kernel) (by intro v hv; simp at hv; rcases hv with rfl | rfl <;> rfl) (Nat.le_of_ble_eq_true rfl) ?_
  intro p e s m below meth c ls C hr hlocks hname hl hN hw
  obtain ⟨hx, hb, hml, hown, hts⟩ := id C
  have hM := hMX.1
  refine lv_iload_n hx hb dX5_guest_0 rfl (hl.at rfl) ?_
  refine lv_iconst (v := 1) hx hb dX5_guest_1 (by decide) ?_
  refine lv_icmp_lt (tgt := 11) hx hb dX5_guest_2 (by decide) (fun h2 => ?_) (fun h2 => ?_)
  · refine lv_iconst (v := -1) hx hb dX5_guest_11 (by decide) ?_
    have eo : gstS S f = (S, -1) := by unfold gstS; rw [if_pos (Or.inl h2)]
    exact w_iret C hw hr hlocks dX5_guest_12 ⟨rfl, rfl, rfl, rfl, by rw [eo], by rw [eo]; exact hMR, FM.refl⟩
  · refine lv_iload_n hx hb dX5_guest_5 rfl (hl.at rfl) ?_
    refine lv_bipush (v := 64) hx hb dX5_guest_6 (by decide) ?_
    refine lv_icmp_le (tgt := 13) hx hb dX5_guest_8 (by decide) (fun h8 => ?_) (fun h8 => ?_)
    · have hf : ¬ (f < 1 ∨ 64 < f) := fun q => q.elim h2 (fun q => Int32.not_lt.mpr h8 q)
      obtain ⟨n, hn1, hn64, rfl⟩ := frm_of hf
      refine lv_aload_n hx hb dX5_guest_13 rfl (hl.at rfl) ?_
      refine w_callV C hN hw (c_X5_free l sz0 D cs X _ Y S hS hMX hMR) ⟨(Nat.le_of_ble_eq_true rfl), (Nat.le_of_ble_eq_true rfl), mw156, mw6, cy_X5_free⟩ mw153 mw154 mw155 (w_rec hw (c0 := 30) (i0 := 0) (hM 30 (by decide) (by decide)) rfl rfl) rfl hl.1.1 rfl (Nat.le_of_ble_eq_true rfl) dX5_guest_14 ⟨Nat.le_of_ble_eq_true rfl, Nat.le_of_ble_eq_true rfl⟩ (fun X' Z' Y' v k n H locs hp hw => ?_)
      obtain ⟨rfl, rfl, rfl, rfl, rfl, rfl⟩ := hp
      by_cases c8 : leastF S.1 = 8
      · rw [if_pos c8]
        refine w_istore_n hx hb dX5_guest_17 rfl hl (Nat.le_of_ble_eq_true rfl) (fun ls hl => ?_)
        refine lv_iload_n hx hb dX5_guest_18 rfl (hl.at rfl) ?_
        refine lv_if_lt (tgt := 32) hx hb dX5_guest_19 (by decide) (fun h19 => ?_) (fun h19 => ?_)
        · refine lv_iload_n hx hb dX5_guest_32 rfl (hl.at rfl) ?_
          have eo : gstS S (nI n) = (S, -12) := by unfold gstS; rw [if_neg hf, if_pos c8]
          exact w_iret C hw hr hlocks dX5_guest_33 ⟨rfl, rfl, rfl, rfl, by rw [eo], by rw [eo]; exact hMR, FM.refl⟩
        · exact absurd (by decide : (-12 : Int32) < 0) h19
      · have hi : leastF S.1 < 8 := Nat.lt_of_le_of_ne leastF_le c8
        rw [if_neg c8]
        obtain ⟨i, ei⟩ : ∃ i, i = leastF S.1 := ⟨_, rfl⟩
        rw [← ei] at hi ⊢
        have hB := hMX.2.1 i hi
        refine w_istore_n hx hb dX5_guest_17 rfl hl (Nat.le_of_ble_eq_true rfl) (fun ls hl => ?_)
        refine lv_iload_n hx hb dX5_guest_18 rfl (hl.at rfl) ?_
        refine lv_if_lt (tgt := 32) hx hb dX5_guest_19 (by decide) (fun h19 => ?_) (fun h19 => ?_)
        · exact absurd h19 (nI_pos (by omega))
        · refine lv_aload_n hx hb dX5_guest_22 rfl (hl.at rfl) ?_
          refine w_get C hw (c0 := 30) (i0 := 0) rfl inA5 0 (by decide) mw67 rfl dX5_guest_23 (hM 30 (by decide) (by decide)) rfl rfl rfl ?_
          refine lv_iload_n hx hb dX5_guest_26 rfl (hl.at rfl) ?_
          refine w_ald C hw (c0 := 31) (i0 := 0) (t := 3) dX5_guest_27 (hM 31 (by decide) (by decide)) rfl rfl rfl (vp_in_nI hi (by decide)) (nI_clamp (by omega)) ?_
          rw [arefM (hMX.2.2 i hi)]
          refine lv_iload_n hx hb dX5_guest_28 rfl (hl.at rfl) ?_
          refine w_callV C hN hw (c_X4_make l sz0 D cs X _ Y i hB n hn64) ⟨(Nat.le_of_ble_eq_true rfl), (Nat.le_of_ble_eq_true rfl), mw160, mw71, cy_X4_make⟩ mw157 mw158 mw159 (w_rec hw (c0 := 40) (i0 := i) (hB 40 (by decide) (by decide)) rfl rfl) rfl hl.1.1 rfl (Nat.le_of_ble_eq_true rfl) dX5_guest_29 ⟨Nat.le_of_ble_eq_true rfl, Nat.le_of_ble_eq_true rfl⟩ (fun X' Z' Y' v k n H locs hp hw => ?_)
          obtain ⟨rfl, rfl, rfl, rfl, rfl, hR1, h11, hfr⟩ := hp
          refine lv_iload_n hx hb dX5_guest_32 rfl (hl.at rfl) ?_
          have eo : gstS S (nI n) = ((upn S.1 i n, upm S.2.1 i (newG n), S.2.2), nI i) := by unfold gstS; rw [if_neg hf, if_neg c8, nI_clamp (show n < 2 ^ 31 by omega), ← ei]
          exact w_iret C hw hr hlocks dX5_guest_33 ⟨rfl, rfl, rfl, rfl, by rw [eo], by rw [eo]; exact MR_new hMR (by omega) hfr h11 hR1, fun c i' q => hfr c i' (by omega)⟩
    · refine lv_iconst (v := -1) hx hb dX5_guest_11 (by decide) ?_
      have eo : gstS S f = (S, -1) := by unfold gstS; rw [if_pos (Or.inr (Int32.not_le.mp h8))]
      exact w_iret C hw hr hlocks dX5_guest_12 ⟨rfl, rfl, rfl, rfl, by rw [eo], by rw [eo]; exact hMR, FM.refl⟩

set_option maxHeartbeats 4000000 in
set_option maxRecDepth 100000 in
theorem c_X5_install (l : Launch) (sz0 : Nat) (D : va_G) (cs : Nat → ClassId) (X : Sh) (Z : ZT) (Y : va_W) (S : HS) (hS : HOK S) (hMX : MRx X) (hMR : MR Z S) (h : Int32) (sl : Int32)  : Ctr l yX5_install (wsM yX5_install cX5_install 4 (some .int)) ({ frames := 0, cells := 0, slots := 0, locals := 0 } : Room) sz0 D cs [.ref (X.1 30 0), .int h, .int sl] X Z Y (Pz X Y (fun Z' v => v = some (.int (insS S h sl).2) ∧ MR Z' (insS S h sl).1 ∧ FM Z Z')) := by
  refine Ctr.ofW (by decide +kernel) (by intro v hv; simp at hv; rcases hv with rfl | rfl | rfl <;> rfl) (Nat.le_of_ble_eq_true rfl) ?_
  intro p e s m below meth c ls C hr hlocks hname hl hN hw
  obtain ⟨hx, hb, hml, hown, hts⟩ := id C
  have hM := hMX.1
  refine lv_iload_n hx hb dX5_install_0 rfl (hl.at rfl) ?_
  refine lv_iconst (v := 4) hx hb dX5_install_1 (by decide) ?_
  refine lv_icmp_lt (tgt := 24) hx hb dX5_install_2 (by decide) (fun h2 => ?_) (fun h2 => ?_)
  · refine lv_iconst (v := -1) hx hb dX5_install_24 (by decide) ?_
    have eo : insS S h sl = (S, -1) := by unfold insS; rw [if_pos (Or.inl h2)]
    exact w_iret C hw hr hlocks dX5_install_25 ⟨rfl, rfl, rfl, rfl, by rw [eo], by rw [eo]; exact hMR, FM.refl⟩
  · refine lv_iload_n hx hb dX5_install_5 rfl (hl.at rfl) ?_
    refine lv_sipush (v := 256) hx hb dX5_install_6 (by decide) ?_
    refine lv_icmp_gt (tgt := 24) hx hb dX5_install_9 (by decide) (fun h9 => ?_) (fun h9 => ?_)
    · refine lv_iconst (v := -1) hx hb dX5_install_24 (by decide) ?_
      have eo : insS S h sl = (S, -1) := by unfold insS; rw [if_pos (Or.inr (Or.inl h9))]
      exact w_iret C hw hr hlocks dX5_install_25 ⟨rfl, rfl, rfl, rfl, by rw [eo], by rw [eo]; exact hMR, FM.refl⟩
    · refine lv_iload_n hx hb dX5_install_12 rfl (hl.at rfl) ?_
      refine lv_iconst (v := 1) hx hb dX5_install_13 (by decide) ?_
      refine lv_icmp_lt (tgt := 24) hx hb dX5_install_14 (by decide) (fun h14 => ?_) (fun h14 => ?_)
      · refine lv_iconst (v := -1) hx hb dX5_install_24 (by decide) ?_
        have eo : insS S h sl = (S, -1) := by unfold insS; rw [if_pos (Or.inr (Or.inr (Or.inl h14)))]
        exact w_iret C hw hr hlocks dX5_install_25 ⟨rfl, rfl, rfl, rfl, by rw [eo], by rw [eo]; exact hMR, FM.refl⟩
      · refine lv_iload_n hx hb dX5_install_17 rfl (hl.at rfl) ?_
        refine lv_sipush (v := 1000) hx hb dX5_install_18 (by decide) ?_
        refine lv_icmp_le (tgt := 26) hx hb dX5_install_21 (by decide) (fun h21 => ?_) (fun h21 => ?_)
        · refine lv_iconst (v := 0) hx hb dX5_install_26 (by decide) ?_
          refine w_istore_n hx hb dX5_install_27 rfl hl (Nat.le_of_ble_eq_true rfl) (fun ls hl => ?_)
          have loop : ∀ (d j : Nat), j + d = 8 → ∀ (H : Heap) (locs : List Loc) (ls : Array Slot), lo ls [some (.ref (X.1 30 0)), some (.int h), some (.int sl), some (.int (nI j))] → Wd sz0 D cs s X (inZ Z j) Y H locs → W p l e ({ frames := 0, cells := 0, slots := 0, locals := 0 } : Room) s m ([.ref (X.1 30 0), .int h, .int sl] : List Value).toArray below meth c H locs 0 0 (xQ below (CQ sz0 D cs (Pz X Y (fun Z' v => v = some (.int (insS S h sl).2) ∧ MR Z' (insS S h sl).1 ∧ FM Z Z'))) ([.ref (X.1 30 0), .int h, .int sl] : List Value).toArray s (Asz sz0)) (F0 m 28 ls []) := by
            intro d
            induction d with
            | zero =>
              intro i hj H locs ls hl hw
              refine lv_iload_n hx hb dX5_install_28 rfl (hl.at rfl) ?_
              refine lv_bipush (v := 8) hx hb dX5_install_29 (by decide) ?_
              refine lv_icmp_ge (tgt := 50) hx hb dX5_install_31 (by decide) (fun h31 => ?_) (fun h31 => ?_)
              · have hi8 : i = 8 := by omega
                subst hi8
                refine lv_aload_n hx hb dX5_install_50 rfl (hl.at rfl) ?_
                refine lv_iload_n hx hb dX5_install_51 rfl (hl.at rfl) ?_
                refine w_put C hw (c0 := 30) (i0 := 0) rfl inA5 tyX5_ok nmX5 1 (by decide) mw68 rfl rfl rfl dX5_install_52 (hM 30 (by decide) (by decide)) rfl rfl rfl rfl (Nat.le_of_ble_eq_true rfl) rfl (fun H locs hw => ?_)
                refine lv_aload_n hx hb dX5_install_55 rfl (hl.at rfl) ?_
                refine lv_bipush (v := 7) hx hb dX5_install_56 (by decide) ?_
                refine w_put C hw (c0 := 30) (i0 := 0) rfl inA5 tyX5_ok nmX5 2 (by decide) mw69 rfl rfl rfl dX5_install_58 (hM 30 (by decide) (by decide)) rfl rfl rfl rfl (Nat.le_of_ble_eq_true rfl) rfl (fun H locs hw => ?_)
                refine lv_aload_n hx hb dX5_install_61 rfl (hl.at rfl) ?_
                refine lv_iconst (v := 0) hx hb dX5_install_62 (by decide) ?_
                refine w_put C hw (c0 := 30) (i0 := 0) rfl inA5 tyX5_ok nmX5 3 (by decide) mw92 rfl rfl rfl dX5_install_63 (hM 30 (by decide) (by decide)) rfl rfl rfl rfl (Nat.le_of_ble_eq_true rfl) rfl (fun H locs hw => ?_)
                refine lv_aload_n hx hb dX5_install_66 rfl (hl.at rfl) ?_
                refine lv_iconst (v := 0) hx hb dX5_install_67 (by decide) ?_
                refine w_put C hw (c0 := 30) (i0 := 0) rfl inA5 tyX5_ok nmX5 4 (by decide) mw93 rfl rfl rfl dX5_install_68 (hM 30 (by decide) (by decide)) rfl rfl rfl rfl (Nat.le_of_ble_eq_true rfl) rfl (fun H locs hw => ?_)
                refine lv_iconst (v := 0) hx hb dX5_install_71 (by decide) ?_
                simp only [upr_uu, upr_s] at hw
                have z30 : inZ Z 8 30 0 = Z 30 0 := by unfold inZ; rw [if_neg (by decide)]
                have eo : insS S h sl = ((fun _ => 0, S.2.1, upd (upd (upd (upd S.2.2 0 sl) 1 7) 2 0) 3 0), 0) := by unfold insS; rw [if_neg (fun q => q.elim h2 (fun q => q.elim h9 (fun q => q.elim h14 (fun q => Int32.not_lt.mpr h21 q))))]
                exact w_iret C hw hr hlocks dX5_install_72 ⟨rfl, rfl, rfl, rfl, by rw [eo], by rw [eo]; exact ⟨by rw [upr_s]; simp [upd], fun j hj => ⟨fun _ => by rw [upr_k (by decide)]; unfold inZ; rw [if_pos ⟨rfl, hj⟩, upd_s], fun q => absurd rfl q⟩⟩, fun c i' q => by rw [upr_k (by omega)]; unfold inZ; rw [if_neg (by omega)]⟩
              · exact absurd (nI_le (show 8 ≤ i by omega) (by omega)) h31
            | succ d ih =>
              intro i hj H locs ls hl hw
              refine lv_iload_n hx hb dX5_install_28 rfl (hl.at rfl) ?_
              refine lv_bipush (v := 8) hx hb dX5_install_29 (by decide) ?_
              refine lv_icmp_ge (tgt := 50) hx hb dX5_install_31 (by decide) (fun h31 => ?_) (fun h31 => ?_)
              · exact absurd (show nI 8 ≤ nI i from h31) (nI_ge (show i < 8 by omega) (by decide))
              · have hi : i < 8 := by omega
                have hB := hMX.2.1 i hi
                refine lv_aload_n hx hb dX5_install_34 rfl (hl.at rfl) ?_
                refine w_get C hw (c0 := 30) (i0 := 0) rfl inA5 0 (by decide) mw67 rfl dX5_install_35 (hM 30 (by decide) (by decide)) rfl rfl rfl ?_
                refine lv_iload_n hx hb dX5_install_38 rfl (hl.at rfl) ?_
                refine w_ald C hw (c0 := 31) (i0 := 0) (t := 3) dX5_install_39 (hM 31 (by decide) (by decide)) rfl rfl rfl (vp_in_nI hi (by decide)) (nI_clamp (by omega)) ?_
                rw [arefM (hMX.2.2 i hi)]
                refine lv_iconst (v := 0) hx hb dX5_install_40 (by decide) ?_
                refine w_put C hw (c0 := 40) (i0 := i) rfl inA4 tyX4_ok nmX4 1 (by decide) mw91 rfl rfl rfl dX5_install_41 (hB 40 (by decide) (by decide)) rfl (by decide) (by decide) rfl (Nat.le_of_ble_eq_true rfl) rfl (fun H locs hw => ?_)
                refine w_iinc hx hb dX5_install_44 hl rfl rfl (fun ls hl => ?_)
                refine lv_goto (tgt := 28) hx hb dX5_install_47 (by decide) ?_
                rw [inZ_s] at hw
                exact ih (i + 1) (by omega) _ _ _ (by rw [← nI_1]; exact hl) hw
          exact loop 8 0 (by decide) _ _ _ hl (by rw [inZ_0]; exact hw)
        · refine lv_iconst (v := -1) hx hb dX5_install_24 (by decide) ?_
          have eo : insS S h sl = (S, -1) := by unfold insS; rw [if_pos (Or.inr (Or.inr (Or.inr (Int32.not_le.mp h21))))]
          exact w_iret C hw hr hlocks dX5_install_25 ⟨rfl, rfl, rfl, rfl, by rw [eo], by rw [eo]; exact hMR, FM.refl⟩

theorem runs_of {S : HS} {i : Nat} (h : runs S i = true) : S.1 i ≠ 0 ∧ S.2.1 i 0 1 = 1 := of_decide_eq_true h
theorem runs_y {S : HS} {i : Nat} (h0 : S.1 i ≠ 0) (h1 : S.2.1 i 0 1 = 1) : runs S i = true := decide_eq_true ⟨h0, h1⟩
set_option maxHeartbeats 4000000 in
set_option maxRecDepth 100000 in
theorem c_X5_isRunning (l : Launch) (sz0 : Nat) (D : va_G) (cs : Nat → ClassId) (X : Sh) (Z : ZT) (Y : va_W) (S : HS) (hS : HOK S) (hMX : MRx X) (hMR : MR Z S) (i : Nat) (hi : i < 8) : Ctr l yX5_isRunning (wsM yX5_isRunning cX5_isRunning 2 (some .boolean)) ({ frames := 0, cells := 0, slots := 0, locals := 0 } : Room) sz0 D cs [.ref (X.1 30 0), .int (nI i)] X Z Y (Pz X Y (fun Z' v => v = some (.int (if runs S i = true then 1 else 0)) ∧ Z = Z')) := by
  refine Ctr.ofW (by decide +kernel) (by intro v hv; simp at hv; rcases hv with rfl | rfl <;> rfl) (Nat.le_of_ble_eq_true rfl) ?_
  intro p e s m below meth c ls C hr hlocks hname hl hN hw
  obtain ⟨hx, hb, hml, hown, hts⟩ := id C
  have hM := hMX.1
  have hB := hMX.2.1 i hi
  have hg := hMR.2 i hi
  refine lv_aload_n hx hb dX5_isRunning_0 rfl (hl.at rfl) ?_
  refine w_get C hw (c0 := 30) (i0 := 0) rfl inA5 0 (by decide) mw67 rfl dX5_isRunning_1 (hM 30 (by decide) (by decide)) rfl rfl rfl ?_
  refine lv_iload_n hx hb dX5_isRunning_4 rfl (hl.at rfl) ?_
  refine w_ald C hw (c0 := 31) (i0 := 0) (t := 3) dX5_isRunning_5 (hM 31 (by decide) (by decide)) rfl rfl rfl (vp_in_nI hi (by decide)) (nI_clamp (by omega)) ?_
  rw [arefM (hMX.2.2 i hi)]
  refine w_get C hw (c0 := 40) (i0 := i) rfl inA4 1 (by decide) mw91 rfl dX5_isRunning_6 (hB 40 (by decide) (by decide)) rfl rfl rfl ?_
  refine lv_if_eq (tgt := 29) hx hb dX5_isRunning_9 (by decide) (fun h9 => ?_) (fun h9 => ?_)
  · refine lv_iconst (v := 0) hx hb dX5_isRunning_29 (by decide) ?_
    exact w_zret C hw hr hlocks dX5_isRunning_30 (by decide) ⟨rfl, rfl, rfl, rfl, by rw [if_neg (fun q => (fun q => absurd h9 (by rw [(hg.2 q.1).1]; decide)) (runs_of q))], rfl⟩
  · have h0 : S.1 i ≠ 0 := fun q => h9 (hg.1 q)
    refine lv_aload_n hx hb dX5_isRunning_12 rfl (hl.at rfl) ?_
    refine w_get C hw (c0 := 30) (i0 := 0) rfl inA5 0 (by decide) mw67 rfl dX5_isRunning_13 (hM 30 (by decide) (by decide)) rfl rfl rfl ?_
    refine lv_iload_n hx hb dX5_isRunning_16 rfl (hl.at rfl) ?_
    refine w_ald C hw (c0 := 31) (i0 := 0) (t := 3) dX5_isRunning_17 (hM 31 (by decide) (by decide)) rfl rfl rfl (vp_in_nI hi (by decide)) (nI_clamp (by omega)) ?_
    rw [arefM (hMX.2.2 i hi)]
    refine w_get C hw (c0 := 40) (i0 := i) rfl inA4 12 (by decide) mw238 rfl dX5_isRunning_18 (hB 40 (by decide) (by decide)) rfl rfl rfl ?_
    rw [((hg.2 h0).2).1.2.1]
    refine lv_iconst (v := 1) hx hb dX5_isRunning_21 (by decide) ?_
    refine lv_icmp_ne (tgt := 29) hx hb dX5_isRunning_22 (by decide) (fun h22 => ?_) (fun h22 => ?_)
    · refine lv_iconst (v := 0) hx hb dX5_isRunning_29 (by decide) ?_
      exact w_zret C hw hr hlocks dX5_isRunning_30 (by decide) ⟨rfl, rfl, rfl, rfl, by rw [if_neg (fun q => (fun q => h22 q.2) (runs_of q))], rfl⟩
    · refine lv_iconst (v := 1) hx hb dX5_isRunning_25 (by decide) ?_
      refine lv_goto (tgt := 30) hx hb dX5_isRunning_26 (by decide) ?_
      exact w_zret C hw hr hlocks dX5_isRunning_30 (by decide) ⟨rfl, rfl, rfl, rfl, by rw [if_pos (runs_y h0 h22)], rfl⟩
