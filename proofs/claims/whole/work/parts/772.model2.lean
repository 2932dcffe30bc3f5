set_option maxHeartbeats 4000000 in
set_option maxRecDepth 100000 in
theorem c_X5_poke (l : Launch) (sz0 : Nat) (D : va_G) (cs : Nat → ClassId) (X : Sh) (Z : ZT) (Y : va_W) (S : HS) (hS : HOK S) (hMX : MRx X) (hMR : MR Z S) (a : Int32) (x : Int32) (u : Int32)  : Ctr l yX5_poke (wsM yX5_poke cX5_poke 5 (some .int)) ({ frames := 2, cells := 0, slots := 0, locals := 42 } : Room) sz0 D cs [.ref (X.1 30 0), .int a, .int x, .int u] X Z Y (Pz X Y (fun Z' v => v = some (.int (pkS S a x u).2) ∧ MR Z' (pkS S a x u).1 ∧ FM Z Z')) := by
  refine Ctr.ofW (by decide +kernel) (by intro v hv; simp at hv; rcases hv with rfl | rfl | rfl | rfl <;> rfl) (Nat.le_of_ble_eq_true rfl) ?_
  intro p e s m below meth c ls C hr hlocks hname hl hN hw
  obtain ⟨hx, hb, hml, hown, hts⟩ := id C
  have hM := hMX.1
  refine lv_aload_n hx hb dX5_poke_0 rfl (hl.at rfl) ?_
  refine lv_iload_n hx hb dX5_poke_1 rfl (hl.at rfl) ?_
  refine w_callV C hN hw (c_X5_of l sz0 D cs X _ Y S hS hMX hMR a) ⟨(Nat.le_of_ble_eq_true rfl), (Nat.le_of_ble_eq_true rfl), mw243, mw6, cy_X5_of⟩ mw240 mw241 mw242 (w_rec hw (c0 := 30) (i0 := 0) (hM 30 (by decide) (by decide)) rfl rfl) rfl hl.1.1 rfl (Nat.le_of_ble_eq_true rfl) dX5_poke_2 ⟨Nat.le_of_ble_eq_true rfl, Nat.le_of_ble_eq_true rfl⟩ (fun X' Z' Y' v k n H locs hp hw => ?_)
  obtain ⟨rfl, rfl, rfl, rfl, rfl, hp⟩ := hp
  rcases hp with ⟨i, hi, rfl, h0, rfl⟩ | ⟨hn, rfl⟩
  · have hB := hMX.2.1 i hi
    have hg := (hMR.2 i hi).2 h0
    have hR := hg.2
    have hy := fnd_y hi h0
    have ecl : (nI i).toNatClampNeg = i := nI_clamp (by omega)
    have hF : S.1 i ≤ 64 := (hS.1 i hi).1
    refine w_astore hx hb dX5_poke_5 hl (Nat.le_of_ble_eq_true rfl) (fun ls hl => ?_)
    refine lv_aload hx hb dX5_poke_7 (hl.at rfl) ?_
    refine lv_ifnonnull (tgt := 15) hx hb dX5_poke_9 (by decide) ?_
    refine lv_aload hx hb dX5_poke_15 (hl.at rfl) ?_
    refine w_get C hw (c0 := 40) (i0 := i) rfl inA4 12 (by decide) mw238 rfl dX5_poke_17 (hB 40 (by decide) (by decide)) rfl rfl rfl ?_
    rw [hR.1.2.1]
    refine lv_if_eq (tgt := 25) hx hb dX5_poke_20 (by decide) (fun h20 => ?_) (fun h20 => ?_)
    · refine lv_aload hx hb dX5_poke_25 (hl.at rfl) ?_
      refine lv_iload_n hx hb dX5_poke_27 rfl (hl.at rfl) ?_
      refine w_callV C hN hw (c_X4_isMemory l sz0 D cs X _ Y i hB x) ⟨(Nat.le_of_ble_eq_true rfl), (Nat.le_of_ble_eq_true rfl), mw247, mw71, cy_X4_isMemory⟩ mw244 mw245 mw246 (w_rec hw (c0 := 40) (i0 := i) (hB 40 (by decide) (by decide)) rfl rfl) rfl hl.1.1 rfl (Nat.le_of_ble_eq_true rfl) dX5_poke_28 ⟨Nat.le_of_ble_eq_true rfl, Nat.le_of_ble_eq_true rfl⟩ (fun X' Z' Y' v k n H locs hp hw => ?_)
      obtain ⟨rfl, rfl, rfl, rfl, rfl, rfl⟩ := hp
      rw [hR.1.1, bwv_has hF]
      refine lv_if_ne (tgt := 37) hx hb dX5_poke_31 (by decide) (fun h31 => ?_) (fun h31 => ?_)
      · obtain ⟨xn, hxn, rfl⟩ := hasWv_in hF h31
        refine lv_aload hx hb dX5_poke_37 (hl.at rfl) ?_
        refine w_get C hw (c0 := 40) (i0 := i) rfl inA4 2 (by decide) mw239 rfl dX5_poke_39 (hB 40 (by decide) (by decide)) rfl rfl rfl ?_
        refine lv_iload_n hx hb dX5_poke_42 rfl (hl.at rfl) ?_
        refine lv_iload_n hx hb dX5_poke_43 rfl (hl.at rfl) ?_
        refine w_ist C hw (c0 := 41) (i0 := i) dX5_poke_44 (hB 41 (by decide) (by decide)) rfl (fun _ => rfl) (vp_in_nI (show xn < 4096 by omega) (by decide)) (nI_clamp (by omega)) (fun H locs hw => ?_)
        refine lv_iconst (v := 0) hx hb dX5_poke_45 (by decide) ?_
        have eo : pkS S (nI i) (nI xn) u = (setM S i (gu (S.2.1 i) 1 xn u), 0) := by unfold pkS; rw [if_neg (by rw [hy]; decide), ecl, if_neg (fun q => q h20), if_neg h31, nI_clamp (show xn < 2 ^ 31 by omega)]
        exact w_iret C hw hr hlocks dX5_poke_46 ⟨rfl, rfl, rfl, rfl, by rw [eo], by rw [eo]; exact MR_set hMR h0 hi (SB.refl.up (by decide) (by decide)) (BR_41 hR), FM.refl.up (by decide)⟩
      · refine lv_bipush (v := -2) hx hb dX5_poke_34 (by decide) ?_
        have eo : pkS S (nI i) x u = (S, -2) := by unfold pkS; rw [if_neg (by rw [hy]; decide), ecl, if_neg (fun q => q h20), if_pos h31]
        exact w_iret C hw hr hlocks dX5_poke_36 ⟨rfl, rfl, rfl, rfl, by rw [eo], by rw [eo]; exact hMR, FM.refl⟩
    · refine lv_iconst (v := -1) hx hb dX5_poke_23 (by decide) ?_
      have eo : pkS S (nI i) x u = (S, -1) := by unfold pkS; rw [if_neg (by rw [hy]; decide), ecl, if_pos h20]
      exact w_iret C hw hr hlocks dX5_poke_24 ⟨rfl, rfl, rfl, rfl, by rw [eo], by rw [eo]; exact hMR, FM.refl⟩
  · refine w_astoreN hx hb dX5_poke_5 hl (Nat.le_of_ble_eq_true rfl) (fun ls hl => ?_)
    refine lv_aloadN hx hb dX5_poke_7 (hl.at rfl) ?_
    refine lv_ifnonnullN hx hb dX5_poke_9 ?_
    refine lv_bipush (v := -14) hx hb dX5_poke_12 (by decide) ?_
    exact w_iret C hw hr hlocks dX5_poke_14 ⟨rfl, rfl, rfl, rfl, by unfold pkS; rw [if_pos hn], by unfold pkS; rw [if_pos hn]; exact hMR, FM.refl⟩

set_option maxHeartbeats 4000000 in
set_option maxRecDepth 100000 in
theorem c_X5_pokeDisk (l : Launch) (sz0 : Nat) (D : va_G) (cs : Nat → ClassId) (X : Sh) (Z : ZT) (Y : va_W) (S : HS) (hS : HOK S) (hMX : MRx X) (hMR : MR Z S) (a : Int32) (x : Int32) (u : Int32)  : Ctr l yX5_pokeDisk (wsM yX5_pokeDisk cX5_pokeDisk 5 (some .int)) ({ frames := 1, cells := 0, slots := 0, locals := 21 } : Room) sz0 D cs [.ref (X.1 30 0), .int a, .int x, .int u] X Z Y (Pz X Y (fun Z' v => v = some (.int (pdS S a x u).2) ∧ MR Z' (pdS S a x u).1 ∧ FM Z Z')) := by
  refine Ctr.ofW (by decide +kernel) (by intro v hv; simp at hv; rcases hv with rfl | rfl | rfl | rfl <;> rfl) (Nat.le_of_ble_eq_true rfl) ?_
  intro p e s m below meth c ls C hr hlocks hname hl hN hw
  obtain ⟨hx, hb, hml, hown, hts⟩ := id C
  have hM := hMX.1
  refine lv_aload_n hx hb dX5_pokeDisk_0 rfl (hl.at rfl) ?_
  refine lv_iload_n hx hb dX5_pokeDisk_1 rfl (hl.at rfl) ?_
  refine w_callV C hN hw (c_X5_of l sz0 D cs X _ Y S hS hMX hMR a) ⟨(Nat.le_of_ble_eq_true rfl), (Nat.le_of_ble_eq_true rfl), mw243, mw6, cy_X5_of⟩ mw240 mw241 mw242 (w_rec hw (c0 := 30) (i0 := 0) (hM 30 (by decide) (by decide)) rfl rfl) rfl hl.1.1 rfl (Nat.le_of_ble_eq_true rfl) dX5_pokeDisk_2 ⟨Nat.le_of_ble_eq_true rfl, Nat.le_of_ble_eq_true rfl⟩ (fun X' Z' Y' v k n H locs hp hw => ?_)
  obtain ⟨rfl, rfl, rfl, rfl, rfl, hp⟩ := hp
  rcases hp with ⟨i, hi, rfl, h0, rfl⟩ | ⟨hn, rfl⟩
  · have hB := hMX.2.1 i hi
    have hg := (hMR.2 i hi).2 h0
    have hR := hg.2
    have hy := fnd_y hi h0
    have ecl : (nI i).toNatClampNeg = i := nI_clamp (by omega)
    have hF : S.1 i ≤ 64 := (hS.1 i hi).1
    refine w_astore hx hb dX5_pokeDisk_5 hl (Nat.le_of_ble_eq_true rfl) (fun ls hl => ?_)
    refine lv_aload hx hb dX5_pokeDisk_7 (hl.at rfl) ?_
    refine lv_ifnonnull (tgt := 15) hx hb dX5_pokeDisk_9 (by decide) ?_
    refine lv_aload hx hb dX5_pokeDisk_15 (hl.at rfl) ?_
    refine w_get C hw (c0 := 40) (i0 := i) rfl inA4 12 (by decide) mw238 rfl dX5_pokeDisk_17 (hB 40 (by decide) (by decide)) rfl rfl rfl ?_
    rw [hR.1.2.1]
    refine lv_if_eq (tgt := 25) hx hb dX5_pokeDisk_20 (by decide) (fun h20 => ?_) (fun h20 => ?_)
    · refine lv_iload_n hx hb dX5_pokeDisk_25 rfl (hl.at rfl) ?_
      refine lv_if_lt (tgt := 36) hx hb dX5_pokeDisk_26 (by decide) (fun h26 => ?_) (fun h26 => ?_)
      · refine lv_bipush (v := -2) hx hb dX5_pokeDisk_36 (by decide) ?_
        have eo : pdS S (nI i) x u = (S, -2) := by unfold pdS; rw [if_neg (by rw [hy]; decide), ecl, if_neg (fun q => q h20), if_pos (Or.inl h26)]
        exact w_iret C hw hr hlocks dX5_pokeDisk_38 ⟨rfl, rfl, rfl, rfl, by rw [eo], by rw [eo]; exact hMR, FM.refl⟩
      · refine lv_iload_n hx hb dX5_pokeDisk_29 rfl (hl.at rfl) ?_
        refine lv_sipush (v := 1024) hx hb dX5_pokeDisk_30 (by decide) ?_
        refine lv_icmp_lt (tgt := 39) hx hb dX5_pokeDisk_33 (by decide) (fun h33 => ?_) (fun h33 => ?_)
        · have hv : vp_in x 1024 := vpr (N := 1024) (by decide) h26 (fun q => Int32.not_lt.mpr q h33)
          refine lv_aload hx hb dX5_pokeDisk_39 (hl.at rfl) ?_
          refine w_get C hw (c0 := 40) (i0 := i) rfl inA4 3 (by decide) mw259 rfl dX5_pokeDisk_41 (hB 40 (by decide) (by decide)) rfl rfl rfl ?_
          refine lv_iload_n hx hb dX5_pokeDisk_44 rfl (hl.at rfl) ?_
          refine lv_iload_n hx hb dX5_pokeDisk_45 rfl (hl.at rfl) ?_
          refine w_ist C hw (c0 := 42) (i0 := i) dX5_pokeDisk_46 (hB 42 (by decide) (by decide)) rfl (fun _ => rfl) hv rfl (fun H locs hw => ?_)
          refine lv_iconst (v := 0) hx hb dX5_pokeDisk_47 (by decide) ?_
          have eo : pdS S (nI i) x u = (setM S i (gu (S.2.1 i) 2 x.toNatClampNeg u), 0) := by unfold pdS; rw [if_neg (by rw [hy]; decide), ecl, if_neg (fun q => q h20), if_neg (fun q => q.elim h26 (fun q => q h33))]
          exact w_iret C hw hr hlocks dX5_pokeDisk_48 ⟨rfl, rfl, rfl, rfl, by rw [eo], by rw [eo]; exact MR_set hMR h0 hi (SB.refl.up (by decide) (by decide)) (BR_42r hR (upd_eq hR.2.2.1)), FM.refl.up (by decide)⟩
        · refine lv_bipush (v := -2) hx hb dX5_pokeDisk_36 (by decide) ?_
          have eo : pdS S (nI i) x u = (S, -2) := by unfold pdS; rw [if_neg (by rw [hy]; decide), ecl, if_neg (fun q => q h20), if_pos (Or.inr h33)]
          exact w_iret C hw hr hlocks dX5_pokeDisk_38 ⟨rfl, rfl, rfl, rfl, by rw [eo], by rw [eo]; exact hMR, FM.refl⟩
    · refine lv_iconst (v := -1) hx hb dX5_pokeDisk_23 (by decide) ?_
      have eo : pdS S (nI i) x u = (S, -1) := by unfold pdS; rw [if_neg (by rw [hy]; decide), ecl, if_pos h20]
      exact w_iret C hw hr hlocks dX5_pokeDisk_24 ⟨rfl, rfl, rfl, rfl, by rw [eo], by rw [eo]; exact hMR, FM.refl⟩
  · refine w_astoreN hx hb dX5_pokeDisk_5 hl (Nat.le_of_ble_eq_true rfl) (fun ls hl => ?_)
    refine lv_aloadN hx hb dX5_pokeDisk_7 (hl.at rfl) ?_
    refine lv_ifnonnullN hx hb dX5_pokeDisk_9 ?_
    refine lv_bipush (v := -14) hx hb dX5_pokeDisk_12 (by decide) ?_
    exact w_iret C hw hr hlocks dX5_pokeDisk_14 ⟨rfl, rfl, rfl, rfl, by unfold pdS; rw [if_pos hn], by unfold pdS; rw [if_pos hn]; exact hMR, FM.refl⟩

set_option maxHeartbeats 4000000 in
set_option maxRecDepth 100000 in
theorem c_X5_start (l : Launch) (sz0 : Nat) (D : va_G) (cs : Nat → ClassId) (X : Sh) (Z : ZT) (Y : va_W) (S : HS) (hS : HOK S) (hMX : MRx X) (hMR : MR Z S) (a : Int32) (x : Int32)  : Ctr l yX5_start (wsM yX5_start cX5_start 4 (some .int)) ({ frames := 2, cells := 0, slots := 0, locals := 43 } : Room) sz0 D cs [.ref (X.1 30 0), .int a, .int x] X Z Y (Pz X Y (fun Z' v => v = some (.int (stS S a x).2) ∧ MR Z' (stS S a x).1 ∧ FM Z Z')) := by
  refine Ctr.ofW (by decide +kernel) (by intro v hv; simp at hv; rcases hv with rfl | rfl | rfl <;> rfl) (Nat.le_of_ble_eq_true rfl) ?_
  intro p e s m below meth c ls C hr hlocks hname hl hN hw
  obtain ⟨hx, hb, hml, hown, hts⟩ := id C
  have hM := hMX.1
  refine lv_aload_n hx hb dX5_start_0 rfl (hl.at rfl) ?_
  refine lv_iload_n hx hb dX5_start_1 rfl (hl.at rfl) ?_
  refine w_callV C hN hw (c_X5_of l sz0 D cs X _ Y S hS hMX hMR a) ⟨(Nat.le_of_ble_eq_true rfl), (Nat.le_of_ble_eq_true rfl), mw243, mw6, cy_X5_of⟩ mw240 mw241 mw242 (w_rec hw (c0 := 30) (i0 := 0) (hM 30 (by decide) (by decide)) rfl rfl) rfl hl.1.1 rfl (Nat.le_of_ble_eq_true rfl) dX5_start_2 ⟨Nat.le_of_ble_eq_true rfl, Nat.le_of_ble_eq_true rfl⟩ (fun X' Z' Y' v k n H locs hp hw => ?_)
  obtain ⟨rfl, rfl, rfl, rfl, rfl, hp⟩ := hp
  rcases hp with ⟨i, hi, rfl, h0, rfl⟩ | ⟨hn, rfl⟩
  · have hB := hMX.2.1 i hi
    have hg := (hMR.2 i hi).2 h0
    have hR := hg.2
    have hy := fnd_y hi h0
    have ecl : (nI i).toNatClampNeg = i := nI_clamp (by omega)
    have hF : S.1 i ≤ 64 := (hS.1 i hi).1
    refine w_astore_n hx hb dX5_start_5 rfl hl (Nat.le_of_ble_eq_true rfl) (fun ls hl => ?_)
    refine lv_aload_n hx hb dX5_start_6 rfl (hl.at rfl) ?_
    refine lv_ifnonnull (tgt := 13) hx hb dX5_start_7 (by decide) ?_
    refine lv_aload_n hx hb dX5_start_13 rfl (hl.at rfl) ?_
    refine w_get C hw (c0 := 40) (i0 := i) rfl inA4 12 (by decide) mw238 rfl dX5_start_14 (hB 40 (by decide) (by decide)) rfl rfl rfl ?_
    rw [hR.1.2.1]
    refine lv_if_eq (tgt := 22) hx hb dX5_start_17 (by decide) (fun h17 => ?_) (fun h17 => ?_)
    · refine lv_aload_n hx hb dX5_start_22 rfl (hl.at rfl) ?_
      refine lv_iload_n hx hb dX5_start_23 rfl (hl.at rfl) ?_
      refine w_callV C hN hw (c_X4_start l sz0 D cs X _ Y i hB x) ⟨(Nat.le_of_ble_eq_true rfl), (Nat.le_of_ble_eq_true rfl), mw170, mw71, cy_X4_start⟩ mw269 mw168 mw169 (w_rec hw (c0 := 40) (i0 := i) (hB 40 (by decide) (by decide)) rfl rfl) rfl hl.1.1 rfl (Nat.le_of_ble_eq_true rfl) dX5_start_24 ⟨Nat.le_of_ble_eq_true rfl, Nat.le_of_ble_eq_true rfl⟩ (fun X' Z' Y' v k n H locs hp hw => ?_)
      obtain ⟨rfl, rfl, rfl, rfl, rfl, hp⟩ := hp
      obtain ⟨hR1, hS1⟩ := STs_BR hR hp
      refine lv_iconst (v := 0) hx hb dX5_start_27 (by decide) ?_
      have eo : stS S (nI i) x = (setM S i (resG (S.2.1 i) (S.1 i) x), 0) := by unfold stS; rw [if_neg (by rw [hy]; decide), ecl, if_neg (fun q => q h17)]
      exact w_iret C hw hr hlocks dX5_start_28 ⟨rfl, rfl, rfl, rfl, by rw [eo], by rw [eo]; exact MR_set hMR h0 hi hS1 hR1, FM.refl.sb hS1⟩
    · refine lv_iconst (v := -1) hx hb dX5_start_20 (by decide) ?_
      have eo : stS S (nI i) x = (S, -1) := by unfold stS; rw [if_neg (by rw [hy]; decide), ecl, if_pos h17]
      exact w_iret C hw hr hlocks dX5_start_21 ⟨rfl, rfl, rfl, rfl, by rw [eo], by rw [eo]; exact hMR, FM.refl⟩
  · refine w_astore_nN hx hb dX5_start_5 rfl hl (Nat.le_of_ble_eq_true rfl) (fun ls hl => ?_)
    refine lv_aload_nN hx hb dX5_start_6 rfl (hl.at rfl) ?_
    refine lv_ifnonnullN hx hb dX5_start_7 ?_
    refine lv_bipush (v := -14) hx hb dX5_start_10 (by decide) ?_
    exact w_iret C hw hr hlocks dX5_start_12 ⟨rfl, rfl, rfl, rfl, by unfold stS; rw [if_pos hn], by unfold stS; rw [if_pos hn]; exact hMR, FM.refl⟩

set_option maxHeartbeats 4000000 in
set_option maxRecDepth 100000 in
theorem c_X5_stop (l : Launch) (sz0 : Nat) (D : va_G) (cs : Nat → ClassId) (X : Sh) (Z : ZT) (Y : va_W) (S : HS) (hS : HOK S) (hMX : MRx X) (hMR : MR Z S) (a : Int32)  : Ctr l yX5_stop (wsM yX5_stop cX5_stop 2 (some .int)) ({ frames := 1, cells := 0, slots := 0, locals := 21 } : Room) sz0 D cs [.ref (X.1 30 0), .int a] X Z Y (Pz X Y (fun Z' v => v = some (.int (spS S a).2) ∧ MR Z' (spS S a).1 ∧ FM Z Z')) := by
  refine Ctr.ofW (by decide +kernel) (by intro v hv; simp at hv; rcases hv with rfl | rfl <;> rfl) (Nat.le_of_ble_eq_true rfl) ?_
  intro p e s m below meth c ls C hr hlocks hname hl hN hw
  obtain ⟨hx, hb, hml, hown, hts⟩ := id C
  have hM := hMX.1
  refine lv_aload_n hx hb dX5_stop_0 rfl (hl.at rfl) ?_
  refine lv_iload_n hx hb dX5_stop_1 rfl (hl.at rfl) ?_
  refine w_callV C hN hw (c_X5_of l sz0 D cs X _ Y S hS hMX hMR a) ⟨(Nat.le_of_ble_eq_true rfl), (Nat.le_of_ble_eq_true rfl), mw243, mw6, cy_X5_of⟩ mw240 mw241 mw242 (w_rec hw (c0 := 30) (i0 := 0) (hM 30 (by decide) (by decide)) rfl rfl) rfl hl.1.1 rfl (Nat.le_of_ble_eq_true rfl) dX5_stop_2 ⟨Nat.le_of_ble_eq_true rfl, Nat.le_of_ble_eq_true rfl⟩ (fun X' Z' Y' v k n H locs hp hw => ?_)
  obtain ⟨rfl, rfl, rfl, rfl, rfl, hp⟩ := hp
  rcases hp with ⟨i, hi, rfl, h0, rfl⟩ | ⟨hn, rfl⟩
  · have hB := hMX.2.1 i hi
    have hg := (hMR.2 i hi).2 h0
    have hR := hg.2
    have hy := fnd_y hi h0
    have ecl : (nI i).toNatClampNeg = i := nI_clamp (by omega)
    have hF : S.1 i ≤ 64 := (hS.1 i hi).1
    refine lv_ifnonnull (tgt := 11) hx hb dX5_stop_5 (by decide) ?_
    refine lv_aload_n hx hb dX5_stop_11 rfl (hl.at rfl) ?_
    refine lv_iload_n hx hb dX5_stop_12 rfl (hl.at rfl) ?_
    refine w_callV C hN hw (c_X5_ofY l sz0 D cs X _ Y S hS hMX hMR i hi h0) ⟨(Nat.le_of_ble_eq_true rfl), (Nat.le_of_ble_eq_true rfl), mw243, mw6, cy_X5_of⟩ mw240 mw241 mw242 (w_rec hw (c0 := 30) (i0 := 0) (hM 30 (by decide) (by decide)) rfl rfl) rfl hl.1.1 rfl (Nat.le_of_ble_eq_true rfl) dX5_stop_13 ⟨Nat.le_of_ble_eq_true rfl, Nat.le_of_ble_eq_true rfl⟩ (fun X' Z' Y' v k n H locs hp hw => ?_)
    obtain ⟨rfl, rfl, rfl, rfl, rfl, rfl⟩ := hp
    refine lv_iconst (v := 0) hx hb dX5_stop_16 (by decide) ?_
    refine w_put C hw (c0 := 40) (i0 := i) rfl inA4 tyX4_ok nmX4 12 (by decide) mw238 rfl rfl rfl dX5_stop_17 (hB 40 (by decide) (by decide)) rfl rfl rfl rfl (Nat.le_of_ble_eq_true rfl) rfl (fun H locs hw => ?_)
    refine lv_iconst (v := 0) hx hb dX5_stop_20 (by decide) ?_
    have eo : spS S (nI i) = (setM S i (gu (S.2.1 i) 0 1 0), 0) := by unfold spS; rw [if_neg (by rw [hy]; decide), ecl]
    exact w_iret C hw hr hlocks dX5_stop_21 ⟨rfl, rfl, rfl, rfl, by rw [eo], by rw [eo]; exact MR_set hMR h0 hi (SB.refl.u40 (by decide)) (BR_n hR rfl), FM.refl.up (by decide)⟩
  · refine lv_ifnonnullN hx hb dX5_stop_5 ?_
    refine lv_bipush (v := -14) hx hb dX5_stop_8 (by decide) ?_
    exact w_iret C hw hr hlocks dX5_stop_10 ⟨rfl, rfl, rfl, rfl, by unfold spS; rw [if_pos hn], by unfold spS; rw [if_pos hn]; exact hMR, FM.refl⟩

set_option maxHeartbeats 4000000 in
set_option maxRecDepth 100000 in
theorem c_X5_input (l : Launch) (sz0 : Nat) (D : va_G) (cs : Nat → ClassId) (X : Sh) (Z : ZT) (Y : va_W) (S : HS) (hS : HOK S) (hMX : MRx X) (hMR : MR Z S) (a : Int32) (u : Int32)  : Ctr l yX5_input (wsM yX5_input cX5_input 4 (some .int)) ({ frames := 1, cells := 0, slots := 0, locals := 21 } : Room) sz0 D cs [.ref (X.1 30 0), .int a, .int u] X Z Y (Pz X Y (fun Z' v => v = some (.int (ipS S a u).2) ∧ MR Z' (ipS S a u).1 ∧ FM Z Z')) := by
  refine Ctr.ofW (by decide +kernel) (by intro v hv; simp at hv; rcases hv with rfl | rfl | rfl <;> rfl) (Nat.le_of_ble_eq_true rfl) ?_
  intro p e s m below meth c ls C hr hlocks hname hl hN hw
  obtain ⟨hx, hb, hml, hown, hts⟩ := id C
  have hM := hMX.1
  refine lv_aload_n hx hb dX5_input_0 rfl (hl.at rfl) ?_
  refine lv_iload_n hx hb dX5_input_1 rfl (hl.at rfl) ?_
  refine w_callV C hN hw (c_X5_of l sz0 D cs X _ Y S hS hMX hMR a) ⟨(Nat.le_of_ble_eq_true rfl), (Nat.le_of_ble_eq_true rfl), mw243, mw6, cy_X5_of⟩ mw240 mw241 mw242 (w_rec hw (c0 := 30) (i0 := 0) (hM 30 (by decide) (by decide)) rfl rfl) rfl hl.1.1 rfl (Nat.le_of_ble_eq_true rfl) dX5_input_2 ⟨Nat.le_of_ble_eq_true rfl, Nat.le_of_ble_eq_true rfl⟩ (fun X' Z' Y' v k n H locs hp hw => ?_)
  obtain ⟨rfl, rfl, rfl, rfl, rfl, hp⟩ := hp
  rcases hp with ⟨i, hi, rfl, h0, rfl⟩ | ⟨hn, rfl⟩
  · have hB := hMX.2.1 i hi
    have hg := (hMR.2 i hi).2 h0
    have hR := hg.2
    have hy := fnd_y hi h0
    have ecl : (nI i).toNatClampNeg = i := nI_clamp (by omega)
    have hF : S.1 i ≤ 64 := (hS.1 i hi).1
    obtain ⟨w, hw64, e14, -⟩ := hR.2.2.2.2.2.2.1
    have g14 : S.2.1 i 0 14 = nI w := by rw [← e14]; exact hR.1.2.2.2.2.2.2.1.symm
    refine w_astore_n hx hb dX5_input_5 rfl hl (Nat.le_of_ble_eq_true rfl) (fun ls hl => ?_)
    refine lv_aload_n hx hb dX5_input_6 rfl (hl.at rfl) ?_
    refine lv_ifnonnull (tgt := 13) hx hb dX5_input_7 (by decide) ?_
    refine lv_aload_n hx hb dX5_input_13 rfl (hl.at rfl) ?_
    refine w_get C hw (c0 := 40) (i0 := i) rfl inA4 14 (by decide) mw290 rfl dX5_input_14 (hB 40 (by decide) (by decide)) rfl rfl rfl ?_
    rw [e14]
    refine lv_bipush (v := 64) hx hb dX5_input_17 (by decide) ?_
    refine lv_icmp_ne (tgt := 25) hx hb dX5_input_19 (by decide) (fun h19 => ?_) (fun h19 => ?_)
    · have hw63 : w < 64 := Nat.lt_of_le_of_ne hw64 (fun q => h19 (by rw [q]; rfl))
      have hlt : S.2.1 i 0 14 < 64 := by rw [g14]; exact nI_lt (b := 64) hw63 (by decide)
      refine lv_aload_n hx hb dX5_input_25 rfl (hl.at rfl) ?_
      refine w_get C hw (c0 := 40) (i0 := i) rfl inA4 8 (by decide) mw291 rfl dX5_input_26 (hB 40 (by decide) (by decide)) rfl rfl rfl ?_
      refine lv_aload_n hx hb dX5_input_29 rfl (hl.at rfl) ?_
      refine w_get C hw (c0 := 40) (i0 := i) rfl inA4 14 (by decide) mw290 rfl dX5_input_30 (hB 40 (by decide) (by decide)) rfl rfl rfl ?_
      rw [e14]
      refine lv_iload_n hx hb dX5_input_33 rfl (hl.at rfl) ?_
      refine w_ist C hw (c0 := 47) (i0 := i) dX5_input_34 (hB 47 (by decide) (by decide)) rfl (fun _ => rfl) (vp_in_nI hw63 (by decide)) (nI_clamp (by omega)) (fun H locs hw => ?_)
      refine lv_aload_n hx hb dX5_input_35 rfl (hl.at rfl) ?_
      refine lv_dup hx hb dX5_input_36 rfl ?_
      refine w_get C hw (c0 := 40) (i0 := i) rfl inA4 14 (by decide) mw290 rfl dX5_input_37 (hB 40 (by decide) (by decide)) rfl rfl rfl ?_
      rw [upr_k (show (40 : Nat) ≠ 47 by decide), e14]
      refine lv_iconst (v := 1) hx hb dX5_input_40 (by decide) ?_
      refine lv_iadd hx hb dX5_input_41 ?_
      refine w_put C hw (c0 := 40) (i0 := i) rfl inA4 tyX4_ok nmX4 14 (by decide) mw290 rfl rfl rfl dX5_input_42 (hB 40 (by decide) (by decide)) rfl rfl rfl rfl (Nat.le_of_ble_eq_true rfl) rfl (fun H locs hw => ?_)
      rw [upr_k (show (40 : Nat) ≠ 47 by decide)] at hw
      have hR1 := BR_ari (v := u) hR hw63 e14
      have hS1 : SB Z i (upr (upr Z 47 i (upd (Z 47 i) w u)) 40 i (upd (Z 40 i) 14 (nI w + 1))) := SB.trans (SB.refl.up (c := 47) (f := upd (Z 47 i) w u) (by decide) (by decide)) (by have := SB.u40 (Z := upr Z 47 i (upd (Z 47 i) w u)) (i := i) (k := 14) (x := nI w + 1) SB.refl (by decide); rw [upr_k (show (40 : Nat) ≠ 47 by decide)] at this; exact this)
      refine lv_aload_n hx hb dX5_input_45 rfl (hl.at rfl) ?_
      refine w_get C hw (c0 := 40) (i0 := i) rfl inA4 12 (by decide) mw238 rfl dX5_input_46 (hB 40 (by decide) (by decide)) rfl rfl rfl ?_
      rw [upr_s, upd_n (show (12 : Nat) ≠ 14 by decide), hR.1.2.1]
      refine lv_iconst (v := 2) hx hb dX5_input_49 (by decide) ?_
      refine lv_icmp_ne (tgt := 58) hx hb dX5_input_50 (by decide) (fun h50 => ?_) (fun h50 => ?_)
      · refine lv_iconst (v := 0) hx hb dX5_input_58 (by decide) ?_
        have eo : ipS S (nI i) u = (setM S i (ariS (S.2.1 i) u), 0) := by unfold ipS; rw [if_neg (by rw [hy]; decide), ecl, if_neg (fun q => q hlt), if_neg h50]
        exact w_iret C hw hr hlocks dX5_input_59 ⟨rfl, rfl, rfl, rfl, by rw [eo], by rw [eo]; exact MR_set hMR h0 hi hS1 hR1, FM.refl.sb hS1⟩
      · refine lv_aload_n hx hb dX5_input_53 rfl (hl.at rfl) ?_
        refine lv_iconst (v := 1) hx hb dX5_input_54 (by decide) ?_
        refine w_put C hw (c0 := 40) (i0 := i) rfl inA4 tyX4_ok nmX4 12 (by decide) mw238 rfl rfl rfl dX5_input_55 (hB 40 (by decide) (by decide)) rfl rfl rfl rfl (Nat.le_of_ble_eq_true rfl) rfl (fun H locs hw => ?_)
        refine lv_iconst (v := 0) hx hb dX5_input_58 (by decide) ?_
        have eo : ipS S (nI i) u = (setM S i (gu (ariS (S.2.1 i) u) 0 1 1), 0) := by unfold ipS; rw [if_neg (by rw [hy]; decide), ecl, if_neg (fun q => q hlt), if_pos h50]
        exact w_iret C hw hr hlocks dX5_input_59 ⟨rfl, rfl, rfl, rfl, by rw [eo], by rw [eo]; exact MR_set hMR h0 hi (hS1.u40 (by decide)) (BR_n hR1 rfl), FM.refl.sb (hS1.u40 (by decide))⟩
    · refine lv_bipush (v := -12) hx hb dX5_input_22 (by decide) ?_
      have eo : ipS S (nI i) u = (S, -12) := by unfold ipS; rw [if_neg (by rw [hy]; decide), ecl, if_pos (by rw [g14, h19]; decide)]
      exact w_iret C hw hr hlocks dX5_input_24 ⟨rfl, rfl, rfl, rfl, by rw [eo], by rw [eo]; exact hMR, FM.refl⟩
  · refine w_astore_nN hx hb dX5_input_5 rfl hl (Nat.le_of_ble_eq_true rfl) (fun ls hl => ?_)
    refine lv_aload_nN hx hb dX5_input_6 rfl (hl.at rfl) ?_
    refine lv_ifnonnullN hx hb dX5_input_7 ?_
    refine lv_bipush (v := -14) hx hb dX5_input_10 (by decide) ?_
    exact w_iret C hw hr hlocks dX5_input_12 ⟨rfl, rfl, rfl, rfl, by unfold ipS; rw [if_pos hn], by unfold ipS; rw [if_pos hn]; exact hMR, FM.refl⟩

set_option maxHeartbeats 4000000 in
set_option maxRecDepth 100000 in
theorem c_X5_copy (l : Launch) (sz0 : Nat) (D : va_G) (cs : Nat → ClassId) (X : Sh) (Z : ZT) (Y : va_W) (S : HS) (hS : HOK S) (hMX : MRx X) (hMR : MR Z S) (a : Int32)  : Ctr l yX5_copy (wsM yX5_copy cX5_copy 4 (some .int)) ({ frames := 1, cells := 0, slots := 0, locals := 22 } : Room) sz0 D cs [.ref (X.1 30 0), .int a] X Z Y (Pz X Y (fun Z' v => v = some (.int (cpS S a).2) ∧ MR Z' (cpS S a).1 ∧ FM Z Z')) := by
  refine Ctr.ofW (by decide +kernel) (by intro v hv; simp at hv; rcases hv with rfl | rfl <;> rfl) (Nat.le_of_ble_eq_true rfl) ?_
  intro p e s m below meth c ls C hr hlocks hname hl hN hw
  obtain ⟨hx, hb, hml, hown, hts⟩ := id C
  have hM := hMX.1
  refine lv_aload_n hx hb dX5_copy_0 rfl (hl.at rfl) ?_
  refine lv_iload_n hx hb dX5_copy_1 rfl (hl.at rfl) ?_
  refine w_callV C hN hw (c_X5_of l sz0 D cs X _ Y S hS hMX hMR a) ⟨(Nat.le_of_ble_eq_true rfl), (Nat.le_of_ble_eq_true rfl), mw243, mw6, cy_X5_of⟩ mw240 mw241 mw242 (w_rec hw (c0 := 30) (i0 := 0) (hM 30 (by decide) (by decide)) rfl rfl) rfl hl.1.1 rfl (Nat.le_of_ble_eq_true rfl) dX5_copy_2 ⟨Nat.le_of_ble_eq_true rfl, Nat.le_of_ble_eq_true rfl⟩ (fun X' Z' Y' v k n H locs hp hw => ?_)
  obtain ⟨rfl, rfl, rfl, rfl, rfl, hp⟩ := hp
  rcases hp with ⟨i, hi, rfl, h0, rfl⟩ | ⟨hn, rfl⟩
  · have hB := hMX.2.1 i hi
    have hg := (hMR.2 i hi).2 h0
    have hR := hg.2
    have hy := fnd_y hi h0
    have ecl : (nI i).toNatClampNeg = i := nI_clamp (by omega)
    have hF : S.1 i ≤ 64 := (hS.1 i hi).1
    refine w_astore_n hx hb dX5_copy_5 rfl hl (Nat.le_of_ble_eq_true rfl) (fun ls hl => ?_)
    refine lv_aload_n hx hb dX5_copy_6 rfl (hl.at rfl) ?_
    refine lv_ifnonnull (tgt := 13) hx hb dX5_copy_7 (by decide) ?_
    refine lv_aload_n hx hb dX5_copy_13 rfl (hl.at rfl) ?_
    refine w_callV C hN hw (c_X5_free l sz0 D cs X _ Y S hS hMX hMR) ⟨(Nat.le_of_ble_eq_true rfl), (Nat.le_of_ble_eq_true rfl), mw156, mw6, cy_X5_free⟩ mw153 mw154 mw155 (w_rec hw (c0 := 30) (i0 := 0) (hM 30 (by decide) (by decide)) rfl rfl) rfl hl.1.1 rfl (Nat.le_of_ble_eq_true rfl) dX5_copy_14 ⟨Nat.le_of_ble_eq_true rfl, Nat.le_of_ble_eq_true rfl⟩ (fun X' Z' Y' v k n H locs hp hw => ?_)
    obtain ⟨rfl, rfl, rfl, rfl, rfl, rfl⟩ := hp
    by_cases c8 : leastF S.1 = 8
    · rw [if_pos c8]
      refine w_istore_n hx hb dX5_copy_17 rfl hl (Nat.le_of_ble_eq_true rfl) (fun ls hl => ?_)
      refine lv_iload_n hx hb dX5_copy_18 rfl (hl.at rfl) ?_
      refine lv_if_ge (tgt := 24) hx hb dX5_copy_19 (by decide) (fun h19 => ?_) (fun h19 => ?_)
      · exact absurd h19 (by decide)
      · refine lv_iload_n hx hb dX5_copy_22 rfl (hl.at rfl) ?_
        have eo : cpS S (nI i) = (S, -12) := by unfold cpS; rw [if_neg (by rw [hy]; decide), ecl, if_pos c8]
        exact w_iret C hw hr hlocks dX5_copy_23 ⟨rfl, rfl, rfl, rfl, by rw [eo], by rw [eo]; exact hMR, FM.refl⟩
    · have hk8 : leastF S.1 < 8 := Nat.lt_of_le_of_ne leastF_le c8
      have hk0 := leastF_0 hk8
      rw [if_neg c8]
      refine w_istore_n hx hb dX5_copy_17 rfl hl (Nat.le_of_ble_eq_true rfl) (fun ls hl => ?_)
      refine lv_iload_n hx hb dX5_copy_18 rfl (hl.at rfl) ?_
      refine lv_if_ge (tgt := 24) hx hb dX5_copy_19 (by decide) (fun h19 => ?_) (fun h19 => ?_)
      · have hik : i ≠ leastF S.1 := fun q => h0 (by rw [q]; exact hk0)
        have hB2 := hMX.2.1 _ hk8
        refine lv_aload_n hx hb dX5_copy_24 rfl (hl.at rfl) ?_
        refine w_get C hw (c0 := 30) (i0 := 0) rfl inA5 0 (by decide) mw67 rfl dX5_copy_25 (hM 30 (by decide) (by decide)) rfl rfl rfl ?_
        refine lv_iload_n hx hb dX5_copy_28 rfl (hl.at rfl) ?_
        refine w_ald C hw (c0 := 31) (i0 := 0) (t := 3) dX5_copy_29 (hM 31 (by decide) (by decide)) rfl rfl rfl (vp_in_nI hk8 (by decide)) (nI_clamp (by omega)) ?_
        rw [arefM (hMX.2.2 _ hk8)]
        refine lv_aload_n hx hb dX5_copy_30 rfl (hl.at rfl) ?_
        refine w_callV C hN hw (c_X4_copy l sz0 D cs X _ Y (leastF S.1) i hik hB2 hB (S.1 i) (S.2.1 i) hF hR) ⟨(Nat.le_of_ble_eq_true rfl), (Nat.le_of_ble_eq_true rfl), mw312, mw71, cy_X4_copy⟩ mw309 mw310 mw311 (w_rec hw (c0 := 40) (i0 := leastF S.1) (hB2 40 (by decide) (by decide)) rfl rfl) rfl hl.1.1 rfl (Nat.le_of_ble_eq_true rfl) dX5_copy_31 ⟨Nat.le_of_ble_eq_true rfl, Nat.le_of_ble_eq_true rfl⟩ (fun X' Z' Y' v k n H locs hp hw => ?_)
        obtain ⟨rfl, rfl, rfl, rfl, rfl, hR1, h11, hfr⟩ := hp
        refine lv_iload_n hx hb dX5_copy_34 rfl (hl.at rfl) ?_
        have eo : cpS S (nI i) = ((upn S.1 (leastF S.1) (S.1 i), upm S.2.1 (leastF S.1) (S.2.1 i), S.2.2), nI (leastF S.1)) := by unfold cpS; rw [if_neg (by rw [hy]; decide), ecl, if_neg c8]
        exact w_iret C hw hr hlocks dX5_copy_35 ⟨rfl, rfl, rfl, rfl, by rw [eo], by rw [eo]; exact MR_new hMR h0 hfr h11 hR1, fun c i' q => hfr c i' (by omega)⟩
      · exact absurd (nI_pos' (by omega)) h19
  · refine w_astore_nN hx hb dX5_copy_5 rfl hl (Nat.le_of_ble_eq_true rfl) (fun ls hl => ?_)
    refine lv_aload_nN hx hb dX5_copy_6 rfl (hl.at rfl) ?_
    refine lv_ifnonnullN hx hb dX5_copy_7 ?_
    refine lv_bipush (v := -14) hx hb dX5_copy_10 (by decide) ?_
    exact w_iret C hw hr hlocks dX5_copy_12 ⟨rfl, rfl, rfl, rfl, by unfold cpS; rw [if_pos hn], by unfold cpS; rw [if_pos hn]; exact hMR, FM.refl⟩
