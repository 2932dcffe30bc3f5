/-! ===== GuestHouse$Guest: its methods ===== -/

set_option maxHeartbeats 4000000 in
set_option maxRecDepth 100000 in
theorem c_X0_hasWord (l : Launch) (sz0 : Nat) (D : va_G) (cs : Nat → ClassId) (X : Sh) (Z : ZT) (Y : va_W) (i : Nat) (hG : GI X i) (a : Int32) : Ctr l yX0_hasWord (wsM yX0_hasWord cX0_hasWord 2 (some .boolean)) ({ frames := 0, cells := 0, slots := 0, locals := 0 }) sz0 D cs [.ref (X.1 20 i), .int a] X Z Y (Pz X Y (fun Z' v => Z' = Z ∧ v = some (.int (hasWv (Z 20 i 6) a)))) := by
  refine Ctr.ofW (by decide +kernel) (by intro v hv; simp at hv; rcases hv with rfl | rfl <;> rfl) (Nat.le_of_ble_eq_true rfl) ?_
  intro p e s m below meth c ls C hr hlocks hname hl hN hw
  obtain ⟨hx, hb, hml, hown, hts⟩ := id C
  refine lv_iload_n hx hb dX0_hasWord_0 rfl (hl.at rfl) ?_
  refine lv_if_lt (tgt := 19) hx hb dX0_hasWord_1 (by decide) (fun h1 => ?_) (fun h1 => ?_)
  · refine lv_iconst (v := 0) hx hb dX0_hasWord_19 (by decide) ?_
    exact w_zret C hw hr hlocks dX0_hasWord_20 (by decide) ⟨rfl, rfl, rfl, rfl, rfl, by simp [hasWv, *]⟩
  · refine lv_iload_n hx hb dX0_hasWord_4 rfl (hl.at rfl) ?_
    refine lv_bipush (v := 64) hx hb dX0_hasWord_5 (by decide) ?_
    refine lv_aload_n hx hb dX0_hasWord_7 rfl (hl.at rfl) ?_
    refine w_get C hw (c0 := 20) (i0 := i) rfl inA0 6 (by decide) mw128 rfl dX0_hasWord_8 (hG 20 (by decide) (by decide)) rfl rfl rfl ?_
    refine lv_imul hx hb dX0_hasWord_11 ?_
    refine lv_icmp_ge (tgt := 19) hx hb dX0_hasWord_12 (by decide) (fun h12 => ?_) (fun h12 => ?_)
    · refine lv_iconst (v := 0) hx hb dX0_hasWord_19 (by decide) ?_
      exact w_zret C hw hr hlocks dX0_hasWord_20 (by decide) ⟨rfl, rfl, rfl, rfl, rfl, by simp [hasWv, *]⟩
    · refine lv_iconst (v := 1) hx hb dX0_hasWord_15 (by decide) ?_
      refine lv_goto (tgt := 20) hx hb dX0_hasWord_16 (by decide) ?_
      exact w_zret C hw hr hlocks dX0_hasWord_20 (by decide) ⟨rfl, rfl, rfl, rfl, rfl, by simp [hasWv, *]⟩

set_option maxHeartbeats 4000000 in
set_option maxRecDepth 100000 in
theorem c_X0_timerIsUp (l : Launch) (sz0 : Nat) (D : va_G) (cs : Nat → ClassId) (X : Sh) (Z : ZT) (Y : va_W) (i : Nat) (hG : GI X i) : Ctr l yX0_timerIsUp (wsM yX0_timerIsUp cX0_timerIsUp 1 (some .boolean)) ({ frames := 0, cells := 0, slots := 0, locals := 0 }) sz0 D cs [.ref (X.1 20 i)] X Z Y (Pz X Y (fun Z' v => Z' = Z ∧ v = some (.int (timeUpv (Z 24 i 8) (Z 24 i 6))))) := by
  refine Ctr.ofW (by decide +kernel) (by intro v hv; simp at hv; rcases hv with rfl <;> rfl) (Nat.le_of_ble_eq_true rfl) ?_
  intro p e s m below meth c ls C hr hlocks hname hl hN hw
  obtain ⟨hx, hb, hml, hown, hts⟩ := id C
  refine lv_aload_n hx hb dX0_timerIsUp_0 rfl (hl.at rfl) ?_
  refine w_get C hw (c0 := 20) (i0 := i) rfl inA0 10 (by decide) mw118 rfl dX0_timerIsUp_1 (hG 20 (by decide) (by decide)) rfl rfl rfl ?_
  refine lv_bipush (v := 6) hx hb dX0_timerIsUp_4 (by decide) ?_
  refine w_ild C hw (c0 := 24) (i0 := i) dX0_timerIsUp_6 (hG 24 (by decide) (by decide)) rfl rfl (vpk (by decide)) (j := 6) (by decide) ?_
  refine lv_if_eq (tgt := 32) hx hb dX0_timerIsUp_7 (by decide) (fun h7 => ?_) (fun h7 => ?_)
  · refine lv_iconst (v := 0) hx hb dX0_timerIsUp_32 (by decide) ?_
    exact w_zret C hw hr hlocks dX0_timerIsUp_33 (by decide) ⟨rfl, rfl, rfl, rfl, rfl, by simp [timeUpv, *]⟩
  · refine lv_aload_n hx hb dX0_timerIsUp_10 rfl (hl.at rfl) ?_
    refine w_get C hw (c0 := 20) (i0 := i) rfl inA0 10 (by decide) mw118 rfl dX0_timerIsUp_11 (hG 20 (by decide) (by decide)) rfl rfl rfl ?_
    refine lv_bipush (v := 8) hx hb dX0_timerIsUp_14 (by decide) ?_
    refine w_ild C hw (c0 := 24) (i0 := i) dX0_timerIsUp_16 (hG 24 (by decide) (by decide)) rfl rfl (vpk (by decide)) (j := 8) (by decide) ?_
    refine lv_aload_n hx hb dX0_timerIsUp_17 rfl (hl.at rfl) ?_
    refine w_get C hw (c0 := 20) (i0 := i) rfl inA0 10 (by decide) mw118 rfl dX0_timerIsUp_18 (hG 20 (by decide) (by decide)) rfl rfl rfl ?_
    refine lv_bipush (v := 6) hx hb dX0_timerIsUp_21 (by decide) ?_
    refine w_ild C hw (c0 := 24) (i0 := i) dX0_timerIsUp_23 (hG 24 (by decide) (by decide)) rfl rfl (vpk (by decide)) (j := 6) (by decide) ?_
    refine lv_isub hx hb dX0_timerIsUp_24 ?_
    refine lv_if_lt (tgt := 32) hx hb dX0_timerIsUp_25 (by decide) (fun h25 => ?_) (fun h25 => ?_)
    · refine lv_iconst (v := 0) hx hb dX0_timerIsUp_32 (by decide) ?_
      exact w_zret C hw hr hlocks dX0_timerIsUp_33 (by decide) ⟨rfl, rfl, rfl, rfl, rfl, by simp [timeUpv, *]⟩
    · refine lv_iconst (v := 1) hx hb dX0_timerIsUp_28 (by decide) ?_
      refine lv_goto (tgt := 33) hx hb dX0_timerIsUp_29 (by decide) ?_
      exact w_zret C hw hr hlocks dX0_timerIsUp_33 (by decide) ⟨rfl, rfl, rfl, rfl, rfl, by simp [timeUpv, *]⟩

set_option maxHeartbeats 4000000 in
set_option maxRecDepth 100000 in
theorem c_X0_arrive (l : Launch) (sz0 : Nat) (D : va_G) (cs : Nat → ClassId) (X : Sh) (Z : ZT) (Y : va_W) (i : Nat) (hG : GI X i) (a : Int32) : Ctr l yX0_arrive (wsM yX0_arrive cX0_arrive 2 (some .boolean)) ({ frames := 0, cells := 0, slots := 0, locals := 0 }) sz0 D cs [.ref (X.1 20 i), .int a] X Z Y (Pz X Y (fun Z' v => (¬ Z 20 i 14 < 64 ∧ Z' = Z ∧ v = some (.int 0)) ∨ (Z 20 i 14 < 64 ∧ Z' = upr (upr Z 26 i (upd (Z 26 i) ((Z 20 i 13 + Z 20 i 14) &&& 63).toNatClampNeg a)) 20 i (upd (Z 20 i) 14 (Z 20 i 14 + 1)) ∧ v = some (.int 1)))) := by
  refine Ctr.ofW (by decide +kernel) (by intro v hv; simp at hv; rcases hv with rfl | rfl <;> rfl) (Nat.le_of_ble_eq_true rfl) ?_
  intro p e s m below meth c ls C hr hlocks hname hl hN hw
  obtain ⟨hx, hb, hml, hown, hts⟩ := id C
  refine lv_aload_n hx hb dX0_arrive_0 rfl (hl.at rfl) ?_
  refine w_get C hw (c0 := 20) (i0 := i) rfl inA0 14 (by decide) mw130 rfl dX0_arrive_1 (hG 20 (by decide) (by decide)) rfl rfl rfl ?_
  refine lv_bipush (v := 64) hx hb dX0_arrive_4 (by decide) ?_
  refine lv_icmp_lt (tgt := 11) hx hb dX0_arrive_6 (by decide) (fun h6 => ?_) (fun h6 => ?_)
  · refine lv_aload_n hx hb dX0_arrive_11 rfl (hl.at rfl) ?_
    refine w_get C hw (c0 := 20) (i0 := i) rfl inA0 12 (by decide) mw120 rfl dX0_arrive_12 (hG 20 (by decide) (by decide)) rfl rfl rfl ?_
    refine lv_aload_n hx hb dX0_arrive_15 rfl (hl.at rfl) ?_
    refine w_get C hw (c0 := 20) (i0 := i) rfl inA0 13 (by decide) mw129 rfl dX0_arrive_16 (hG 20 (by decide) (by decide)) rfl rfl rfl ?_
    refine lv_aload_n hx hb dX0_arrive_19 rfl (hl.at rfl) ?_
    refine w_get C hw (c0 := 20) (i0 := i) rfl inA0 14 (by decide) mw130 rfl dX0_arrive_20 (hG 20 (by decide) (by decide)) rfl rfl rfl ?_
    refine lv_iadd hx hb dX0_arrive_23 ?_
    refine lv_bipush (v := 63) hx hb dX0_arrive_24 (by decide) ?_
    refine lv_iand hx hb dX0_arrive_26 ?_
    refine lv_iload_n hx hb dX0_arrive_27 rfl (hl.at rfl) ?_
    refine w_ist C hw (c0 := 26) (i0 := i) dX0_arrive_28 (hG 26 (by decide) (by decide)) rfl (fun _ => rfl) (vp63 _) rfl (fun H locs hw => ?_)
    refine lv_aload_n hx hb dX0_arrive_29 rfl (hl.at rfl) ?_
    refine lv_dup hx hb dX0_arrive_30 rfl ?_
    refine w_get C hw (c0 := 20) (i0 := i) rfl inA0 14 (by decide) mw130 rfl dX0_arrive_31 (hG 20 (by decide) (by decide)) rfl rfl rfl ?_
    refine lv_iconst (v := 1) hx hb dX0_arrive_34 (by decide) ?_
    refine lv_iadd hx hb dX0_arrive_35 ?_
    refine w_put C hw (c0 := 20) (i0 := i) rfl inA0 tyX0_ok nmX0 14 (by decide) mw130 rfl rfl rfl dX0_arrive_36 (hG 20 (by decide) (by decide)) rfl rfl rfl rfl (Nat.le_of_ble_eq_true rfl) rfl (fun H locs hw => ?_)
    refine lv_iconst (v := 1) hx hb dX0_arrive_39 (by decide) ?_
    exact w_zret C hw hr hlocks dX0_arrive_40 (by decide) ⟨rfl, rfl, rfl, rfl, by first | exact Or.inl ⟨by assumption, rfl, rfl⟩ | exact Or.inr ⟨by assumption, rfl, rfl⟩⟩
  · refine lv_iconst (v := 0) hx hb dX0_arrive_9 (by decide) ?_
    exact w_zret C hw hr hlocks dX0_arrive_10 (by decide) ⟨rfl, rfl, rfl, rfl, by first | exact Or.inl ⟨by assumption, rfl, rfl⟩ | exact Or.inr ⟨by assumption, rfl, rfl⟩⟩

set_option maxHeartbeats 4000000 in
set_option maxRecDepth 100000 in
theorem c_X0_takeOldest (l : Launch) (sz0 : Nat) (D : va_G) (cs : Nat → ClassId) (X : Sh) (Z : ZT) (Y : va_W) (i : Nat) (hG : GI X i) : Ctr l yX0_takeOldest (wsM yX0_takeOldest cX0_takeOldest 2 (some .int)) ({ frames := 0, cells := 0, slots := 0, locals := 0 }) sz0 D cs [.ref (X.1 20 i)] X Z Y (Pz X Y (fun Z' v => (¬ 0 < Z 20 i 14 ∧ Z' = Z ∧ v = some (.int 0)) ∨ (0 < Z 20 i 14 ∧ Z' = upr Z 20 i (upd (upd (Z 20 i) 13 ((Z 20 i 13 + 1) &&& 63)) 14 (Z 20 i 14 - 1)) ∧ v = some (.int (Z 26 i (Z 20 i 13 &&& 63).toNatClampNeg))))) := by
  refine Ctr.ofW (by decide +kernel) (by intro v hv; simp at hv; rcases hv with rfl <;> rfl) (Nat.le_of_ble_eq_true rfl) ?_
  intro p e s m below meth c ls C hr hlocks hname hl hN hw
  obtain ⟨hx, hb, hml, hown, hts⟩ := id C
  refine lv_aload_n hx hb dX0_takeOldest_0 rfl (hl.at rfl) ?_
  refine w_get C hw (c0 := 20) (i0 := i) rfl inA0 14 (by decide) mw130 rfl dX0_takeOldest_1 (hG 20 (by decide) (by decide)) rfl rfl rfl ?_
  refine lv_if_gt (tgt := 9) hx hb dX0_takeOldest_4 (by decide) (fun h4 => ?_) (fun h4 => ?_)
  · refine lv_aload_n hx hb dX0_takeOldest_9 rfl (hl.at rfl) ?_
    refine w_get C hw (c0 := 20) (i0 := i) rfl inA0 12 (by decide) mw120 rfl dX0_takeOldest_10 (hG 20 (by decide) (by decide)) rfl rfl rfl ?_
    refine lv_aload_n hx hb dX0_takeOldest_13 rfl (hl.at rfl) ?_
    refine w_get C hw (c0 := 20) (i0 := i) rfl inA0 13 (by decide) mw129 rfl dX0_takeOldest_14 (hG 20 (by decide) (by decide)) rfl rfl rfl ?_
    refine lv_bipush (v := 63) hx hb dX0_takeOldest_17 (by decide) ?_
    refine lv_iand hx hb dX0_takeOldest_19 ?_
    refine w_ild C hw (c0 := 26) (i0 := i) dX0_takeOldest_20 (hG 26 (by decide) (by decide)) rfl rfl (vp63 _) rfl ?_
    refine w_istore_n hx hb dX0_takeOldest_21 rfl hl (Nat.le_of_ble_eq_true rfl) (fun ls hl => ?_)
    refine lv_aload_n hx hb dX0_takeOldest_22 rfl (hl.at rfl) ?_
    refine lv_aload_n hx hb dX0_takeOldest_23 rfl (hl.at rfl) ?_
    refine w_get C hw (c0 := 20) (i0 := i) rfl inA0 13 (by decide) mw129 rfl dX0_takeOldest_24 (hG 20 (by decide) (by decide)) rfl rfl rfl ?_
    refine lv_iconst (v := 1) hx hb dX0_takeOldest_27 (by decide) ?_
    refine lv_iadd hx hb dX0_takeOldest_28 ?_
    refine lv_bipush (v := 63) hx hb dX0_takeOldest_29 (by decide) ?_
    refine lv_iand hx hb dX0_takeOldest_31 ?_
    refine w_put C hw (c0 := 20) (i0 := i) rfl inA0 tyX0_ok nmX0 13 (by decide) mw129 rfl rfl rfl dX0_takeOldest_32 (hG 20 (by decide) (by decide)) rfl rfl rfl rfl (Nat.le_of_ble_eq_true rfl) rfl (fun H locs hw => ?_)
    refine lv_aload_n hx hb dX0_takeOldest_35 rfl (hl.at rfl) ?_
    refine lv_dup hx hb dX0_takeOldest_36 rfl ?_
    refine w_get C hw (c0 := 20) (i0 := i) rfl inA0 14 (by decide) mw130 rfl dX0_takeOldest_37 (hG 20 (by decide) (by decide)) rfl rfl rfl ?_
    refine lv_iconst (v := 1) hx hb dX0_takeOldest_40 (by decide) ?_
    refine lv_isub hx hb dX0_takeOldest_41 ?_
    refine w_put C hw (c0 := 20) (i0 := i) rfl inA0 tyX0_ok nmX0 14 (by decide) mw130 rfl rfl rfl dX0_takeOldest_42 (hG 20 (by decide) (by decide)) rfl rfl rfl rfl (Nat.le_of_ble_eq_true rfl) rfl (fun H locs hw => ?_)
    refine lv_iload_n hx hb dX0_takeOldest_45 rfl (hl.at rfl) ?_
    exact w_iret C hw hr hlocks dX0_takeOldest_46 ⟨rfl, rfl, rfl, rfl, by first | exact Or.inl ⟨by assumption, rfl, rfl⟩ | exact Or.inr ⟨by assumption, by simp [upr_uu, upr_s, upd], rfl⟩⟩
  · refine lv_iconst (v := 0) hx hb dX0_takeOldest_7 (by decide) ?_
    exact w_iret C hw hr hlocks dX0_takeOldest_8 ⟨rfl, rfl, rfl, rfl, by first | exact Or.inl ⟨by assumption, rfl, rfl⟩ | exact Or.inr ⟨by assumption, by simp [upr_uu, upr_s, upd], rfl⟩⟩

set_option maxHeartbeats 4000000 in
set_option maxRecDepth 100000 in
theorem c_X0_putOut (l : Launch) (sz0 : Nat) (D : va_G) (cs : Nat → ClassId) (X : Sh) (Z : ZT) (Y : va_W) (i : Nat) (hG : GI X i) (a : Int32) : Ctr l yX0_putOut (wsM yX0_putOut cX0_putOut 2 none) ({ frames := 0, cells := 0, slots := 0, locals := 0 }) sz0 D cs [.ref (X.1 20 i), .int a] X Z Y (Pz X Y (fun Z' v => Z' = upr (if Z 20 i 16 < 0 ∨ 1000 ≤ Z 20 i 16 then Z else upr Z 27 i (upd (Z 27 i) (Z 20 i 16).toNatClampNeg a)) 20 i (upd (Z 20 i) 16 (Z 20 i 16 + 1)) ∧ v = none)) := by
  refine Ctr.ofW (by decide +kernel) (by intro v hv; simp at hv; rcases hv with rfl | rfl <;> rfl) (Nat.le_of_ble_eq_true rfl) ?_
  intro p e s m below meth c ls C hr hlocks hname hl hN hw
  obtain ⟨hx, hb, hml, hown, hts⟩ := id C
  refine lv_aload_n hx hb dX0_putOut_0 rfl (hl.at rfl) ?_
  refine w_get C hw (c0 := 20) (i0 := i) rfl inA0 16 (by decide) mw131 rfl dX0_putOut_1 (hG 20 (by decide) (by decide)) rfl rfl rfl ?_
  refine lv_if_lt (tgt := 27) hx hb dX0_putOut_4 (by decide) (fun h4 => ?_) (fun h4 => ?_)
  · refine lv_aload_n hx hb dX0_putOut_27 rfl (hl.at rfl) ?_
    refine lv_dup hx hb dX0_putOut_28 rfl ?_
    refine w_get C hw (c0 := 20) (i0 := i) rfl inA0 16 (by decide) mw131 rfl dX0_putOut_29 (hG 20 (by decide) (by decide)) rfl rfl rfl ?_
    refine lv_iconst (v := 1) hx hb dX0_putOut_32 (by decide) ?_
    refine lv_iadd hx hb dX0_putOut_33 ?_
    refine w_put C hw (c0 := 20) (i0 := i) rfl inA0 tyX0_ok nmX0 16 (by decide) mw131 rfl rfl rfl dX0_putOut_34 (hG 20 (by decide) (by decide)) rfl rfl rfl rfl (Nat.le_of_ble_eq_true rfl) rfl (fun H locs hw => ?_)
    exact w_vret C hw hr hlocks dX0_putOut_37 ⟨rfl, rfl, rfl, rfl, by simp [*, upr], rfl⟩
  · refine lv_aload_n hx hb dX0_putOut_7 rfl (hl.at rfl) ?_
    refine w_get C hw (c0 := 20) (i0 := i) rfl inA0 16 (by decide) mw131 rfl dX0_putOut_8 (hG 20 (by decide) (by decide)) rfl rfl rfl ?_
    refine lv_sipush (v := 1000) hx hb dX0_putOut_11 (by decide) ?_
    refine lv_icmp_ge (tgt := 27) hx hb dX0_putOut_14 (by decide) (fun h14 => ?_) (fun h14 => ?_)
    · refine lv_aload_n hx hb dX0_putOut_27 rfl (hl.at rfl) ?_
      refine lv_dup hx hb dX0_putOut_28 rfl ?_
      refine w_get C hw (c0 := 20) (i0 := i) rfl inA0 16 (by decide) mw131 rfl dX0_putOut_29 (hG 20 (by decide) (by decide)) rfl rfl rfl ?_
      refine lv_iconst (v := 1) hx hb dX0_putOut_32 (by decide) ?_
      refine lv_iadd hx hb dX0_putOut_33 ?_
      refine w_put C hw (c0 := 20) (i0 := i) rfl inA0 tyX0_ok nmX0 16 (by decide) mw131 rfl rfl rfl dX0_putOut_34 (hG 20 (by decide) (by decide)) rfl rfl rfl rfl (Nat.le_of_ble_eq_true rfl) rfl (fun H locs hw => ?_)
      exact w_vret C hw hr hlocks dX0_putOut_37 ⟨rfl, rfl, rfl, rfl, by simp [*, upr], rfl⟩
    · refine lv_aload_n hx hb dX0_putOut_17 rfl (hl.at rfl) ?_
      refine w_get C hw (c0 := 20) (i0 := i) rfl inA0 15 (by decide) mw121 rfl dX0_putOut_18 (hG 20 (by decide) (by decide)) rfl rfl rfl ?_
      refine lv_aload_n hx hb dX0_putOut_21 rfl (hl.at rfl) ?_
      refine w_get C hw (c0 := 20) (i0 := i) rfl inA0 16 (by decide) mw131 rfl dX0_putOut_22 (hG 20 (by decide) (by decide)) rfl rfl rfl ?_
      refine lv_iload_n hx hb dX0_putOut_25 rfl (hl.at rfl) ?_
      refine w_ist C hw (c0 := 27) (i0 := i) dX0_putOut_26 (hG 27 (by decide) (by decide)) rfl (fun _ => rfl) (vpr (by decide) h4 h14) rfl (fun H locs hw => ?_)
      refine lv_aload_n hx hb dX0_putOut_27 rfl (hl.at rfl) ?_
      refine lv_dup hx hb dX0_putOut_28 rfl ?_
      refine w_get C hw (c0 := 20) (i0 := i) rfl inA0 16 (by decide) mw131 rfl dX0_putOut_29 (hG 20 (by decide) (by decide)) rfl rfl rfl ?_
      refine lv_iconst (v := 1) hx hb dX0_putOut_32 (by decide) ?_
      refine lv_iadd hx hb dX0_putOut_33 ?_
      refine w_put C hw (c0 := 20) (i0 := i) rfl inA0 tyX0_ok nmX0 16 (by decide) mw131 rfl rfl rfl dX0_putOut_34 (hG 20 (by decide) (by decide)) rfl rfl rfl rfl (Nat.le_of_ble_eq_true rfl) rfl (fun H locs hw => ?_)
      exact w_vret C hw hr hlocks dX0_putOut_37 ⟨rfl, rfl, rfl, rfl, by simp [*, upr], rfl⟩

set_option maxHeartbeats 4000000 in
set_option maxRecDepth 100000 in
theorem c_X0_enterTrap (l : Launch) (sz0 : Nat) (D : va_G) (cs : Nat → ClassId) (X : Sh) (Z : ZT) (Y : va_W) (i : Nat) (hG : GI X i) (a b : Int32) : Ctr l yX0_enterTrap (wsM yX0_enterTrap cX0_enterTrap 5 none) ({ frames := 0, cells := 0, slots := 0, locals := 0 }) sz0 D cs [.ref (X.1 20 i), .int a, .int b] X Z Y (Pz X Y (fun Z' v => Z' = upr (upr Z 24 i (upd (upd (upd (upd (Z 24 i) 0 ((Z 24 i 0 &&& 1792) ||| ((if Z 24 i 0 &&& 1 = 0 then 0 else 2) ||| (if Z 20 i 3 = 0 then 0 else 4)))) 1 a) 2 (Z 20 i 2)) 3 b)) 20 i (upd (upd (upd (Z 20 i) 3 1) 2 (Z 24 i 4)) 5 (Z 20 i 5 + 1)) ∧ v = none)) := by
  refine Ctr.ofW (by decide +kernel) (by intro v hv; simp at hv; rcases hv with rfl | rfl | rfl <;> rfl) (Nat.le_of_ble_eq_true rfl) ?_
  intro p e s m below meth c ls C hr hlocks hname hl hN hw
  obtain ⟨hx, hb, hml, hown, hts⟩ := id C
  refine lv_aload_n hx hb dX0_enterTrap_0 rfl (hl.at rfl) ?_
  refine w_get C hw (c0 := 20) (i0 := i) rfl inA0 10 (by decide) mw118 rfl dX0_enterTrap_1 (hG 20 (by decide) (by decide)) rfl rfl rfl ?_
  refine lv_iconst (v := 0) hx hb dX0_enterTrap_4 (by decide) ?_
  refine w_ild C hw (c0 := 24) (i0 := i) dX0_enterTrap_5 (hG 24 (by decide) (by decide)) rfl rfl (vpk (by decide)) (j := 0) (by decide) ?_
  refine w_istore_n hx hb dX0_enterTrap_6 rfl hl (Nat.le_of_ble_eq_true rfl) (fun ls hl => ?_)
  refine lv_iload_n hx hb dX0_enterTrap_7 rfl (hl.at rfl) ?_
  refine lv_iconst (v := 1) hx hb dX0_enterTrap_8 (by decide) ?_
  refine lv_iand hx hb dX0_enterTrap_9 ?_
  refine lv_if_eq (tgt := 17) hx hb dX0_enterTrap_10 (by decide) (fun h10 => ?_) (fun h10 => ?_)
  · refine lv_iconst (v := 0) hx hb dX0_enterTrap_17 (by decide) ?_
    refine lv_aload_n hx hb dX0_enterTrap_18 rfl (hl.at rfl) ?_
    refine w_get C hw (c0 := 20) (i0 := i) rfl inA0 3 (by decide) mw137 rfl dX0_enterTrap_19 (hG 20 (by decide) (by decide)) rfl rfl rfl ?_
    refine lv_if_eq (tgt := 29) hx hb dX0_enterTrap_22 (by decide) (fun h22 => ?_) (fun h22 => ?_)
    · refine lv_iconst (v := 0) hx hb dX0_enterTrap_29 (by decide) ?_
      refine lv_ior hx hb dX0_enterTrap_30 ?_
      refine w_istore hx hb dX0_enterTrap_31 hl (Nat.le_of_ble_eq_true rfl) (fun ls hl => ?_)
      refine lv_aload_n hx hb dX0_enterTrap_33 rfl (hl.at rfl) ?_
      refine w_get C hw (c0 := 20) (i0 := i) rfl inA0 10 (by decide) mw118 rfl dX0_enterTrap_34 (hG 20 (by decide) (by decide)) rfl rfl rfl ?_
      refine lv_iconst (v := 0) hx hb dX0_enterTrap_37 (by decide) ?_
      refine lv_iload_n hx hb dX0_enterTrap_38 rfl (hl.at rfl) ?_
      refine lv_sipush (v := 1792) hx hb dX0_enterTrap_39 (by decide) ?_
      refine lv_iand hx hb dX0_enterTrap_42 ?_
      refine lv_iload hx hb dX0_enterTrap_43 (hl.at rfl) ?_
      refine lv_ior hx hb dX0_enterTrap_45 ?_
      refine w_ist C hw (c0 := 24) (i0 := i) dX0_enterTrap_46 (hG 24 (by decide) (by decide)) rfl (fun _ => rfl) (vpk (by decide)) (j := 0) (by decide) (fun H locs hw => ?_)
      refine lv_aload_n hx hb dX0_enterTrap_47 rfl (hl.at rfl) ?_
      refine w_get C hw (c0 := 20) (i0 := i) rfl inA0 10 (by decide) mw118 rfl dX0_enterTrap_48 (hG 20 (by decide) (by decide)) rfl rfl rfl ?_
      refine lv_iconst (v := 1) hx hb dX0_enterTrap_51 (by decide) ?_
      refine lv_iload_n hx hb dX0_enterTrap_52 rfl (hl.at rfl) ?_
      refine w_ist C hw (c0 := 24) (i0 := i) dX0_enterTrap_53 (hG 24 (by decide) (by decide)) rfl (fun _ => rfl) (vpk (by decide)) (j := 1) (by decide) (fun H locs hw => ?_)
      refine lv_aload_n hx hb dX0_enterTrap_54 rfl (hl.at rfl) ?_
      refine w_get C hw (c0 := 20) (i0 := i) rfl inA0 10 (by decide) mw118 rfl dX0_enterTrap_55 (hG 20 (by decide) (by decide)) rfl rfl rfl ?_
      refine lv_iconst (v := 2) hx hb dX0_enterTrap_58 (by decide) ?_
      refine lv_aload_n hx hb dX0_enterTrap_59 rfl (hl.at rfl) ?_
      refine w_get C hw (c0 := 20) (i0 := i) rfl inA0 2 (by decide) mw136 rfl dX0_enterTrap_60 (hG 20 (by decide) (by decide)) rfl rfl rfl ?_
      refine w_ist C hw (c0 := 24) (i0 := i) dX0_enterTrap_63 (hG 24 (by decide) (by decide)) rfl (fun _ => rfl) (vpk (by decide)) (j := 2) (by decide) (fun H locs hw => ?_)
      refine lv_aload_n hx hb dX0_enterTrap_64 rfl (hl.at rfl) ?_
      refine w_get C hw (c0 := 20) (i0 := i) rfl inA0 10 (by decide) mw118 rfl dX0_enterTrap_65 (hG 20 (by decide) (by decide)) rfl rfl rfl ?_
      refine lv_iconst (v := 3) hx hb dX0_enterTrap_68 (by decide) ?_
      refine lv_iload_n hx hb dX0_enterTrap_69 rfl (hl.at rfl) ?_
      refine w_ist C hw (c0 := 24) (i0 := i) dX0_enterTrap_70 (hG 24 (by decide) (by decide)) rfl (fun _ => rfl) (vpk (by decide)) (j := 3) (by decide) (fun H locs hw => ?_)
      refine lv_aload_n hx hb dX0_enterTrap_71 rfl (hl.at rfl) ?_
      refine lv_iconst (v := 1) hx hb dX0_enterTrap_72 (by decide) ?_
      refine w_put C hw (c0 := 20) (i0 := i) rfl inA0 tyX0_ok nmX0 3 (by decide) mw137 rfl rfl rfl dX0_enterTrap_73 (hG 20 (by decide) (by decide)) rfl rfl rfl rfl (Nat.le_of_ble_eq_true rfl) rfl (fun H locs hw => ?_)
      refine lv_aload_n hx hb dX0_enterTrap_76 rfl (hl.at rfl) ?_
      refine lv_aload_n hx hb dX0_enterTrap_77 rfl (hl.at rfl) ?_
      refine w_get C hw (c0 := 20) (i0 := i) rfl inA0 10 (by decide) mw118 rfl dX0_enterTrap_78 (hG 20 (by decide) (by decide)) rfl rfl rfl ?_
      refine lv_iconst (v := 4) hx hb dX0_enterTrap_81 (by decide) ?_
      refine w_ild C hw (c0 := 24) (i0 := i) dX0_enterTrap_82 (hG 24 (by decide) (by decide)) rfl rfl (vpk (by decide)) (j := 4) (by decide) ?_
      refine w_put C hw (c0 := 20) (i0 := i) rfl inA0 tyX0_ok nmX0 2 (by decide) mw136 rfl rfl rfl dX0_enterTrap_83 (hG 20 (by decide) (by decide)) rfl rfl rfl rfl (Nat.le_of_ble_eq_true rfl) rfl (fun H locs hw => ?_)
      refine lv_aload_n hx hb dX0_enterTrap_86 rfl (hl.at rfl) ?_
      refine lv_dup hx hb dX0_enterTrap_87 rfl ?_
      refine w_get C hw (c0 := 20) (i0 := i) rfl inA0 5 (by decide) mw139 rfl dX0_enterTrap_88 (hG 20 (by decide) (by decide)) rfl rfl rfl ?_
      refine lv_iconst (v := 1) hx hb dX0_enterTrap_91 (by decide) ?_
      refine lv_iadd hx hb dX0_enterTrap_92 ?_
      refine w_put C hw (c0 := 20) (i0 := i) rfl inA0 tyX0_ok nmX0 5 (by decide) mw139 rfl rfl rfl dX0_enterTrap_93 (hG 20 (by decide) (by decide)) rfl rfl rfl rfl (Nat.le_of_ble_eq_true rfl) rfl (fun H locs hw => ?_)
      exact w_vret C hw hr hlocks dX0_enterTrap_96 ⟨rfl, rfl, rfl, rfl, by simp [*, upr_uu, upr_s, upr, upd], rfl⟩
    · refine lv_iconst (v := 4) hx hb dX0_enterTrap_25 (by decide) ?_
      refine lv_goto (tgt := 30) hx hb dX0_enterTrap_26 (by decide) ?_
      refine lv_ior hx hb dX0_enterTrap_30 ?_
      refine w_istore hx hb dX0_enterTrap_31 hl (Nat.le_of_ble_eq_true rfl) (fun ls hl => ?_)
      refine lv_aload_n hx hb dX0_enterTrap_33 rfl (hl.at rfl) ?_
      refine w_get C hw (c0 := 20) (i0 := i) rfl inA0 10 (by decide) mw118 rfl dX0_enterTrap_34 (hG 20 (by decide) (by decide)) rfl rfl rfl ?_
      refine lv_iconst (v := 0) hx hb dX0_enterTrap_37 (by decide) ?_
      refine lv_iload_n hx hb dX0_enterTrap_38 rfl (hl.at rfl) ?_
      refine lv_sipush (v := 1792) hx hb dX0_enterTrap_39 (by decide) ?_
      refine lv_iand hx hb dX0_enterTrap_42 ?_
      refine lv_iload hx hb dX0_enterTrap_43 (hl.at rfl) ?_
      refine lv_ior hx hb dX0_enterTrap_45 ?_
      refine w_ist C hw (c0 := 24) (i0 := i) dX0_enterTrap_46 (hG 24 (by decide) (by decide)) rfl (fun _ => rfl) (vpk (by decide)) (j := 0) (by decide) (fun H locs hw => ?_)
      refine lv_aload_n hx hb dX0_enterTrap_47 rfl (hl.at rfl) ?_
      refine w_get C hw (c0 := 20) (i0 := i) rfl inA0 10 (by decide) mw118 rfl dX0_enterTrap_48 (hG 20 (by decide) (by decide)) rfl rfl rfl ?_
      refine lv_iconst (v := 1) hx hb dX0_enterTrap_51 (by decide) ?_
      refine lv_iload_n hx hb dX0_enterTrap_52 rfl (hl.at rfl) ?_
      refine w_ist C hw (c0 := 24) (i0 := i) dX0_enterTrap_53 (hG 24 (by decide) (by decide)) rfl (fun _ => rfl) (vpk (by decide)) (j := 1) (by decide) (fun H locs hw => ?_)
      refine lv_aload_n hx hb dX0_enterTrap_54 rfl (hl.at rfl) ?_
      refine w_get C hw (c0 := 20) (i0 := i) rfl inA0 10 (by decide) mw118 rfl dX0_enterTrap_55 (hG 20 (by decide) (by decide)) rfl rfl rfl ?_
      refine lv_iconst (v := 2) hx hb dX0_enterTrap_58 (by decide) ?_
      refine lv_aload_n hx hb dX0_enterTrap_59 rfl (hl.at rfl) ?_
      refine w_get C hw (c0 := 20) (i0 := i) rfl inA0 2 (by decide) mw136 rfl dX0_enterTrap_60 (hG 20 (by decide) (by decide)) rfl rfl rfl ?_
      refine w_ist C hw (c0 := 24) (i0 := i) dX0_enterTrap_63 (hG 24 (by decide) (by decide)) rfl (fun _ => rfl) (vpk (by decide)) (j := 2) (by decide) (fun H locs hw => ?_)
      refine lv_aload_n hx hb dX0_enterTrap_64 rfl (hl.at rfl) ?_
      refine w_get C hw (c0 := 20) (i0 := i) rfl inA0 10 (by decide) mw118 rfl dX0_enterTrap_65 (hG 20 (by decide) (by decide)) rfl rfl rfl ?_
      refine lv_iconst (v := 3) hx hb dX0_enterTrap_68 (by decide) ?_
      refine lv_iload_n hx hb dX0_enterTrap_69 rfl (hl.at rfl) ?_
      refine w_ist C hw (c0 := 24) (i0 := i) dX0_enterTrap_70 (hG 24 (by decide) (by decide)) rfl (fun _ => rfl) (vpk (by decide)) (j := 3) (by decide) (fun H locs hw => ?_)
      refine lv_aload_n hx hb dX0_enterTrap_71 rfl (hl.at rfl) ?_
      refine lv_iconst (v := 1) hx hb dX0_enterTrap_72 (by decide) ?_
      refine w_put C hw (c0 := 20) (i0 := i) rfl inA0 tyX0_ok nmX0 3 (by decide) mw137 rfl rfl rfl dX0_enterTrap_73 (hG 20 (by decide) (by decide)) rfl rfl rfl rfl (Nat.le_of_ble_eq_true rfl) rfl (fun H locs hw => ?_)
      refine lv_aload_n hx hb dX0_enterTrap_76 rfl (hl.at rfl) ?_
      refine lv_aload_n hx hb dX0_enterTrap_77 rfl (hl.at rfl) ?_
      refine w_get C hw (c0 := 20) (i0 := i) rfl inA0 10 (by decide) mw118 rfl dX0_enterTrap_78 (hG 20 (by decide) (by decide)) rfl rfl rfl ?_
      refine lv_iconst (v := 4) hx hb dX0_enterTrap_81 (by decide) ?_
      refine w_ild C hw (c0 := 24) (i0 := i) dX0_enterTrap_82 (hG 24 (by decide) (by decide)) rfl rfl (vpk (by decide)) (j := 4) (by decide) ?_
      refine w_put C hw (c0 := 20) (i0 := i) rfl inA0 tyX0_ok nmX0 2 (by decide) mw136 rfl rfl rfl dX0_enterTrap_83 (hG 20 (by decide) (by decide)) rfl rfl rfl rfl (Nat.le_of_ble_eq_true rfl) rfl (fun H locs hw => ?_)
      refine lv_aload_n hx hb dX0_enterTrap_86 rfl (hl.at rfl) ?_
      refine lv_dup hx hb dX0_enterTrap_87 rfl ?_
      refine w_get C hw (c0 := 20) (i0 := i) rfl inA0 5 (by decide) mw139 rfl dX0_enterTrap_88 (hG 20 (by decide) (by decide)) rfl rfl rfl ?_
      refine lv_iconst (v := 1) hx hb dX0_enterTrap_91 (by decide) ?_
      refine lv_iadd hx hb dX0_enterTrap_92 ?_
      refine w_put C hw (c0 := 20) (i0 := i) rfl inA0 tyX0_ok nmX0 5 (by decide) mw139 rfl rfl rfl dX0_enterTrap_93 (hG 20 (by decide) (by decide)) rfl rfl rfl rfl (Nat.le_of_ble_eq_true rfl) rfl (fun H locs hw => ?_)
      exact w_vret C hw hr hlocks dX0_enterTrap_96 ⟨rfl, rfl, rfl, rfl, by simp [*, upr_uu, upr_s, upr, upd], rfl⟩
  · refine lv_iconst (v := 2) hx hb dX0_enterTrap_13 (by decide) ?_
    refine lv_goto (tgt := 18) hx hb dX0_enterTrap_14 (by decide) ?_
    refine lv_aload_n hx hb dX0_enterTrap_18 rfl (hl.at rfl) ?_
    refine w_get C hw (c0 := 20) (i0 := i) rfl inA0 3 (by decide) mw137 rfl dX0_enterTrap_19 (hG 20 (by decide) (by decide)) rfl rfl rfl ?_
    refine lv_if_eq (tgt := 29) hx hb dX0_enterTrap_22 (by decide) (fun h22 => ?_) (fun h22 => ?_)
    · refine lv_iconst (v := 0) hx hb dX0_enterTrap_29 (by decide) ?_
      refine lv_ior hx hb dX0_enterTrap_30 ?_
      refine w_istore hx hb dX0_enterTrap_31 hl (Nat.le_of_ble_eq_true rfl) (fun ls hl => ?_)
      refine lv_aload_n hx hb dX0_enterTrap_33 rfl (hl.at rfl) ?_
      refine w_get C hw (c0 := 20) (i0 := i) rfl inA0 10 (by decide) mw118 rfl dX0_enterTrap_34 (hG 20 (by decide) (by decide)) rfl rfl rfl ?_
      refine lv_iconst (v := 0) hx hb dX0_enterTrap_37 (by decide) ?_
      refine lv_iload_n hx hb dX0_enterTrap_38 rfl (hl.at rfl) ?_
      refine lv_sipush (v := 1792) hx hb dX0_enterTrap_39 (by decide) ?_
      refine lv_iand hx hb dX0_enterTrap_42 ?_
      refine lv_iload hx hb dX0_enterTrap_43 (hl.at rfl) ?_
      refine lv_ior hx hb dX0_enterTrap_45 ?_
      refine w_ist C hw (c0 := 24) (i0 := i) dX0_enterTrap_46 (hG 24 (by decide) (by decide)) rfl (fun _ => rfl) (vpk (by decide)) (j := 0) (by decide) (fun H locs hw => ?_)
      refine lv_aload_n hx hb dX0_enterTrap_47 rfl (hl.at rfl) ?_
      refine w_get C hw (c0 := 20) (i0 := i) rfl inA0 10 (by decide) mw118 rfl dX0_enterTrap_48 (hG 20 (by decide) (by decide)) rfl rfl rfl ?_
      refine lv_iconst (v := 1) hx hb dX0_enterTrap_51 (by decide) ?_
      refine lv_iload_n hx hb dX0_enterTrap_52 rfl (hl.at rfl) ?_
      refine w_ist C hw (c0 := 24) (i0 := i) dX0_enterTrap_53 (hG 24 (by decide) (by decide)) rfl (fun _ => rfl) (vpk (by decide)) (j := 1) (by decide) (fun H locs hw => ?_)
      refine lv_aload_n hx hb dX0_enterTrap_54 rfl (hl.at rfl) ?_
      refine w_get C hw (c0 := 20) (i0 := i) rfl inA0 10 (by decide) mw118 rfl dX0_enterTrap_55 (hG 20 (by decide) (by decide)) rfl rfl rfl ?_
      refine lv_iconst (v := 2) hx hb dX0_enterTrap_58 (by decide) ?_
      refine lv_aload_n hx hb dX0_enterTrap_59 rfl (hl.at rfl) ?_
      refine w_get C hw (c0 := 20) (i0 := i) rfl inA0 2 (by decide) mw136 rfl dX0_enterTrap_60 (hG 20 (by decide) (by decide)) rfl rfl rfl ?_
      refine w_ist C hw (c0 := 24) (i0 := i) dX0_enterTrap_63 (hG 24 (by decide) (by decide)) rfl (fun _ => rfl) (vpk (by decide)) (j := 2) (by decide) (fun H locs hw => ?_)
      refine lv_aload_n hx hb dX0_enterTrap_64 rfl (hl.at rfl) ?_
      refine w_get C hw (c0 := 20) (i0 := i) rfl inA0 10 (by decide) mw118 rfl dX0_enterTrap_65 (hG 20 (by decide) (by decide)) rfl rfl rfl ?_
      refine lv_iconst (v := 3) hx hb dX0_enterTrap_68 (by decide) ?_
      refine lv_iload_n hx hb dX0_enterTrap_69 rfl (hl.at rfl) ?_
      refine w_ist C hw (c0 := 24) (i0 := i) dX0_enterTrap_70 (hG 24 (by decide) (by decide)) rfl (fun _ => rfl) (vpk (by decide)) (j := 3) (by decide) (fun H locs hw => ?_)
      refine lv_aload_n hx hb dX0_enterTrap_71 rfl (hl.at rfl) ?_
      refine lv_iconst (v := 1) hx hb dX0_enterTrap_72 (by decide) ?_
      refine w_put C hw (c0 := 20) (i0 := i) rfl inA0 tyX0_ok nmX0 3 (by decide) mw137 rfl rfl rfl dX0_enterTrap_73 (hG 20 (by decide) (by decide)) rfl rfl rfl rfl (Nat.le_of_ble_eq_true rfl) rfl (fun H locs hw => ?_)
      refine lv_aload_n hx hb dX0_enterTrap_76 rfl (hl.at rfl) ?_
      refine lv_aload_n hx hb dX0_enterTrap_77 rfl (hl.at rfl) ?_
      refine w_get C hw (c0 := 20) (i0 := i) rfl inA0 10 (by decide) mw118 rfl dX0_enterTrap_78 (hG 20 (by decide) (by decide)) rfl rfl rfl ?_
      refine lv_iconst (v := 4) hx hb dX0_enterTrap_81 (by decide) ?_
      refine w_ild C hw (c0 := 24) (i0 := i) dX0_enterTrap_82 (hG 24 (by decide) (by decide)) rfl rfl (vpk (by decide)) (j := 4) (by decide) ?_
      refine w_put C hw (c0 := 20) (i0 := i) rfl inA0 tyX0_ok nmX0 2 (by decide) mw136 rfl rfl rfl dX0_enterTrap_83 (hG 20 (by decide) (by decide)) rfl rfl rfl rfl (Nat.le_of_ble_eq_true rfl) rfl (fun H locs hw => ?_)
      refine lv_aload_n hx hb dX0_enterTrap_86 rfl (hl.at rfl) ?_
      refine lv_dup hx hb dX0_enterTrap_87 rfl ?_
      refine w_get C hw (c0 := 20) (i0 := i) rfl inA0 5 (by decide) mw139 rfl dX0_enterTrap_88 (hG 20 (by decide) (by decide)) rfl rfl rfl ?_
      refine lv_iconst (v := 1) hx hb dX0_enterTrap_91 (by decide) ?_
      refine lv_iadd hx hb dX0_enterTrap_92 ?_
      refine w_put C hw (c0 := 20) (i0 := i) rfl inA0 tyX0_ok nmX0 5 (by decide) mw139 rfl rfl rfl dX0_enterTrap_93 (hG 20 (by decide) (by decide)) rfl rfl rfl rfl (Nat.le_of_ble_eq_true rfl) rfl (fun H locs hw => ?_)
      exact w_vret C hw hr hlocks dX0_enterTrap_96 ⟨rfl, rfl, rfl, rfl, by simp [*, upr_uu, upr_s, upr, upd], rfl⟩
    · refine lv_iconst (v := 4) hx hb dX0_enterTrap_25 (by decide) ?_
      refine lv_goto (tgt := 30) hx hb dX0_enterTrap_26 (by decide) ?_
      refine lv_ior hx hb dX0_enterTrap_30 ?_
      refine w_istore hx hb dX0_enterTrap_31 hl (Nat.le_of_ble_eq_true rfl) (fun ls hl => ?_)
      refine lv_aload_n hx hb dX0_enterTrap_33 rfl (hl.at rfl) ?_
      refine w_get C hw (c0 := 20) (i0 := i) rfl inA0 10 (by decide) mw118 rfl dX0_enterTrap_34 (hG 20 (by decide) (by decide)) rfl rfl rfl ?_
      refine lv_iconst (v := 0) hx hb dX0_enterTrap_37 (by decide) ?_
      refine lv_iload_n hx hb dX0_enterTrap_38 rfl (hl.at rfl) ?_
      refine lv_sipush (v := 1792) hx hb dX0_enterTrap_39 (by decide) ?_
      refine lv_iand hx hb dX0_enterTrap_42 ?_
      refine lv_iload hx hb dX0_enterTrap_43 (hl.at rfl) ?_
      refine lv_ior hx hb dX0_enterTrap_45 ?_
      refine w_ist C hw (c0 := 24) (i0 := i) dX0_enterTrap_46 (hG 24 (by decide) (by decide)) rfl (fun _ => rfl) (vpk (by decide)) (j := 0) (by decide) (fun H locs hw => ?_)
      refine lv_aload_n hx hb dX0_enterTrap_47 rfl (hl.at rfl) ?_
      refine w_get C hw (c0 := 20) (i0 := i) rfl inA0 10 (by decide) mw118 rfl dX0_enterTrap_48 (hG 20 (by decide) (by decide)) rfl rfl rfl ?_
      refine lv_iconst (v := 1) hx hb dX0_enterTrap_51 (by decide) ?_
      refine lv_iload_n hx hb dX0_enterTrap_52 rfl (hl.at rfl) ?_
      refine w_ist C hw (c0 := 24) (i0 := i) dX0_enterTrap_53 (hG 24 (by decide) (by decide)) rfl (fun _ => rfl) (vpk (by decide)) (j := 1) (by decide) (fun H locs hw => ?_)
      refine lv_aload_n hx hb dX0_enterTrap_54 rfl (hl.at rfl) ?_
      refine w_get C hw (c0 := 20) (i0 := i) rfl inA0 10 (by decide) mw118 rfl dX0_enterTrap_55 (hG 20 (by decide) (by decide)) rfl rfl rfl ?_
      refine lv_iconst (v := 2) hx hb dX0_enterTrap_58 (by decide) ?_
      refine lv_aload_n hx hb dX0_enterTrap_59 rfl (hl.at rfl) ?_
      refine w_get C hw (c0 := 20) (i0 := i) rfl inA0 2 (by decide) mw136 rfl dX0_enterTrap_60 (hG 20 (by decide) (by decide)) rfl rfl rfl ?_
      refine w_ist C hw (c0 := 24) (i0 := i) dX0_enterTrap_63 (hG 24 (by decide) (by decide)) rfl (fun _ => rfl) (vpk (by decide)) (j := 2) (by decide) (fun H locs hw => ?_)
      refine lv_aload_n hx hb dX0_enterTrap_64 rfl (hl.at rfl) ?_
      refine w_get C hw (c0 := 20) (i0 := i) rfl inA0 10 (by decide) mw118 rfl dX0_enterTrap_65 (hG 20 (by decide) (by decide)) rfl rfl rfl ?_
      refine lv_iconst (v := 3) hx hb dX0_enterTrap_68 (by decide) ?_
      refine lv_iload_n hx hb dX0_enterTrap_69 rfl (hl.at rfl) ?_
      refine w_ist C hw (c0 := 24) (i0 := i) dX0_enterTrap_70 (hG 24 (by decide) (by decide)) rfl (fun _ => rfl) (vpk (by decide)) (j := 3) (by decide) (fun H locs hw => ?_)
      refine lv_aload_n hx hb dX0_enterTrap_71 rfl (hl.at rfl) ?_
      refine lv_iconst (v := 1) hx hb dX0_enterTrap_72 (by decide) ?_
      refine w_put C hw (c0 := 20) (i0 := i) rfl inA0 tyX0_ok nmX0 3 (by decide) mw137 rfl rfl rfl dX0_enterTrap_73 (hG 20 (by decide) (by decide)) rfl rfl rfl rfl (Nat.le_of_ble_eq_true rfl) rfl (fun H locs hw => ?_)
      refine lv_aload_n hx hb dX0_enterTrap_76 rfl (hl.at rfl) ?_
      refine lv_aload_n hx hb dX0_enterTrap_77 rfl (hl.at rfl) ?_
      refine w_get C hw (c0 := 20) (i0 := i) rfl inA0 10 (by decide) mw118 rfl dX0_enterTrap_78 (hG 20 (by decide) (by decide)) rfl rfl rfl ?_
      refine lv_iconst (v := 4) hx hb dX0_enterTrap_81 (by decide) ?_
      refine w_ild C hw (c0 := 24) (i0 := i) dX0_enterTrap_82 (hG 24 (by decide) (by decide)) rfl rfl (vpk (by decide)) (j := 4) (by decide) ?_
      refine w_put C hw (c0 := 20) (i0 := i) rfl inA0 tyX0_ok nmX0 2 (by decide) mw136 rfl rfl rfl dX0_enterTrap_83 (hG 20 (by decide) (by decide)) rfl rfl rfl rfl (Nat.le_of_ble_eq_true rfl) rfl (fun H locs hw => ?_)
      refine lv_aload_n hx hb dX0_enterTrap_86 rfl (hl.at rfl) ?_
      refine lv_dup hx hb dX0_enterTrap_87 rfl ?_
      refine w_get C hw (c0 := 20) (i0 := i) rfl inA0 5 (by decide) mw139 rfl dX0_enterTrap_88 (hG 20 (by decide) (by decide)) rfl rfl rfl ?_
      refine lv_iconst (v := 1) hx hb dX0_enterTrap_91 (by decide) ?_
      refine lv_iadd hx hb dX0_enterTrap_92 ?_
      refine w_put C hw (c0 := 20) (i0 := i) rfl inA0 tyX0_ok nmX0 5 (by decide) mw139 rfl rfl rfl dX0_enterTrap_93 (hG 20 (by decide) (by decide)) rfl rfl rfl rfl (Nat.le_of_ble_eq_true rfl) rfl (fun H locs hw => ?_)
      exact w_vret C hw hr hlocks dX0_enterTrap_96 ⟨rfl, rfl, rfl, rfl, by simp [*, upr_uu, upr_s, upr, upd], rfl⟩

set_option maxHeartbeats 4000000 in
set_option maxRecDepth 100000 in
theorem c_X0_leaveTrap (l : Launch) (sz0 : Nat) (D : va_G) (cs : Nat → ClassId) (X : Sh) (Z : ZT) (Y : va_W) (i : Nat) (hG : GI X i) : Ctr l yX0_leaveTrap (wsM yX0_leaveTrap cX0_leaveTrap 3 none) ({ frames := 0, cells := 0, slots := 0, locals := 0 }) sz0 D cs [.ref (X.1 20 i)] X Z Y (Pz X Y (fun Z' v => Z' = upr (upr Z 24 i (upd (Z 24 i) 0 (((Z 24 i 0 &&& 1792) ||| 2) ||| (if Z 24 i 0 &&& 2 = 0 then 0 else 1)))) 20 i (upd (Z 20 i) 3 (if Z 24 i 0 &&& 4 = 0 then 0 else 1)) ∧ v = none)) := by
  refine Ctr.ofW (by decide +kernel) (by intro v hv; simp at hv; rcases hv with rfl <;> rfl) (Nat.le_of_ble_eq_true rfl) ?_
  intro p e s m below meth c ls C hr hlocks hname hl hN hw
  obtain ⟨hx, hb, hml, hown, hts⟩ := id C
  refine lv_aload_n hx hb dX0_leaveTrap_0 rfl (hl.at rfl) ?_
  refine w_get C hw (c0 := 20) (i0 := i) rfl inA0 10 (by decide) mw118 rfl dX0_leaveTrap_1 (hG 20 (by decide) (by decide)) rfl rfl rfl ?_
  refine lv_iconst (v := 0) hx hb dX0_leaveTrap_4 (by decide) ?_
  refine w_ild C hw (c0 := 24) (i0 := i) dX0_leaveTrap_5 (hG 24 (by decide) (by decide)) rfl rfl (vpk (by decide)) (j := 0) (by decide) ?_
  refine w_istore_n hx hb dX0_leaveTrap_6 rfl hl (Nat.le_of_ble_eq_true rfl) (fun ls hl => ?_)
  refine lv_iload_n hx hb dX0_leaveTrap_7 rfl (hl.at rfl) ?_
  refine lv_iconst (v := 2) hx hb dX0_leaveTrap_8 (by decide) ?_
  refine lv_iand hx hb dX0_leaveTrap_9 ?_
  refine lv_if_eq (tgt := 17) hx hb dX0_leaveTrap_10 (by decide) (fun h10 => ?_) (fun h10 => ?_)
  · refine lv_iconst (v := 0) hx hb dX0_leaveTrap_17 (by decide) ?_
    refine w_istore_n hx hb dX0_leaveTrap_18 rfl hl (Nat.le_of_ble_eq_true rfl) (fun ls hl => ?_)
    refine lv_aload_n hx hb dX0_leaveTrap_19 rfl (hl.at rfl) ?_
    refine w_get C hw (c0 := 20) (i0 := i) rfl inA0 10 (by decide) mw118 rfl dX0_leaveTrap_20 (hG 20 (by decide) (by decide)) rfl rfl rfl ?_
    refine lv_iconst (v := 0) hx hb dX0_leaveTrap_23 (by decide) ?_
    refine lv_iload_n hx hb dX0_leaveTrap_24 rfl (hl.at rfl) ?_
    refine lv_sipush (v := 1792) hx hb dX0_leaveTrap_25 (by decide) ?_
    refine lv_iand hx hb dX0_leaveTrap_28 ?_
    refine lv_iconst (v := 2) hx hb dX0_leaveTrap_29 (by decide) ?_
    refine lv_ior hx hb dX0_leaveTrap_30 ?_
    refine lv_iload_n hx hb dX0_leaveTrap_31 rfl (hl.at rfl) ?_
    refine lv_ior hx hb dX0_leaveTrap_32 ?_
    refine w_ist C hw (c0 := 24) (i0 := i) dX0_leaveTrap_33 (hG 24 (by decide) (by decide)) rfl (fun _ => rfl) (vpk (by decide)) (j := 0) (by decide) (fun H locs hw => ?_)
    refine lv_aload_n hx hb dX0_leaveTrap_34 rfl (hl.at rfl) ?_
    refine lv_iload_n hx hb dX0_leaveTrap_35 rfl (hl.at rfl) ?_
    refine lv_iconst (v := 4) hx hb dX0_leaveTrap_36 (by decide) ?_
    refine lv_iand hx hb dX0_leaveTrap_37 ?_
    refine lv_if_eq (tgt := 45) hx hb dX0_leaveTrap_38 (by decide) (fun h38 => ?_) (fun h38 => ?_)
    · refine lv_iconst (v := 0) hx hb dX0_leaveTrap_45 (by decide) ?_
      refine w_put C hw (c0 := 20) (i0 := i) rfl inA0 tyX0_ok nmX0 3 (by decide) mw137 rfl rfl rfl dX0_leaveTrap_46 (hG 20 (by decide) (by decide)) rfl rfl rfl rfl (Nat.le_of_ble_eq_true rfl) rfl (fun H locs hw => ?_)
      exact w_vret C hw hr hlocks dX0_leaveTrap_49 ⟨rfl, rfl, rfl, rfl, by simp [*, upr_uu, upr_s, upr, upd], rfl⟩
    · refine lv_iconst (v := 1) hx hb dX0_leaveTrap_41 (by decide) ?_
      refine lv_goto (tgt := 46) hx hb dX0_leaveTrap_42 (by decide) ?_
      refine w_put C hw (c0 := 20) (i0 := i) rfl inA0 tyX0_ok nmX0 3 (by decide) mw137 rfl rfl rfl dX0_leaveTrap_46 (hG 20 (by decide) (by decide)) rfl rfl rfl rfl (Nat.le_of_ble_eq_true rfl) rfl (fun H locs hw => ?_)
      exact w_vret C hw hr hlocks dX0_leaveTrap_49 ⟨rfl, rfl, rfl, rfl, by simp [*, upr_uu, upr_s, upr, upd], rfl⟩
  · refine lv_iconst (v := 1) hx hb dX0_leaveTrap_13 (by decide) ?_
    refine lv_goto (tgt := 18) hx hb dX0_leaveTrap_14 (by decide) ?_
    refine w_istore_n hx hb dX0_leaveTrap_18 rfl hl (Nat.le_of_ble_eq_true rfl) (fun ls hl => ?_)
    refine lv_aload_n hx hb dX0_leaveTrap_19 rfl (hl.at rfl) ?_
    refine w_get C hw (c0 := 20) (i0 := i) rfl inA0 10 (by decide) mw118 rfl dX0_leaveTrap_20 (hG 20 (by decide) (by decide)) rfl rfl rfl ?_
    refine lv_iconst (v := 0) hx hb dX0_leaveTrap_23 (by decide) ?_
    refine lv_iload_n hx hb dX0_leaveTrap_24 rfl (hl.at rfl) ?_
    refine lv_sipush (v := 1792) hx hb dX0_leaveTrap_25 (by decide) ?_
    refine lv_iand hx hb dX0_leaveTrap_28 ?_
    refine lv_iconst (v := 2) hx hb dX0_leaveTrap_29 (by decide) ?_
    refine lv_ior hx hb dX0_leaveTrap_30 ?_
    refine lv_iload_n hx hb dX0_leaveTrap_31 rfl (hl.at rfl) ?_
    refine lv_ior hx hb dX0_leaveTrap_32 ?_
    refine w_ist C hw (c0 := 24) (i0 := i) dX0_leaveTrap_33 (hG 24 (by decide) (by decide)) rfl (fun _ => rfl) (vpk (by decide)) (j := 0) (by decide) (fun H locs hw => ?_)
    refine lv_aload_n hx hb dX0_leaveTrap_34 rfl (hl.at rfl) ?_
    refine lv_iload_n hx hb dX0_leaveTrap_35 rfl (hl.at rfl) ?_
    refine lv_iconst (v := 4) hx hb dX0_leaveTrap_36 (by decide) ?_
    refine lv_iand hx hb dX0_leaveTrap_37 ?_
    refine lv_if_eq (tgt := 45) hx hb dX0_leaveTrap_38 (by decide) (fun h38 => ?_) (fun h38 => ?_)
    · refine lv_iconst (v := 0) hx hb dX0_leaveTrap_45 (by decide) ?_
      refine w_put C hw (c0 := 20) (i0 := i) rfl inA0 tyX0_ok nmX0 3 (by decide) mw137 rfl rfl rfl dX0_leaveTrap_46 (hG 20 (by decide) (by decide)) rfl rfl rfl rfl (Nat.le_of_ble_eq_true rfl) rfl (fun H locs hw => ?_)
      exact w_vret C hw hr hlocks dX0_leaveTrap_49 ⟨rfl, rfl, rfl, rfl, by simp [*, upr_uu, upr_s, upr, upd], rfl⟩
    · refine lv_iconst (v := 1) hx hb dX0_leaveTrap_41 (by decide) ?_
      refine lv_goto (tgt := 46) hx hb dX0_leaveTrap_42 (by decide) ?_
      refine w_put C hw (c0 := 20) (i0 := i) rfl inA0 tyX0_ok nmX0 3 (by decide) mw137 rfl rfl rfl dX0_leaveTrap_46 (hG 20 (by decide) (by decide)) rfl rfl rfl rfl (Nat.le_of_ble_eq_true rfl) rfl (fun H locs hw => ?_)
      exact w_vret C hw hr hlocks dX0_leaveTrap_49 ⟨rfl, rfl, rfl, rfl, by simp [*, upr_uu, upr_s, upr, upd], rfl⟩
