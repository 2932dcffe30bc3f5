/-! ===== GuestHouse$Guest: its methods ===== -/

set_option maxHeartbeats 4000000 in
set_option maxRecDepth 100000 in
theorem c_X0_hasWord (l : Launch) (sz0 : Nat) (D : va_G) (cs : Nat → ClassId) (X : Sh) (Z : ZT) (Y : va_W) (i : Nat) (hG : GI X i) (a : Int32) : Ctr l yX0_hasWord (wsM yX0_hasWord cX0_hasWord 2 (some .boolean)) ({ frames := 0, cells := 0, slots := 0, locals := 0 }) sz0 D cs [.ref (X.1 20 i), .int a] X Z Y (Pz X Y (fun Z' v => Z = Z' ∧ v = some (.int (hasWv (Z 20 i 6) a)))) := by
  refine Ctr.ofW (by decide +kernel) (by intro v hv; simp at hv; rcases hv with rfl | rfl <;> rfl) (Nat.le_of_ble_eq_true rfl) ?_
  intro p e s m below meth c ls C hr hlocks hname hl hN hw
  obtain ⟨hx, hb, hml, hown, hts⟩ := id C
  refine lv_iload_n hx hb dX0_hasWord_0 rfl (hl.at rfl) ?_
  refine lv_if_lt (tgt := 19) hx hb dX0_hasWord_1 (by decide) (fun h1 => ?_) (fun h1 => ?_)
  · refine lv_iconst (v := 0) hx hb dX0_hasWord_19 (by decide) ?_
    exact w_zret C hw hr hlocks dX0_hasWord_20 (by decide) ⟨rfl, rfl, rfl, rfl, rfl, by simp [hasWv, *]⟩
  · refine lv_iload_n hx hb dX0_hasWord_4 rfl (hl.at rfl) ?_
    refine lv_bipush (v := 64) hx hb dX0_hasWord_5 (by decide) ?_
    refine lv_aload_n hx hb dX0_hasWord_7 rfl (hl.at rfl) ?_
    refine w_get C hw (c0 := 20) (i0 := i) rfl inA0 6 (by decide) mw128 rfl dX0_hasWord_8 (hG 20 (by decide) (by decide)) rfl rfl rfl ?_
    refine lv_imul hx hb dX0_hasWord_11 ?_
    refine lv_icmp_ge (tgt := 19) hx hb dX0_hasWord_12 (by decide) (fun h12 => ?_) (fun h12 => ?_)
    · refine lv_iconst (v := 0) hx hb dX0_hasWord_19 (by decide) ?_
      exact w_zret C hw hr hlocks dX0_hasWord_20 (by decide) ⟨rfl, rfl, rfl, rfl, rfl, by simp [hasWv, *]⟩
    · refine lv_iconst (v := 1) hx hb dX0_hasWord_15 (by decide) ?_
      refine lv_goto (tgt := 20) hx hb dX0_hasWord_16 (by decide) ?_
      exact w_zret C hw hr hlocks dX0_hasWord_20 (by decide) ⟨rfl, rfl, rfl, rfl, rfl, by simp [hasWv, *]⟩

set_option maxHeartbeats 4000000 in
set_option maxRecDepth 100000 in
theorem c_X0_timerIsUp (l : Launch) (sz0 : Nat) (D : va_G) (cs : Nat → ClassId) (X : Sh) (Z : ZT) (Y : va_W) (i : Nat) (hG : GI X i) : Ctr l yX0_timerIsUp (wsM yX0_timerIsUp cX0_timerIsUp 1 (some .boolean)) ({ frames := 0, cells := 0, slots := 0, locals := 0 }) sz0 D cs [.ref (X.1 20 i)] X Z Y (Pz X Y (fun Z' v => Z = Z' ∧ v = some (.int (timeUpv (Z 24 i 8) (Z 24 i 6))))) := by
  refine Ctr.ofW (by decide +kernel) (by intro v hv; simp at hv; rcases hv with rfl <;> rfl) (Nat.le_of_ble_eq_true rfl) ?_
  intro p e s m below meth c ls C hr hlocks hname hl hN hw
  obtain ⟨hx, hb, hml, hown, hts⟩ := id C
  refine lv_aload_n hx hb dX0_timerIsUp_0 rfl (hl.at rfl) ?_
  refine w_get C hw (c0 := 20) (i0 := i) rfl inA0 10 (by decide) mw118 rfl dX0_timerIsUp_1 (hG 20 (by decide) (by decide)) rfl rfl rfl ?_
  refine lv_bipush (v := 6) hx hb dX0_timerIsUp_4 (by decide) ?_
  refine w_ild C hw (c0 := 24) (i0 := i) dX0_timerIsUp_6 (hG 24 (by decide) (by decide)) rfl rfl (vpk (by decide)) (j := 6) (by decide) ?_
  refine lv_if_eq (tgt := 32) hx hb dX0_timerIsUp_7 (by decide) (fun h7 => ?_) (fun h7 => ?_)
  · refine lv_iconst (v := 0) hx hb dX0_timerIsUp_32 (by decide) ?_
    exact w_zret C hw hr hlocks dX0_timerIsUp_33 (by decide) ⟨rfl, rfl, rfl, rfl, rfl, by simp [timeUpv, *]⟩
  · refine lv_aload_n hx hb dX0_timerIsUp_10 rfl (hl.at rfl) ?_
    refine w_get C hw (c0 := 20) (i0 := i) rfl inA0 10 (by decide) mw118 rfl dX0_timerIsUp_11 (hG 20 (by decide) (by decide)) rfl rfl rfl ?_
    refine lv_bipush (v := 8) hx hb dX0_timerIsUp_14 (by decide) ?_
    refine w_ild C hw (c0 := 24) (i0 := i) dX0_timerIsUp_16 (hG 24 (by decide) (by decide)) rfl rfl (vpk (by decide)) (j := 8) (by decide) ?_
    refine lv_aload_n hx hb dX0_timerIsUp_17 rfl (hl.at rfl) ?_
    refine w_get C hw (c0 := 20) (i0 := i) rfl inA0 10 (by decide) mw118 rfl dX0_timerIsUp_18 (hG 20 (by decide) (by decide)) rfl rfl rfl ?_
    refine lv_bipush (v := 6) hx hb dX0_timerIsUp_21 (by decide) ?_
    refine w_ild C hw (c0 := 24) (i0 := i) dX0_timerIsUp_23 (hG 24 (by decide) (by decide)) rfl rfl (vpk (by decide)) (j := 6) (by decide) ?_
    refine lv_isub hx hb dX0_timerIsUp_24 ?_
    refine lv_if_lt (tgt := 32) hx hb dX0_timerIsUp_25 (by decide) (fun h25 => ?_) (fun h25 => ?_)
    · refine lv_iconst (v := 0) hx hb dX0_timerIsUp_32 (by decide) ?_
      exact w_zret C hw hr hlocks dX0_timerIsUp_33 (by decide) ⟨rfl, rfl, rfl, rfl, rfl, by simp [timeUpv, *]⟩
    · refine lv_iconst (v := 1) hx hb dX0_timerIsUp_28 (by decide) ?_
      refine lv_goto (tgt := 33) hx hb dX0_timerIsUp_29 (by decide) ?_
      exact w_zret C hw hr hlocks dX0_timerIsUp_33 (by decide) ⟨rfl, rfl, rfl, rfl, rfl, by simp [timeUpv, *]⟩

set_option maxHeartbeats 4000000 in
set_option maxRecDepth 100000 in
theorem c_X0_arrive (l : Launch) (sz0 : Nat) (D : va_G) (cs : Nat → ClassId) (X : Sh) (Z : ZT) (Y : va_W) (i : Nat) (hG : GI X i) (a : Int32) : Ctr l yX0_arrive (wsM yX0_arrive cX0_arrive 2 (some .boolean)) ({ frames := 0, cells := 0, slots := 0, locals := 0 }) sz0 D cs [.ref (X.1 20 i), .int a] X Z Y (Pz X Y (fun Z' v => (¬ Z 20 i 14 < 64 ∧ Z = Z' ∧ v = some (.int 0)) ∨ (Z 20 i 14 < 64 ∧ Z' = upr (upr Z 26 i (upd (Z 26 i) ((Z 20 i 13 + Z 20 i 14) &&& 63).toNatClampNeg a)) 20 i (upd (Z 20 i) 14 (Z 20 i 14 + 1)) ∧ v = some (.int 1)))) := by
  refine Ctr.ofW (by decide +kernel) (by intro v hv; simp at hv; rcases hv with rfl | rfl <;> rfl) (Nat.le_of_ble_eq_true rfl) ?_
  intro p e s m below meth c ls C hr hlocks hname hl hN hw
  obtain ⟨hx, hb, hml, hown, hts⟩ := id C
  refine lv_aload_n hx hb dX0_arrive_0 rfl (hl.at rfl) ?_
  refine w_get C hw (c0 := 20) (i0 := i) rfl inA0 14 (by decide) mw130 rfl dX0_arrive_1 (hG 20 (by decide) (by decide)) rfl rfl rfl ?_
  refine lv_bipush (v := 64) hx hb dX0_arrive_4 (by decide) ?_
  refine lv_icmp_lt (tgt := 11) hx hb dX0_arrive_6 (by decide) (fun h6 => ?_) (fun h6 => ?_)
  · refine lv_aload_n hx hb dX0_arrive_11 rfl (hl.at rfl) ?_
    refine w_get C hw (c0 := 20) (i0 := i) rfl inA0 12 (by decide) mw120 rfl dX0_arrive_12 (hG 20 (by decide) (by decide)) rfl rfl rfl ?_
    refine lv_aload_n hx hb dX0_arrive_15 rfl (hl.at rfl) ?_
    refine w_get C hw (c0 := 20) (i0 := i) rfl inA0 13 (by decide) mw129 rfl dX0_arrive_16 (hG 20 (by decide) (by decide)) rfl rfl rfl ?_
    refine lv_aload_n hx hb dX0_arrive_19 rfl (hl.at rfl) ?_
    refine w_get C hw (c0 := 20) (i0 := i) rfl inA0 14 (by decide) mw130 rfl dX0_arrive_20 (hG 20 (by decide) (by decide)) rfl rfl rfl ?_
    refine lv_iadd hx hb dX0_arrive_23 ?_
    refine lv_bipush (v := 63) hx hb dX0_arrive_24 (by decide) ?_
    refine lv_iand hx hb dX0_arrive_26 ?_
    refine lv_iload_n hx hb dX0_arrive_27 rfl (hl.at rfl) ?_
    refine w_ist C hw (c0 := 26) (i0 := i) dX0_arrive_28 (hG 26 (by decide) (by decide)) rfl (fun _ => rfl) (vp63 _) rfl (fun H locs hw => ?_)
    refine lv_aload_n hx hb dX0_arrive_29 rfl (hl.at rfl) ?_
    refine lv_dup hx hb dX0_arrive_30 rfl ?_
    refine w_get C hw (c0 := 20) (i0 := i) rfl inA0 14 (by decide) mw130 rfl dX0_arrive_31 (hG 20 (by decide) (by decide)) rfl rfl rfl ?_
    refine lv_iconst (v := 1) hx hb dX0_arrive_34 (by decide) ?_
    refine lv_iadd hx hb dX0_arrive_35 ?_
    refine w_put C hw (c0 := 20) (i0 := i) rfl inA0 tyX0_ok nmX0 14 (by decide) mw130 rfl rfl rfl dX0_arrive_36 (hG 20 (by decide) (by decide)) rfl rfl rfl rfl (Nat.le_of_ble_eq_true rfl) rfl (fun H locs hw => ?_)
    refine lv_iconst (v := 1) hx hb dX0_arrive_39 (by decide) ?_
    exact w_zret C hw hr hlocks dX0_arrive_40 (by decide) ⟨rfl, rfl, rfl, rfl, by first | exact Or.inl ⟨by assumption, rfl, rfl⟩ | exact Or.inr ⟨by assumption, rfl, rfl⟩⟩
  · refine lv_iconst (v := 0) hx hb dX0_arrive_9 (by decide) ?_
    exact w_zret C hw hr hlocks dX0_arrive_10 (by decide) ⟨rfl, rfl, rfl, rfl, by first | exact Or.inl ⟨by assumption, rfl, rfl⟩ | exact Or.inr ⟨by assumption, rfl, rfl⟩⟩

set_option maxHeartbeats 4000000 in
set_option maxRecDepth 100000 in
theorem c_X0_takeOldest (l : Launch) (sz0 : Nat) (D : va_G) (cs : Nat → ClassId) (X : Sh) (Z : ZT) (Y : va_W) (i : Nat) (hG : GI X i) : Ctr l yX0_takeOldest (wsM yX0_takeOldest cX0_takeOldest 2 (some .int)) ({ frames := 0, cells := 0, slots := 0, locals := 0 }) sz0 D cs [.ref (X.1 20 i)] X Z Y (Pz X Y (fun Z' v => (¬ 0 < Z 20 i 14 ∧ Z = Z' ∧ v = some (.int 0)) ∨ (0 < Z 20 i 14 ∧ Z' = upr Z 20 i (upd (upd (Z 20 i) 13 ((Z 20 i 13 + 1) &&& 63)) 14 (Z 20 i 14 - 1)) ∧ v = some (.int (Z 26 i (Z 20 i 13 &&& 63).toNatClampNeg))))) := by
  refine Ctr.ofW (by decide +kernel) (by intro v hv; simp at hv; rcases hv with rfl <;> rfl) (Nat.le_of_ble_eq_true rfl) ?_
  intro p e s m below meth c ls C hr hlocks hname hl hN hw
  obtain ⟨hx, hb, hml, hown, hts⟩ := id C
  refine lv_aload_n hx hb dX0_takeOldest_0 rfl (hl.at rfl) ?_
  refine w_get C hw (c0 := 20) (i0 := i) rfl inA0 14 (by decide) mw130 rfl dX0_takeOldest_1 (hG 20 (by decide) (by decide)) rfl rfl rfl ?_
  refine lv_if_gt (tgt := 9) hx hb dX0_takeOldest_4 (by decide) (fun h4 => ?_) (fun h4 => ?_)
  · refine lv_aload_n hx hb dX0_takeOldest_9 rfl (hl.at rfl) ?_
    refine w_get C hw (c0 := 20) (i0 := i) rfl inA0 12 (by decide) mw120 rfl dX0_takeOldest_10 (hG 20 (by decide) (by decide)) rfl rfl rfl ?_
    refine lv_aload_n hx hb dX0_takeOldest_13 rfl (hl.at rfl) ?_
    refine w_get C hw (c0 := 20) (i0 := i) rfl inA0 13 (by decide) mw129 rfl dX0_takeOldest_14 (hG 20 (by decide) (by decide)) rfl rfl rfl ?_
    refine lv_bipush (v := 63) hx hb dX0_takeOldest_17 (by decide) ?_
    refine lv_iand hx hb dX0_takeOldest_19 ?_
    refine w_ild C hw (c0 := 26) (i0 := i) dX0_takeOldest_20 (hG 26 (by decide) (by decide)) rfl rfl (vp63 _) rfl ?_
    refine w_istore_n hx hb dX0_takeOldest_21 rfl hl (Nat.le_of_ble_eq_true rfl) (fun ls hl => ?_)
    refine lv_aload_n hx hb dX0_takeOldest_22 rfl (hl.at rfl) ?_
    refine lv_aload_n hx hb dX0_takeOldest_23 rfl (hl.at rfl) ?_
    refine w_get C hw (c0 := 20) (i0 := i) rfl inA0 13 (by decide) mw129 rfl dX0_takeOldest_24 (hG 20 (by decide) (by decide)) rfl rfl rfl ?_
    refine lv_iconst (v := 1) hx hb dX0_takeOldest_27 (by decide) ?_
    refine lv_iadd hx hb dX0_takeOldest_28 ?_
    refine lv_bipush (v := 63) hx hb dX0_takeOldest_29 (by decide) ?_
    refine lv_iand hx hb dX0_takeOldest_31 ?_
    refine w_put C hw (c0 := 20) (i0 := i) rfl inA0 tyX0_ok nmX0 13 (by decide) mw129 rfl rfl rfl dX0_takeOldest_32 (hG 20 (by decide) (by decide)) rfl rfl rfl rfl (Nat.le_of_ble_eq_true rfl) rfl (fun H locs hw => ?_)
    refine lv_aload_n hx hb dX0_takeOldest_35 rfl (hl.at rfl) ?_
    refine lv_dup hx hb dX0_takeOldest_36 rfl ?_
    refine w_get C hw (c0 := 20) (i0 := i) rfl inA0 14 (by decide) mw130 rfl dX0_takeOldest_37 (hG 20 (by decide) (by decide)) rfl rfl rfl ?_
    refine lv_iconst (v := 1) hx hb dX0_takeOldest_40 (by decide) ?_
    refine lv_isub hx hb dX0_takeOldest_41 ?_
    refine w_put C hw (c0 := 20) (i0 := i) rfl inA0 tyX0_ok nmX0 14 (by decide) mw130 rfl rfl rfl dX0_takeOldest_42 (hG 20 (by decide) (by decide)) rfl rfl rfl rfl (Nat.le_of_ble_eq_true rfl) rfl (fun H locs hw => ?_)
    refine lv_iload_n hx hb dX0_takeOldest_45 rfl (hl.at rfl) ?_
    exact w_iret C hw hr hlocks dX0_takeOldest_46 ⟨rfl, rfl, rfl, rfl, by first | exact Or.inl ⟨by assumption, rfl, rfl⟩ | exact Or.inr ⟨by assumption, by simp [upr_uu, upr_s, upd], rfl⟩⟩
  · refine lv_iconst (v := 0) hx hb dX0_takeOldest_7 (by decide) ?_
    exact w_iret C hw hr hlocks dX0_takeOldest_8 ⟨rfl, rfl, rfl, rfl, by first | exact Or.inl ⟨by assumption, rfl, rfl⟩ | exact Or.inr ⟨by assumption, by simp [upr_uu, upr_s, upd], rfl⟩⟩

set_option maxHeartbeats 4000000 in
set_option maxRecDepth 100000 in
theorem c_X0_putOut (l : Launch) (sz0 : Nat) (D : va_G) (cs : Nat → ClassId) (X : Sh) (Z : ZT) (Y : va_W) (i : Nat) (hG : GI X i) (a : Int32) : Ctr l yX0_putOut (wsM yX0_putOut cX0_putOut 2 none) ({ frames := 0, cells := 0, slots := 0, locals := 0 }) sz0 D cs [.ref (X.1 20 i), .int a] X Z Y (Pz X Y (fun Z' v => Z' = upr (if Z 20 i 16 < 0 ∨ 1000 ≤ Z 20 i 16 then Z else upr Z 27 i (upd (Z 27 i) (Z 20 i 16).toNatClampNeg a)) 20 i (upd (Z 20 i) 16 (Z 20 i 16 + 1)) ∧ v = none)) := by
  refine Ctr.ofW (by decide +kernel) (by intro v hv; simp at hv; rcases hv with rfl | rfl <;> rfl) (Nat.le_of_ble_eq_true rfl) ?_
  intro p e s m below meth c ls C hr hlocks hname hl hN hw
  obtain ⟨hx, hb, hml, hown, hts⟩ := id C
  refine lv_aload_n hx hb dX0_putOut_0 rfl (hl.at rfl) ?_
  refine w_get C hw (c0 := 20) (i0 := i) rfl inA0 16 (by decide) mw131 rfl dX0_putOut_1 (hG 20 (by decide) (by decide)) rfl rfl rfl ?_
  refine lv_if_lt (tgt := 27) hx hb dX0_putOut_4 (by decide) (fun h4 => ?_) (fun h4 => ?_)
  · refine lv_aload_n hx hb dX0_putOut_27 rfl (hl.at rfl) ?_
    refine lv_dup hx hb dX0_putOut_28 rfl ?_
    refine w_get C hw (c0 := 20) (i0 := i) rfl inA0 16 (by decide) mw131 rfl dX0_putOut_29 (hG 20 (by decide) (by decide)) rfl rfl rfl ?_
    refine lv_iconst (v := 1) hx hb dX0_putOut_32 (by decide) ?_
    refine lv_iadd hx hb dX0_putOut_33 ?_
    refine w_put C hw (c0 := 20) (i0 := i) rfl inA0 tyX0_ok nmX0 16 (by decide) mw131 rfl rfl rfl dX0_putOut_34 (hG 20 (by decide) (by decide)) rfl rfl rfl rfl (Nat.le_of_ble_eq_true rfl) rfl (fun H locs hw => ?_)
    exact w_vret C hw hr hlocks dX0_putOut_37 ⟨rfl, rfl, rfl, rfl, by simp [*, upr], rfl⟩
  · refine lv_aload_n hx hb dX0_putOut_7 rfl (hl.at rfl) ?_
    refine w_get C hw (c0 := 20) (i0 := i) rfl inA0 16 (by decide) mw131 rfl dX0_putOut_8 (hG 20 (by decide) (by decide)) rfl rfl rfl ?_
    refine lv_sipush (v := 1000) hx hb dX0_putOut_11 (by decide) ?_
    refine lv_icmp_ge (tgt := 27) hx hb dX0_putOut_14 (by decide) (fun h14 => ?_) (fun h14 => ?_)
    · refine lv_aload_n hx hb dX0_putOut_27 rfl (hl.at rfl) ?_
      refine lv_dup hx hb dX0_putOut_28 rfl ?_
      refine w_get C hw (c0 := 20) (i0 := i) rfl inA0 16 (by decide) mw131 rfl dX0_putOut_29 (hG 20 (by decide) (by decide)) rfl rfl rfl ?_
      refine lv_iconst (v := 1) hx hb dX0_putOut_32 (by decide) ?_
      refine lv_iadd hx hb dX0_putOut_33 ?_
      refine w_put C hw (c0 := 20) (i0 := i) rfl inA0 tyX0_ok nmX0 16 (by decide) mw131 rfl rfl rfl dX0_putOut_34 (hG 20 (by decide) (by decide)) rfl rfl rfl rfl (Nat.le_of_ble_eq_true rfl) rfl (fun H locs hw => ?_)
      exact w_vret C hw hr hlocks dX0_putOut_37 ⟨rfl, rfl, rfl, rfl, by simp [*, upr], rfl⟩
    · refine lv_aload_n hx hb dX0_putOut_17 rfl (hl.at rfl) ?_
      refine w_get C hw (c0 := 20) (i0 := i) rfl inA0 15 (by decide) mw121 rfl dX0_putOut_18 (hG 20 (by decide) (by decide)) rfl rfl rfl ?_
      refine lv_aload_n hx hb dX0_putOut_21 rfl (hl.at rfl) ?_
      refine w_get C hw (c0 := 20) (i0 := i) rfl inA0 16 (by decide) mw131 rfl dX0_putOut_22 (hG 20 (by decide) (by decide)) rfl rfl rfl ?_
      refine lv_iload_n hx hb dX0_putOut_25 rfl (hl.at rfl) ?_
      refine w_ist C hw (c0 := 27) (i0 := i) dX0_putOut_26 (hG 27 (by decide) (by decide)) rfl (fun _ => rfl) (vpr (by decide) h4 h14) rfl (fun H locs hw => ?_)
      refine lv_aload_n hx hb dX0_putOut_27 rfl (hl.at rfl) ?_
      refine lv_dup hx hb dX0_putOut_28 rfl ?_
      refine w_get C hw (c0 := 20) (i0 := i) rfl inA0 16 (by decide) mw131 rfl dX0_putOut_29 (hG 20 (by decide) (by decide)) rfl rfl rfl ?_
      refine lv_iconst (v := 1) hx hb dX0_putOut_32 (by decide) ?_
      refine lv_iadd hx hb dX0_putOut_33 ?_
      refine w_put C hw (c0 := 20) (i0 := i) rfl inA0 tyX0_ok nmX0 16 (by decide) mw131 rfl rfl rfl dX0_putOut_34 (hG 20 (by decide) (by decide)) rfl rfl rfl rfl (Nat.le_of_ble_eq_true rfl) rfl (fun H locs hw => ?_)
      exact w_vret C hw hr hlocks dX0_putOut_37 ⟨rfl, rfl, rfl, rfl, by simp [*, upr], rfl⟩

set_option maxHeartbeats 4000000 in
set_option maxRecDepth 100000 in
theorem c_X0_enterTrap (l : Launch) (sz0 : Nat) (D : va_G) (cs : Nat → ClassId) (X : Sh) (Z : ZT) (Y : va_W) (i : Nat) (hG : GI X i) (a b : Int32) : Ctr l yX0_enterTrap (wsM yX0_enterTrap cX0_enterTrap 5 none) ({ frames := 0, cells := 0, slots := 0, locals := 0 }) sz0 D cs [.ref (X.1 20 i), .int a, .int b] X Z Y (Pz X Y (fun Z' v => Z' = upr (upr Z 24 i (upd (upd (upd (upd (Z 24 i) 0 ((Z 24 i 0 &&& 1792) ||| ((if Z 24 i 0 &&& 1 = 0 then 0 else 2) ||| (if Z 20 i 3 = 0 then 0 else 4)))) 1 a) 2 (Z 20 i 2)) 3 b)) 20 i (upd (upd (upd (Z 20 i) 3 1) 2 (Z 24 i 4)) 5 (Z 20 i 5 + 1)) ∧ v = none)) := by
  refine Ctr.ofW (by decide +kernel) (by intro v hv; simp at hv; rcases hv with rfl | rfl | rfl <;> rfl) (Nat.le_of_ble_eq_true rfl) ?_
  intro p e s m below meth c ls C hr hlocks hname hl hN hw
  obtain ⟨hx, hb, hml, hown, hts⟩ := id C
  refine lv_aload_n hx hb dX0_enterTrap_0 rfl (hl.at rfl) ?_
  refine w_get C hw (c0 := 20) (i0 := i) rfl inA0 10 (by decide) mw118 rfl dX0_enterTrap_1 (hG 20 (by decide) (by decide)) rfl rfl rfl ?_
  refine lv_iconst (v := 0) hx hb dX0_enterTrap_4 (by decide) ?_
  refine w_ild C hw (c0 := 24) (i0 := i) dX0_enterTrap_5 (hG 24 (by decide) (by decide)) rfl rfl (vpk (by decide)) (j := 0) (by decide) ?_
  refine w_istore_n hx hb dX0_enterTrap_6 rfl hl (Nat.le_of_ble_eq_true rfl) (fun ls hl => ?_)
  refine lv_iload_n hx hb dX0_enterTrap_7 rfl (hl.at rfl) ?_
  refine lv_iconst (v := 1) hx hb dX0_enterTrap_8 (by decide) ?_
  refine lv_iand hx hb dX0_enterTrap_9 ?_
  refine lv_if_eq (tgt := 17) hx hb dX0_enterTrap_10 (by decide) (fun h10 => ?_) (fun h10 => ?_)
  · refine lv_iconst (v := 0) hx hb dX0_enterTrap_17 (by decide) ?_
    refine lv_aload_n hx hb dX0_enterTrap_18 rfl (hl.at rfl) ?_
    refine w_get C hw (c0 := 20) (i0 := i) rfl inA0 3 (by decide) mw137 rfl dX0_enterTrap_19 (hG 20 (by decide) (by decide)) rfl rfl rfl ?_
    refine lv_if_eq (tgt := 29) hx hb dX0_enterTrap_22 (by decide) (fun h22 => ?_) (fun h22 => ?_)
    · refine lv_iconst (v := 0) hx hb dX0_enterTrap_29 (by decide) ?_
      refine lv_ior hx hb dX0_enterTrap_30 ?_
      refine w_istore hx hb dX0_enterTrap_31 hl (Nat.le_of_ble_eq_true rfl) (fun ls hl => ?_)
      refine lv_aload_n hx hb dX0_enterTrap_33 rfl (hl.at rfl) ?_
      refine w_get C hw (c0 := 20) (i0 := i) rfl inA0 10 (by decide) mw118 rfl dX0_enterTrap_34 (hG 20 (by decide) (by decide)) rfl rfl rfl ?_
      refine lv_iconst (v := 0) hx hb dX0_enterTrap_37 (by decide) ?_
      refine lv_iload_n hx hb dX0_enterTrap_38 rfl (hl.at rfl) ?_
      refine lv_sipush (v := 1792) hx hb dX0_enterTrap_39 (by decide) ?_
      refine lv_iand hx hb dX0_enterTrap_42 ?_
      refine lv_iload hx hb dX0_enterTrap_43 (hl.at rfl) ?_
      refine lv_ior hx hb dX0_enterTrap_45 ?_
      refine w_ist C hw (c0 := 24) (i0 := i) dX0_enterTrap_46 (hG 24 (by decide) (by decide)) rfl (fun _ => rfl) (vpk (by decide)) (j := 0) (by decide) (fun H locs hw => ?_)
      refine lv_aload_n hx hb dX0_enterTrap_47 rfl (hl.at rfl) ?_
      refine w_get C hw (c0 := 20) (i0 := i) rfl inA0 10 (by decide) mw118 rfl dX0_enterTrap_48 (hG 20 (by decide) (by decide)) rfl rfl rfl ?_
      refine lv_iconst (v := 1) hx hb dX0_enterTrap_51 (by decide) ?_
      refine lv_iload_n hx hb dX0_enterTrap_52 rfl (hl.at rfl) ?_
      refine w_ist C hw (c0 := 24) (i0 := i) dX0_enterTrap_53 (hG 24 (by decide) (by decide)) rfl (fun _ => rfl) (vpk (by decide)) (j := 1) (by decide) (fun H locs hw => ?_)
      refine lv_aload_n hx hb dX0_enterTrap_54 rfl (hl.at rfl) ?_
      refine w_get C hw (c0 := 20) (i0 := i) rfl inA0 10 (by decide) mw118 rfl dX0_enterTrap_55 (hG 20 (by decide) (by decide)) rfl rfl rfl ?_
      refine lv_iconst (v := 2) hx hb dX0_enterTrap_58 (by decide) ?_
      refine lv_aload_n hx hb dX0_enterTrap_59 rfl (hl.at rfl) ?_
      refine w_get C hw (c0 := 20) (i0 := i) rfl inA0 2 (by decide) mw136 rfl dX0_enterTrap_60 (hG 20 (by decide) (by decide)) rfl rfl rfl ?_
      refine w_ist C hw (c0 := 24) (i0 := i) dX0_enterTrap_63 (hG 24 (by decide) (by decide)) rfl (fun _ => rfl) (vpk (by decide)) (j := 2) (by decide) (fun H locs hw => ?_)
      refine lv_aload_n hx hb dX0_enterTrap_64 rfl (hl.at rfl) ?_
      refine w_get C hw (c0 := 20) (i0 := i) rfl inA0 10 (by decide) mw118 rfl dX0_enterTrap_65 (hG 20 (by decide) (by decide)) rfl rfl rfl ?_
      refine lv_iconst (v := 3) hx hb dX0_enterTrap_68 (by decide) ?_
      refine lv_iload_n hx hb dX0_enterTrap_69 rfl (hl.at rfl) ?_
      refine w_ist C hw (c0 := 24) (i0 := i) dX0_enterTrap_70 (hG 24 (by decide) (by decide)) rfl (fun _ => rfl) (vpk (by decide)) (j := 3) (by decide) (fun H locs hw => ?_)
      refine lv_aload_n hx hb dX0_enterTrap_71 rfl (hl.at rfl) ?_
      refine lv_iconst (v := 1) hx hb dX0_enterTrap_72 (by decide) ?_
      refine w_put C hw (c0 := 20) (i0 := i) rfl inA0 tyX0_ok nmX0 3 (by decide) mw137 rfl rfl rfl dX0_enterTrap_73 (hG 20 (by decide) (by decide)) rfl rfl rfl rfl (Nat.le_of_ble_eq_true rfl) rfl (fun H locs hw => ?_)
      refine lv_aload_n hx hb dX0_enterTrap_76 rfl (hl.at rfl) ?_
      refine lv_aload_n hx hb dX0_enterTrap_77 rfl (hl.at rfl) ?_
      refine w_get C hw (c0 := 20) (i0 := i) rfl inA0 10 (by decide) mw118 rfl dX0_enterTrap_78 (hG 20 (by decide) (by decide)) rfl rfl rfl ?_
      refine lv_iconst (v := 4) hx hb dX0_enterTrap_81 (by decide) ?_
      refine w_ild C hw (c0 := 24) (i0 := i) dX0_enterTrap_82 (hG 24 (by decide) (by decide)) rfl rfl (vpk (by decide)) (j := 4) (by decide) ?_
      refine w_put C hw (c0 := 20) (i0 := i) rfl inA0 tyX0_ok nmX0 2 (by decide) mw136 rfl rfl rfl dX0_enterTrap_83 (hG 20 (by decide) (by decide)) rfl rfl rfl rfl (Nat.le_of_ble_eq_true rfl) rfl (fun H locs hw => ?_)
      refine lv_aload_n hx hb dX0_enterTrap_86 rfl (hl.at rfl) ?_
      refine lv_dup hx hb dX0_enterTrap_87 rfl ?_
      refine w_get C hw (c0 := 20) (i0 := i) rfl inA0 5 (by decide) mw139 rfl dX0_enterTrap_88 (hG 20 (by decide) (by decide)) rfl rfl rfl ?_
      refine lv_iconst (v := 1) hx hb dX0_enterTrap_91 (by decide) ?_
      refine lv_iadd hx hb dX0_enterTrap_92 ?_
      refine w_put C hw (c0 := 20) (i0 := i) rfl inA0 tyX0_ok nmX0 5 (by decide) mw139 rfl rfl rfl dX0_enterTrap_93 (hG 20 (by decide) (by decide)) rfl rfl rfl rfl (Nat.le_of_ble_eq_true rfl) rfl (fun H locs hw => ?_)
      exact w_vret C hw hr hlocks dX0_enterTrap_96 ⟨rfl, rfl, rfl, rfl, by simp [*, upr_uu, upr_s, upr, upd], rfl⟩
    · refine lv_iconst (v := 4) hx hb dX0_enterTrap_25 (by decide) ?_
      refine lv_goto (tgt := 30) hx hb dX0_enterTrap_26 (by decide) ?_
      refine lv_ior hx hb dX0_enterTrap_30 ?_
      refine w_istore hx hb dX0_enterTrap_31 hl (Nat.le_of_ble_eq_true rfl) (fun ls hl => ?_)
      refine lv_aload_n hx hb dX0_enterTrap_33 rfl (hl.at rfl) ?_
      refine w_get C hw (c0 := 20) (i0 := i) rfl inA0 10 (by decide) mw118 rfl dX0_enterTrap_34 (hG 20 (by decide) (by decide)) rfl rfl rfl ?_
      refine lv_iconst (v := 0) hx hb dX0_enterTrap_37 (by decide) ?_
      refine lv_iload_n hx hb dX0_enterTrap_38 rfl (hl.at rfl) ?_
      refine lv_sipush (v := 1792) hx hb dX0_enterTrap_39 (by decide) ?_
      refine lv_iand hx hb dX0_enterTrap_42 ?_
      refine lv_iload hx hb dX0_enterTrap_43 (hl.at rfl) ?_
      refine lv_ior hx hb dX0_enterTrap_45 ?_
      refine w_ist C hw (c0 := 24) (i0 := i) dX0_enterTrap_46 (hG 24 (by decide) (by decide)) rfl (fun _ => rfl) (vpk (by decide)) (j := 0) (by decide) (fun H locs hw => ?_)
      refine lv_aload_n hx hb dX0_enterTrap_47 rfl (hl.at rfl) ?_
      refine w_get C hw (c0 := 20) (i0 := i) rfl inA0 10 (by decide) mw118 rfl dX0_enterTrap_48 (hG 20 (by decide) (by decide)) rfl rfl rfl ?_
      refine lv_iconst (v := 1) hx hb dX0_enterTrap_51 (by decide) ?_
      refine lv_iload_n hx hb dX0_enterTrap_52 rfl (hl.at rfl) ?_
      refine w_ist C hw (c0 := 24) (i0 := i) dX0_enterTrap_53 (hG 24 (by decide) (by decide)) rfl (fun _ => rfl) (vpk (by decide)) (j := 1) (by decide) (fun H locs hw => ?_)
      refine lv_aload_n hx hb dX0_enterTrap_54 rfl (hl.at rfl) ?_
      refine w_get C hw (c0 := 20) (i0 := i) rfl inA0 10 (by decide) mw118 rfl dX0_enterTrap_55 (hG 20 (by decide) (by decide)) rfl rfl rfl ?_
      refine lv_iconst (v := 2) hx hb dX0_enterTrap_58 (by decide) ?_
      refine lv_aload_n hx hb dX0_enterTrap_59 rfl (hl.at rfl) ?_
      refine w_get C hw (c0 := 20) (i0 := i) rfl inA0 2 (by decide) mw136 rfl dX0_enterTrap_60 (hG 20 (by decide) (by decide)) rfl rfl rfl ?_
      refine w_ist C hw (c0 := 24) (i0 := i) dX0_enterTrap_63 (hG 24 (by decide) (by decide)) rfl (fun _ => rfl) (vpk (by decide)) (j := 2) (by decide) (fun H locs hw => ?_)
      refine lv_aload_n hx hb dX0_enterTrap_64 rfl (hl.at rfl) ?_
      refine w_get C hw (c0 := 20) (i0 := i) rfl inA0 10 (by decide) mw118 rfl dX0_enterTrap_65 (hG 20 (by decide) (by decide)) rfl rfl rfl ?_
      refine lv_iconst (v := 3) hx hb dX0_enterTrap_68 (by decide) ?_
      refine lv_iload_n hx hb dX0_enterTrap_69 rfl (hl.at rfl) ?_
      refine w_ist C hw (c0 := 24) (i0 := i) dX0_enterTrap_70 (hG 24 (by decide) (by decide)) rfl (fun _ => rfl) (vpk (by decide)) (j := 3) (by decide) (fun H locs hw => ?_)
      refine lv_aload_n hx hb dX0_enterTrap_71 rfl (hl.at rfl) ?_
      refine lv_iconst (v := 1) hx hb dX0_enterTrap_72 (by decide) ?_
      refine w_put C hw (c0 := 20) (i0 := i) rfl inA0 tyX0_ok nmX0 3 (by decide) mw137 rfl rfl rfl dX0_enterTrap_73 (hG 20 (by decide) (by decide)) rfl rfl rfl rfl (Nat.le_of_ble_eq_true rfl) rfl (fun H locs hw => ?_)
      refine lv_aload_n hx hb dX0_enterTrap_76 rfl (hl.at rfl) ?_
      refine lv_aload_n hx hb dX0_enterTrap_77 rfl (hl.at rfl) ?_
      refine w_get C hw (c0 := 20) (i0 := i) rfl inA0 10 (by decide) mw118 rfl dX0_enterTrap_78 (hG 20 (by decide) (by decide)) rfl rfl rfl ?_
      refine lv_iconst (v := 4) hx hb dX0_enterTrap_81 (by decide) ?_
      refine w_ild C hw (c0 := 24) (i0 := i) dX0_enterTrap_82 (hG 24 (by decide) (by decide)) rfl rfl (vpk (by decide)) (j := 4) (by decide) ?_
      refine w_put C hw (c0 := 20) (i0 := i) rfl inA0 tyX0_ok nmX0 2 (by decide) mw136 rfl rfl rfl dX0_enterTrap_83 (hG 20 (by decide) (by decide)) rfl rfl rfl rfl (Nat.le_of_ble_eq_true rfl) rfl (fun H locs hw => ?_)
      refine lv_aload_n hx hb dX0_enterTrap_86 rfl (hl.at rfl) ?_
      refine lv_dup hx hb dX0_enterTrap_87 rfl ?_
      refine w_get C hw (c0 := 20) (i0 := i) rfl inA0 5 (by decide) mw139 rfl dX0_enterTrap_88 (hG 20 (by decide) (by decide)) rfl rfl rfl ?_
      refine lv_iconst (v := 1) hx hb dX0_enterTrap_91 (by decide) ?_
      refine lv_iadd hx hb dX0_enterTrap_92 ?_
      refine w_put C hw (c0 := 20) (i0 := i) rfl inA0 tyX0_ok nmX0 5 (by decide) mw139 rfl rfl rfl dX0_enterTrap_93 (hG 20 (by decide) (by decide)) rfl rfl rfl rfl (Nat.le_of_ble_eq_true rfl) rfl (fun H locs hw => ?_)
      exact w_vret C hw hr hlocks dX0_enterTrap_96 ⟨rfl, rfl, rfl, rfl, by simp [*, upr_uu, upr_s, upr, upd], rfl⟩
  · refine lv_iconst (v := 2) hx hb dX0_enterTrap_13 (by decide) ?_
    refine lv_goto (tgt := 18) hx hb dX0_enterTrap_14 (by decide) ?_
    refine lv_aload_n hx hb dX0_enterTrap_18 rfl (hl.at rfl) ?_
    refine w_get C hw (c0 := 20) (i0 := i) rfl inA0 3 (by decide) mw137 rfl dX0_enterTrap_19 (hG 20 (by decide) (by decide)) rfl rfl rfl ?_
    refine lv_if_eq (tgt := 29) hx hb dX0_enterTrap_22 (by decide) (fun h22 => ?_) (fun h22 => ?_)
    · refine lv_iconst (v := 0) hx hb dX0_enterTrap_29 (by decide) ?_
      refine lv_ior hx hb dX0_enterTrap_30 ?_
      refine w_istore hx hb dX0_enterTrap_31 hl (Nat.le_of_ble_eq_true rfl) (fun ls hl => ?_)
      refine lv_aload_n hx hb dX0_enterTrap_33 rfl (hl.at rfl) ?_
      refine w_get C hw (c0 := 20) (i0 := i) rfl inA0 10 (by decide) mw118 rfl dX0_enterTrap_34 (hG 20 (by decide) (by decide)) rfl rfl rfl ?_
      refine lv_iconst (v := 0) hx hb dX0_enterTrap_37 (by decide) ?_
      refine lv_iload_n hx hb dX0_enterTrap_38 rfl (hl.at rfl) ?_
      refine lv_sipush (v := 1792) hx hb dX0_enterTrap_39 (by decide) ?_
      refine lv_iand hx hb dX0_enterTrap_42 ?_
      refine lv_iload hx hb dX0_enterTrap_43 (hl.at rfl) ?_
      refine lv_ior hx hb dX0_enterTrap_45 ?_
      refine w_ist C hw (c0 := 24) (i0 := i) dX0_enterTrap_46 (hG 24 (by decide) (by decide)) rfl (fun _ => rfl) (vpk (by decide)) (j := 0) (by decide) (fun H locs hw => ?_)
      refine lv_aload_n hx hb dX0_enterTrap_47 rfl (hl.at rfl) ?_
      refine w_get C hw (c0 := 20) (i0 := i) rfl inA0 10 (by decide) mw118 rfl dX0_enterTrap_48 (hG 20 (by decide) (by decide)) rfl rfl rfl ?_
      refine lv_iconst (v := 1) hx hb dX0_enterTrap_51 (by decide) ?_
      refine lv_iload_n hx hb dX0_enterTrap_52 rfl (hl.at rfl) ?_
      refine w_ist C hw (c0 := 24) (i0 := i) dX0_enterTrap_53 (hG 24 (by decide) (by decide)) rfl (fun _ => rfl) (vpk (by decide)) (j := 1) (by decide) (fun H locs hw => ?_)
      refine lv_aload_n hx hb dX0_enterTrap_54 rfl (hl.at rfl) ?_
      refine w_get C hw (c0 := 20) (i0 := i) rfl inA0 10 (by decide) mw118 rfl dX0_enterTrap_55 (hG 20 (by decide) (by decide)) rfl rfl rfl ?_
      refine lv_iconst (v := 2) hx hb dX0_enterTrap_58 (by decide) ?_
      refine lv_aload_n hx hb dX0_enterTrap_59 rfl (hl.at rfl) ?_
      refine w_get C hw (c0 := 20) (i0 := i) rfl inA0 2 (by decide) mw136 rfl dX0_enterTrap_60 (hG 20 (by decide) (by decide)) rfl rfl rfl ?_
      refine w_ist C hw (c0 := 24) (i0 := i) dX0_enterTrap_63 (hG 24 (by decide) (by decide)) rfl (fun _ => rfl) (vpk (by decide)) (j := 2) (by decide) (fun H locs hw => ?_)
      refine lv_aload_n hx hb dX0_enterTrap_64 rfl (hl.at rfl) ?_
      refine w_get C hw (c0 := 20) (i0 := i) rfl inA0 10 (by decide) mw118 rfl dX0_enterTrap_65 (hG 20 (by decide) (by decide)) rfl rfl rfl ?_
      refine lv_iconst (v := 3) hx hb dX0_enterTrap_68 (by decide) ?_
      refine lv_iload_n hx hb dX0_enterTrap_69 rfl (hl.at rfl) ?_
      refine w_ist C hw (c0 := 24) (i0 := i) dX0_enterTrap_70 (hG 24 (by decide) (by decide)) rfl (fun _ => rfl) (vpk (by decide)) (j := 3) (by decide) (fun H locs hw => ?_)
      refine lv_aload_n hx hb dX0_enterTrap_71 rfl (hl.at rfl) ?_
      refine lv_iconst (v := 1) hx hb dX0_enterTrap_72 (by decide) ?_
      refine w_put C hw (c0 := 20) (i0 := i) rfl inA0 tyX0_ok nmX0 3 (by decide) mw137 rfl rfl rfl dX0_enterTrap_73 (hG 20 (by decide) (by decide)) rfl rfl rfl rfl (Nat.le_of_ble_eq_true rfl) rfl (fun H locs hw => ?_)
      refine lv_aload_n hx hb dX0_enterTrap_76 rfl (hl.at rfl) ?_
      refine lv_aload_n hx hb dX0_enterTrap_77 rfl (hl.at rfl) ?_
      refine w_get C hw (c0 := 20) (i0 := i) rfl inA0 10 (by decide) mw118 rfl dX0_enterTrap_78 (hG 20 (by decide) (by decide)) rfl rfl rfl ?_
      refine lv_iconst (v := 4) hx hb dX0_enterTrap_81 (by decide) ?_
      refine w_ild C hw (c0 := 24) (i0 := i) dX0_enterTrap_82 (hG 24 (by decide) (by decide)) rfl rfl (vpk (by decide)) (j := 4) (by decide) ?_
      refine w_put C hw (c0 := 20) (i0 := i) rfl inA0 tyX0_ok nmX0 2 (by decide) mw136 rfl rfl rfl dX0_enterTrap_83 (hG 20 (by decide) (by decide)) rfl rfl rfl rfl (Nat.le_of_ble_eq_true rfl) rfl (fun H locs hw => ?_)
      refine lv_aload_n hx hb dX0_enterTrap_86 rfl (hl.at rfl) ?_
      refine lv_dup hx hb dX0_enterTrap_87 rfl ?_
      refine w_get C hw (c0 := 20) (i0 := i) rfl inA0 5 (by decide) mw139 rfl dX0_enterTrap_88 (hG 20 (by decide) (by decide)) rfl rfl rfl ?_
      refine lv_iconst (v := 1) hx hb dX0_enterTrap_91 (by decide) ?_
      refine lv_iadd hx hb dX0_enterTrap_92 ?_
      refine w_put C hw (c0 := 20) (i0 := i) rfl inA0 tyX0_ok nmX0 5 (by decide) mw139 rfl rfl rfl dX0_enterTrap_93 (hG 20 (by decide) (by decide)) rfl rfl rfl rfl (Nat.le_of_ble_eq_true rfl) rfl (fun H locs hw => ?_)
      exact w_vret C hw hr hlocks dX0_enterTrap_96 ⟨rfl, rfl, rfl, rfl, by simp [*, upr_uu, upr_s, upr, upd], rfl⟩
    · refine lv_iconst (v := 4) hx hb dX0_enterTrap_25 (by decide) ?_
      refine lv_goto (tgt := 30) hx hb dX0_enterTrap_26 (by decide) ?_
      refine lv_ior hx hb dX0_enterTrap_30 ?_
      refine w_istore hx hb dX0_enterTrap_31 hl (Nat.le_of_ble_eq_true rfl) (fun ls hl => ?_)
      refine lv_aload_n hx hb dX0_enterTrap_33 rfl (hl.at rfl) ?_
      refine w_get C hw (c0 := 20) (i0 := i) rfl inA0 10 (by decide) mw118 rfl dX0_enterTrap_34 (hG 20 (by decide) (by decide)) rfl rfl rfl ?_
      refine lv_iconst (v := 0) hx hb dX0_enterTrap_37 (by decide) ?_
      refine lv_iload_n hx hb dX0_enterTrap_38 rfl (hl.at rfl) ?_
      refine lv_sipush (v := 1792) hx hb dX0_enterTrap_39 (by decide) ?_
      refine lv_iand hx hb dX0_enterTrap_42 ?_
      refine lv_iload hx hb dX0_enterTrap_43 (hl.at rfl) ?_
      refine lv_ior hx hb dX0_enterTrap_45 ?_
      refine w_ist C hw (c0 := 24) (i0 := i) dX0_enterTrap_46 (hG 24 (by decide) (by decide)) rfl (fun _ => rfl) (vpk (by decide)) (j := 0) (by decide) (fun H locs hw => ?_)
      refine lv_aload_n hx hb dX0_enterTrap_47 rfl (hl.at rfl) ?_
      refine w_get C hw (c0 := 20) (i0 := i) rfl inA0 10 (by decide) mw118 rfl dX0_enterTrap_48 (hG 20 (by decide) (by decide)) rfl rfl rfl ?_
      refine lv_iconst (v := 1) hx hb dX0_enterTrap_51 (by decide) ?_
      refine lv_iload_n hx hb dX0_enterTrap_52 rfl (hl.at rfl) ?_
      refine w_ist C hw (c0 := 24) (i0 := i) dX0_enterTrap_53 (hG 24 (by decide) (by decide)) rfl (fun _ => rfl) (vpk (by decide)) (j := 1) (by decide) (fun H locs hw => ?_)
      refine lv_aload_n hx hb dX0_enterTrap_54 rfl (hl.at rfl) ?_
      refine w_get C hw (c0 := 20) (i0 := i) rfl inA0 10 (by decide) mw118 rfl dX0_enterTrap_55 (hG 20 (by decide) (by decide)) rfl rfl rfl ?_
      refine lv_iconst (v := 2) hx hb dX0_enterTrap_58 (by decide) ?_
      refine lv_aload_n hx hb dX0_enterTrap_59 rfl (hl.at rfl) ?_
      refine w_get C hw (c0 := 20) (i0 := i) rfl inA0 2 (by decide) mw136 rfl dX0_enterTrap_60 (hG 20 (by decide) (by decide)) rfl rfl rfl ?_
      refine w_ist C hw (c0 := 24) (i0 := i) dX0_enterTrap_63 (hG 24 (by decide) (by decide)) rfl (fun _ => rfl) (vpk (by decide)) (j := 2) (by decide) (fun H locs hw => ?_)
      refine lv_aload_n hx hb dX0_enterTrap_64 rfl (hl.at rfl) ?_
      refine w_get C hw (c0 := 20) (i0 := i) rfl inA0 10 (by decide) mw118 rfl dX0_enterTrap_65 (hG 20 (by decide) (by decide)) rfl rfl rfl ?_
      refine lv_iconst (v := 3) hx hb dX0_enterTrap_68 (by decide) ?_
      refine lv_iload_n hx hb dX0_enterTrap_69 rfl (hl.at rfl) ?_
      refine w_ist C hw (c0 := 24) (i0 := i) dX0_enterTrap_70 (hG 24 (by decide) (by decide)) rfl (fun _ => rfl) (vpk (by decide)) (j := 3) (by decide) (fun H locs hw => ?_)
      refine lv_aload_n hx hb dX0_enterTrap_71 rfl (hl.at rfl) ?_
      refine lv_iconst (v := 1) hx hb dX0_enterTrap_72 (by decide) ?_
      refine w_put C hw (c0 := 20) (i0 := i) rfl inA0 tyX0_ok nmX0 3 (by decide) mw137 rfl rfl rfl dX0_enterTrap_73 (hG 20 (by decide) (by decide)) rfl rfl rfl rfl (Nat.le_of_ble_eq_true rfl) rfl (fun H locs hw => ?_)
      refine lv_aload_n hx hb dX0_enterTrap_76 rfl (hl.at rfl) ?_
      refine lv_aload_n hx hb dX0_enterTrap_77 rfl (hl.at rfl) ?_
      refine w_get C hw (c0 := 20) (i0 := i) rfl inA0 10 (by decide) mw118 rfl dX0_enterTrap_78 (hG 20 (by decide) (by decide)) rfl rfl rfl ?_
      refine lv_iconst (v := 4) hx hb dX0_enterTrap_81 (by decide) ?_
      refine w_ild C hw (c0 := 24) (i0 := i) dX0_enterTrap_82 (hG 24 (by decide) (by decide)) rfl rfl (vpk (by decide)) (j := 4) (by decide) ?_
      refine w_put C hw (c0 := 20) (i0 := i) rfl inA0 tyX0_ok nmX0 2 (by decide) mw136 rfl rfl rfl dX0_enterTrap_83 (hG 20 (by decide) (by decide)) rfl rfl rfl rfl (Nat.le_of_ble_eq_true rfl) rfl (fun H locs hw => ?_)
      refine lv_aload_n hx hb dX0_enterTrap_86 rfl (hl.at rfl) ?_
      refine lv_dup hx hb dX0_enterTrap_87 rfl ?_
      refine w_get C hw (c0 := 20) (i0 := i) rfl inA0 5 (by decide) mw139 rfl dX0_enterTrap_88 (hG 20 (by decide) (by decide)) rfl rfl rfl ?_
      refine lv_iconst (v := 1) hx hb dX0_enterTrap_91 (by decide) ?_
      refine lv_iadd hx hb dX0_enterTrap_92 ?_
      refine w_put C hw (c0 := 20) (i0 := i) rfl inA0 tyX0_ok nmX0 5 (by decide) mw139 rfl rfl rfl dX0_enterTrap_93 (hG 20 (by decide) (by decide)) rfl rfl rfl rfl (Nat.le_of_ble_eq_true rfl) rfl (fun H locs hw => ?_)
      exact w_vret C hw hr hlocks dX0_enterTrap_96 ⟨rfl, rfl, rfl, rfl, by simp [*, upr_uu, upr_s, upr, upd], rfl⟩

set_option maxHeartbeats 4000000 in
set_option maxRecDepth 100000 in
theorem c_X0_leaveTrap (l : Launch) (sz0 : Nat) (D : va_G) (cs : Nat → ClassId) (X : Sh) (Z : ZT) (Y : va_W) (i : Nat) (hG : GI X i) : Ctr l yX0_leaveTrap (wsM yX0_leaveTrap cX0_leaveTrap 3 none) ({ frames := 0, cells := 0, slots := 0, locals := 0 }) sz0 D cs [.ref (X.1 20 i)] X Z Y (Pz X Y (fun Z' v => Z' = upr (upr Z 24 i (upd (Z 24 i) 0 (((Z 24 i 0 &&& 1792) ||| 2) ||| (if Z 24 i 0 &&& 2 = 0 then 0 else 1)))) 20 i (upd (Z 20 i) 3 (if Z 24 i 0 &&& 4 = 0 then 0 else 1)) ∧ v = none)) := by
  refine Ctr.ofW (by decide +kernel) (by intro v hv; simp at hv; rcases hv with rfl <;> rfl) (Nat.le_of_ble_eq_true rfl) ?_
  intro p e s m below meth c ls C hr hlocks hname hl hN hw
  obtain ⟨hx, hb, hml, hown, hts⟩ := id C
  refine lv_aload_n hx hb dX0_leaveTrap_0 rfl (hl.at rfl) ?_
  refine w_get C hw (c0 := 20) (i0 := i) rfl inA0 10 (by decide) mw118 rfl dX0_leaveTrap_1 (hG 20 (by decide) (by decide)) rfl rfl rfl ?_
  refine lv_iconst (v := 0) hx hb dX0_leaveTrap_4 (by decide) ?_
  refine w_ild C hw (c0 := 24) (i0 := i) dX0_leaveTrap_5 (hG 24 (by decide) (by decide)) rfl rfl (vpk (by decide)) (j := 0) (by decide) ?_
  refine w_istore_n hx hb dX0_leaveTrap_6 rfl hl (Nat.le_of_ble_eq_true rfl) (fun ls hl => ?_)
  refine lv_iload_n hx hb dX0_leaveTrap_7 rfl (hl.at rfl) ?_
  refine lv_iconst (v := 2) hx hb dX0_leaveTrap_8 (by decide) ?_
  refine lv_iand hx hb dX0_leaveTrap_9 ?_
  refine lv_if_eq (tgt := 17) hx hb dX0_leaveTrap_10 (by decide) (fun h10 => ?_) (fun h10 => ?_)
  · refine lv_iconst (v := 0) hx hb dX0_leaveTrap_17 (by decide) ?_
    refine w_istore_n hx hb dX0_leaveTrap_18 rfl hl (Nat.le_of_ble_eq_true rfl) (fun ls hl => ?_)
    refine lv_aload_n hx hb dX0_leaveTrap_19 rfl (hl.at rfl) ?_
    refine w_get C hw (c0 := 20) (i0 := i) rfl inA0 10 (by decide) mw118 rfl dX0_leaveTrap_20 (hG 20 (by decide) (by decide)) rfl rfl rfl ?_
    refine lv_iconst (v := 0) hx hb dX0_leaveTrap_23 (by decide) ?_
    refine lv_iload_n hx hb dX0_leaveTrap_24 rfl (hl.at rfl) ?_
    refine lv_sipush (v := 1792) hx hb dX0_leaveTrap_25 (by decide) ?_
    refine lv_iand hx hb dX0_leaveTrap_28 ?_
    refine lv_iconst (v := 2) hx hb dX0_leaveTrap_29 (by decide) ?_
    refine lv_ior hx hb dX0_leaveTrap_30 ?_
    refine lv_iload_n hx hb dX0_leaveTrap_31 rfl (hl.at rfl) ?_
    refine lv_ior hx hb dX0_leaveTrap_32 ?_
    refine w_ist C hw (c0 := 24) (i0 := i) dX0_leaveTrap_33 (hG 24 (by decide) (by decide)) rfl (fun _ => rfl) (vpk (by decide)) (j := 0) (by decide) (fun H locs hw => ?_)
    refine lv_aload_n hx hb dX0_leaveTrap_34 rfl (hl.at rfl) ?_
    refine lv_iload_n hx hb dX0_leaveTrap_35 rfl (hl.at rfl) ?_
    refine lv_iconst (v := 4) hx hb dX0_leaveTrap_36 (by decide) ?_
    refine lv_iand hx hb dX0_leaveTrap_37 ?_
    refine lv_if_eq (tgt := 45) hx hb dX0_leaveTrap_38 (by decide) (fun h38 => ?_) (fun h38 => ?_)
    · refine lv_iconst (v := 0) hx hb dX0_leaveTrap_45 (by decide) ?_
      refine w_put C hw (c0 := 20) (i0 := i) rfl inA0 tyX0_ok nmX0 3 (by decide) mw137 rfl rfl rfl dX0_leaveTrap_46 (hG 20 (by decide) (by decide)) rfl rfl rfl rfl (Nat.le_of_ble_eq_true rfl) rfl (fun H locs hw => ?_)
      exact w_vret C hw hr hlocks dX0_leaveTrap_49 ⟨rfl, rfl, rfl, rfl, by simp [*, upr_uu, upr_s, upr, upd], rfl⟩
    · refine lv_iconst (v := 1) hx hb dX0_leaveTrap_41 (by decide) ?_
      refine lv_goto (tgt := 46) hx hb dX0_leaveTrap_42 (by decide) ?_
      refine w_put C hw (c0 := 20) (i0 := i) rfl inA0 tyX0_ok nmX0 3 (by decide) mw137 rfl rfl rfl dX0_leaveTrap_46 (hG 20 (by decide) (by decide)) rfl rfl rfl rfl (Nat.le_of_ble_eq_true rfl) rfl (fun H locs hw => ?_)
      exact w_vret C hw hr hlocks dX0_leaveTrap_49 ⟨rfl, rfl, rfl, rfl, by simp [*, upr_uu, upr_s, upr, upd], rfl⟩
  · refine lv_iconst (v := 1) hx hb dX0_leaveTrap_13 (by decide) ?_
    refine lv_goto (tgt := 18) hx hb dX0_leaveTrap_14 (by decide) ?_
    refine w_istore_n hx hb dX0_leaveTrap_18 rfl hl (Nat.le_of_ble_eq_true rfl) (fun ls hl => ?_)
    refine lv_aload_n hx hb dX0_leaveTrap_19 rfl (hl.at rfl) ?_
    refine w_get C hw (c0 := 20) (i0 := i) rfl inA0 10 (by decide) mw118 rfl dX0_leaveTrap_20 (hG 20 (by decide) (by decide)) rfl rfl rfl ?_
    refine lv_iconst (v := 0) hx hb dX0_leaveTrap_23 (by decide) ?_
    refine lv_iload_n hx hb dX0_leaveTrap_24 rfl (hl.at rfl) ?_
    refine lv_sipush (v := 1792) hx hb dX0_leaveTrap_25 (by decide) ?_
    refine lv_iand hx hb dX0_leaveTrap_28 ?_
    refine lv_iconst (v := 2) hx hb dX0_leaveTrap_29 (by decide) ?_
    refine lv_ior hx hb dX0_leaveTrap_30 ?_
    refine lv_iload_n hx hb dX0_leaveTrap_31 rfl (hl.at rfl) ?_
    refine lv_ior hx hb dX0_leaveTrap_32 ?_
    refine w_ist C hw (c0 := 24) (i0 := i) dX0_leaveTrap_33 (hG 24 (by decide) (by decide)) rfl (fun _ => rfl) (vpk (by decide)) (j := 0) (by decide) (fun H locs hw => ?_)
    refine lv_aload_n hx hb dX0_leaveTrap_34 rfl (hl.at rfl) ?_
    refine lv_iload_n hx hb dX0_leaveTrap_35 rfl (hl.at rfl) ?_
    refine lv_iconst (v := 4) hx hb dX0_leaveTrap_36 (by decide) ?_
    refine lv_iand hx hb dX0_leaveTrap_37 ?_
    refine lv_if_eq (tgt := 45) hx hb dX0_leaveTrap_38 (by decide) (fun h38 => ?_) (fun h38 => ?_)
    · refine lv_iconst (v := 0) hx hb dX0_leaveTrap_45 (by decide) ?_
      refine w_put C hw (c0 := 20) (i0 := i) rfl inA0 tyX0_ok nmX0 3 (by decide) mw137 rfl rfl rfl dX0_leaveTrap_46 (hG 20 (by decide) (by decide)) rfl rfl rfl rfl (Nat.le_of_ble_eq_true rfl) rfl (fun H locs hw => ?_)
      exact w_vret C hw hr hlocks dX0_leaveTrap_49 ⟨rfl, rfl, rfl, rfl, by simp [*, upr_uu, upr_s, upr, upd], rfl⟩
    · refine lv_iconst (v := 1) hx hb dX0_leaveTrap_41 (by decide) ?_
      refine lv_goto (tgt := 46) hx hb dX0_leaveTrap_42 (by decide) ?_
      refine w_put C hw (c0 := 20) (i0 := i) rfl inA0 tyX0_ok nmX0 3 (by decide) mw137 rfl rfl rfl dX0_leaveTrap_46 (hG 20 (by decide) (by decide)) rfl rfl rfl rfl (Nat.le_of_ble_eq_true rfl) rfl (fun H locs hw => ?_)
      exact w_vret C hw hr hlocks dX0_leaveTrap_49 ⟨rfl, rfl, rfl, rfl, by simp [*, upr_uu, upr_s, upr, upd], rfl⟩

def fillR (n : Nat) (b : Int32) (f : Nat → Int32) : Nat → Int32 := fun k => if k < n then b else f k
def zReset (Z : ZT) (i : Nat) : ZT := upr (upr (upr (upr Z 23 i (fillR 8 0 (Z 23 i))) 24 i (upd (fillR 10 0 (Z 24 i)) 9 (Z 20 i 6))) 20 i (upd (upd (upd (upd (Z 20 i) 2 0) 3 0) 4 0) 5 0)) 25 i (fillR 256 (-1) (Z 25 i))
def zRen0 (Z : ZT) (i : Nat) (a : Int32) : ZT := upr Z 20 i (upd (upd (upd (Z 20 i) 0 1) 1 0) 6 a)
def zRen1 (Z : ZT) (i : Nat) : ZT := upr Z 22 i (fillR 1024 0 (Z 22 i))
def zRen2 (Z : ZT) (i : Nat) : ZT := upr Z 20 i (upd (upd (upd (Z 20 i) 13 0) 14 0) 16 0)
def zRenew (Z : ZT) (i : Nat) (a : Int32) : ZT := zRen2 (zRen1 (zReset (zRen0 Z i a) i) i) i

set_option maxHeartbeats 4000000 in
set_option maxRecDepth 100000 in
theorem c_X0_emptyCache (l : Launch) (sz0 : Nat) (D : va_G) (cs : Nat → ClassId) (X : Sh) (Z : ZT) (Y : va_W) (i : Nat) (hG : GI X i) : Ctr l yX0_emptyCache (wsM yX0_emptyCache cX0_emptyCache 1 none) ({ frames := 1, cells := 0, slots := 0, locals := 23 } : Room) sz0 D cs [.ref (X.1 20 i)] X Z Y (Pz X Y (fun Z' v => Z' = upr Z 25 i (fillR 256 (-1) (Z 25 i)) ∧ v = none)) := by
  refine Ctr.ofW (by decide +kernel) (by intro v hv; simp at hv; rcases hv with rfl <;> rfl) (Nat.le_of_ble_eq_true rfl) ?_
  intro p e s m below meth c ls C hr hlocks hname hl hN hw
  obtain ⟨hx, hb, hml, hown, hts⟩ := id C
  refine lv_aload_n hx hb dX0_emptyCache_0 rfl (hl.at rfl) ?_
  refine w_get C hw (c0 := 20) (i0 := i) rfl inA0 11 (by decide) mw119 rfl dX0_emptyCache_1 (hG 20 (by decide) (by decide)) rfl rfl rfl ?_
  refine lv_iconst (v := -1) hx hb dX0_emptyCache_4 (by decide) ?_
  refine w_callS C hN hw (c_fill l sz0 D cs X _ Y 25 i 256 (-1) (hG 25 (by decide) (by decide)) (fun _ => rfl) (by decide)) ⟨(Nat.le_of_ble_eq_true rfl), (Nat.le_of_ble_eq_true rfl), mw61, mw60, cy_J7_fill_53178⟩ mw140 mw59 rfl hl.1.1 rfl (Nat.le_of_ble_eq_true rfl) dX0_emptyCache_5 ⟨Nat.le_of_ble_eq_true rfl, Nat.le_of_ble_eq_true rfl⟩ (fun X' Z' Y' v k n H locs hp hw => ?_)
  obtain ⟨rfl, rfl, rfl, rfl, rfl, rfl⟩ := hp
  exact w_vret C hw hr hlocks dX0_emptyCache_8 ⟨rfl, rfl, rfl, rfl, rfl, rfl⟩

set_option maxHeartbeats 4000000 in
set_option maxRecDepth 100000 in
theorem c_X0_reset (l : Launch) (sz0 : Nat) (D : va_G) (cs : Nat → ClassId) (X : Sh) (Z : ZT) (Y : va_W) (i : Nat) (hG : GI X i) : Ctr l yX0_reset (wsM yX0_reset cX0_reset 1 none) ({ frames := 2, cells := 0, slots := 0, locals := 43 } : Room) sz0 D cs [.ref (X.1 20 i)] X Z Y (Pz X Y (fun Z' v => Z' = zReset Z i ∧ v = none)) := by
  refine Ctr.ofW (by decide +kernel) (by intro v hv; simp at hv; rcases hv with rfl <;> rfl) (Nat.le_of_ble_eq_true rfl) ?_
  intro p e s m below meth c ls C hr hlocks hname hl hN hw
  obtain ⟨hx, hb, hml, hown, hts⟩ := id C
  refine lv_aload_n hx hb dX0_reset_0 rfl (hl.at rfl) ?_
  refine w_get C hw (c0 := 20) (i0 := i) rfl inA0 9 (by decide) mw117 rfl dX0_reset_1 (hG 20 (by decide) (by decide)) rfl rfl rfl ?_
  refine lv_iconst (v := 0) hx hb dX0_reset_4 (by decide) ?_
  refine w_callS C hN hw (c_fill l sz0 D cs X _ Y 23 i 8 0 (hG 23 (by decide) (by decide)) (fun _ => rfl) (by decide)) ⟨(Nat.le_of_ble_eq_true rfl), (Nat.le_of_ble_eq_true rfl), mw61, mw60, cy_J7_fill_53178⟩ mw140 mw59 rfl hl.1.1 rfl (Nat.le_of_ble_eq_true rfl) dX0_reset_5 ⟨Nat.le_of_ble_eq_true rfl, Nat.le_of_ble_eq_true rfl⟩ (fun X' Z' Y' v k n H locs hp hw => ?_)
  obtain ⟨rfl, rfl, rfl, rfl, rfl, rfl⟩ := hp
  refine lv_aload_n hx hb dX0_reset_8 rfl (hl.at rfl) ?_
  refine w_get C hw (c0 := 20) (i0 := i) rfl inA0 10 (by decide) mw118 rfl dX0_reset_9 (hG 20 (by decide) (by decide)) rfl rfl rfl ?_
  refine lv_iconst (v := 0) hx hb dX0_reset_12 (by decide) ?_
  refine w_callS C hN hw (c_fill l sz0 D cs X _ Y 24 i 10 0 (hG 24 (by decide) (by decide)) (fun _ => rfl) (by decide)) ⟨(Nat.le_of_ble_eq_true rfl), (Nat.le_of_ble_eq_true rfl), mw61, mw60, cy_J7_fill_53178⟩ mw140 mw59 rfl hl.1.1 rfl (Nat.le_of_ble_eq_true rfl) dX0_reset_13 ⟨Nat.le_of_ble_eq_true rfl, Nat.le_of_ble_eq_true rfl⟩ (fun X' Z' Y' v k n H locs hp hw => ?_)
  obtain ⟨rfl, rfl, rfl, rfl, rfl, rfl⟩ := hp
  refine lv_aload_n hx hb dX0_reset_16 rfl (hl.at rfl) ?_
  refine w_get C hw (c0 := 20) (i0 := i) rfl inA0 10 (by decide) mw118 rfl dX0_reset_17 (hG 20 (by decide) (by decide)) rfl rfl rfl ?_
  refine lv_bipush (v := 9) hx hb dX0_reset_20 (by decide) ?_
  refine lv_aload_n hx hb dX0_reset_22 rfl (hl.at rfl) ?_
  refine w_get C hw (c0 := 20) (i0 := i) rfl inA0 6 (by decide) mw128 rfl dX0_reset_23 (hG 20 (by decide) (by decide)) rfl rfl rfl ?_
  refine w_ist C hw (c0 := 24) (i0 := i) dX0_reset_26 (hG 24 (by decide) (by decide)) rfl (fun _ => rfl) (vpk (by decide)) (j := 9) (by decide) (fun H locs hw => ?_)
  refine lv_aload_n hx hb dX0_reset_27 rfl (hl.at rfl) ?_
  refine lv_iconst (v := 0) hx hb dX0_reset_28 (by decide) ?_
  refine w_put C hw (c0 := 20) (i0 := i) rfl inA0 tyX0_ok nmX0 2 (by decide) mw136 rfl rfl rfl dX0_reset_29 (hG 20 (by decide) (by decide)) rfl rfl rfl rfl (Nat.le_of_ble_eq_true rfl) rfl (fun H locs hw => ?_)
  refine lv_aload_n hx hb dX0_reset_32 rfl (hl.at rfl) ?_
  refine lv_iconst (v := 0) hx hb dX0_reset_33 (by decide) ?_
  refine w_put C hw (c0 := 20) (i0 := i) rfl inA0 tyX0_ok nmX0 3 (by decide) mw137 rfl rfl rfl dX0_reset_34 (hG 20 (by decide) (by decide)) rfl rfl rfl rfl (Nat.le_of_ble_eq_true rfl) rfl (fun H locs hw => ?_)
  refine lv_aload_n hx hb dX0_reset_37 rfl (hl.at rfl) ?_
  refine lv_iconst (v := 0) hx hb dX0_reset_38 (by decide) ?_
  refine w_put C hw (c0 := 20) (i0 := i) rfl inA0 tyX0_ok nmX0 4 (by decide) mw138 rfl rfl rfl dX0_reset_39 (hG 20 (by decide) (by decide)) rfl rfl rfl rfl (Nat.le_of_ble_eq_true rfl) rfl (fun H locs hw => ?_)
  refine lv_aload_n hx hb dX0_reset_42 rfl (hl.at rfl) ?_
  refine lv_iconst (v := 0) hx hb dX0_reset_43 (by decide) ?_
  refine w_put C hw (c0 := 20) (i0 := i) rfl inA0 tyX0_ok nmX0 5 (by decide) mw139 rfl rfl rfl dX0_reset_44 (hG 20 (by decide) (by decide)) rfl rfl rfl rfl (Nat.le_of_ble_eq_true rfl) rfl (fun H locs hw => ?_)
  refine lv_aload_n hx hb dX0_reset_47 rfl (hl.at rfl) ?_
  refine w_callV C hN hw (c_X0_emptyCache l sz0 D cs X _ Y i hG) ⟨(Nat.le_of_ble_eq_true rfl), (Nat.le_of_ble_eq_true rfl), mw144, mw111, cy_X0_emptyCache⟩ mw141 mw142 mw143 (w_rec hw (c0 := 20) (i0 := i) (hG 20 (by decide) (by decide)) rfl rfl) rfl hl.1.1 rfl (Nat.le_of_ble_eq_true rfl) dX0_reset_48 ⟨Nat.le_of_ble_eq_true rfl, Nat.le_of_ble_eq_true rfl⟩ (fun X' Z' Y' v k n H locs hp hw => ?_)
  obtain ⟨rfl, rfl, rfl, rfl, rfl, rfl⟩ := hp
  exact w_vret C hw hr hlocks dX0_reset_51 ⟨rfl, rfl, rfl, rfl, by simp [zReset, upr_uu, upr_s, upr, upd]; rfl, rfl⟩

set_option maxHeartbeats 4000000 in
set_option maxRecDepth 100000 in
theorem c_X0_renew (l : Launch) (sz0 : Nat) (D : va_G) (cs : Nat → ClassId) (X : Sh) (Z : ZT) (Y : va_W) (i : Nat) (hG : GI X i) (a : Int32) : Ctr l yX0_renew (wsM yX0_renew cX0_renew 2 none) ({ frames := 3, cells := 0, slots := 0, locals := 63 } : Room) sz0 D cs [.ref (X.1 20 i), .int a] X Z Y (Pz X Y (fun Z' v => Z' = zRenew Z i a ∧ v = none)) := by
  refine Ctr.ofW (by decide +kernel) (by intro v hv; simp at hv; rcases hv with rfl | rfl <;> rfl) (Nat.le_of_ble_eq_true rfl) ?_
  intro p e s m below meth c ls C hr hlocks hname hl hN hw
  obtain ⟨hx, hb, hml, hown, hts⟩ := id C
  refine lv_aload_n hx hb dX0_renew_0 rfl (hl.at rfl) ?_
  refine lv_iconst (v := 1) hx hb dX0_renew_1 (by decide) ?_
  refine w_put C hw (c0 := 20) (i0 := i) rfl inA0 tyX0_ok nmX0 0 (by decide) mw126 rfl rfl rfl dX0_renew_2 (hG 20 (by decide) (by decide)) rfl (by decide) (by decide) rfl (Nat.le_of_ble_eq_true rfl) rfl (fun H locs hw => ?_)
  refine lv_aload_n hx hb dX0_renew_5 rfl (hl.at rfl) ?_
  refine lv_iconst (v := 0) hx hb dX0_renew_6 (by decide) ?_
  refine w_put C hw (c0 := 20) (i0 := i) rfl inA0 tyX0_ok nmX0 1 (by decide) mw127 rfl rfl rfl dX0_renew_7 (hG 20 (by decide) (by decide)) rfl rfl rfl rfl (Nat.le_of_ble_eq_true rfl) rfl (fun H locs hw => ?_)
  refine lv_aload_n hx hb dX0_renew_10 rfl (hl.at rfl) ?_
  refine lv_iload_n hx hb dX0_renew_11 rfl (hl.at rfl) ?_
  refine w_put C hw (c0 := 20) (i0 := i) rfl inA0 tyX0_ok nmX0 6 (by decide) mw128 rfl rfl rfl dX0_renew_12 (hG 20 (by decide) (by decide)) rfl rfl rfl rfl (Nat.le_of_ble_eq_true rfl) rfl (fun H locs hw => ?_)
  refine lv_aload_n hx hb dX0_renew_15 rfl (hl.at rfl) ?_
  have hZ0 : Wd sz0 D cs s X (zRen0 Z i a) Y H locs := by
    simp only [upr_uu, upr_s] at hw
    exact hw
  clear hw
  have hw := hZ0
  clear hZ0
  refine w_callV C hN hw (c_X0_reset l sz0 D cs X _ Y i hG) ⟨(Nat.le_of_ble_eq_true rfl), (Nat.le_of_ble_eq_true rfl), mw135, mw111, cy_X0_reset⟩ mw132 mw133 mw134 (w_rec hw (c0 := 20) (i0 := i) (hG 20 (by decide) (by decide)) rfl rfl) rfl hl.1.1 rfl (Nat.le_of_ble_eq_true rfl) dX0_renew_16 ⟨Nat.le_of_ble_eq_true rfl, Nat.le_of_ble_eq_true rfl⟩ (fun X' Z' Y' v k n H locs hp hw => ?_)
  obtain ⟨rfl, rfl, rfl, rfl, rfl, rfl⟩ := hp
  refine lv_aload_n hx hb dX0_renew_19 rfl (hl.at rfl) ?_
  refine w_get C hw (c0 := 20) (i0 := i) rfl inA0 8 (by decide) mw116 rfl dX0_renew_20 (hG 20 (by decide) (by decide)) rfl rfl rfl ?_
  refine lv_iconst (v := 0) hx hb dX0_renew_23 (by decide) ?_
  refine w_callS C hN hw (c_fill l sz0 D cs X _ Y 22 i 1024 0 (hG 22 (by decide) (by decide)) (fun _ => rfl) (by decide)) ⟨(Nat.le_of_ble_eq_true rfl), (Nat.le_of_ble_eq_true rfl), mw61, mw60, cy_J7_fill_53178⟩ mw140 mw59 rfl hl.1.1 rfl (Nat.le_of_ble_eq_true rfl) dX0_renew_24 ⟨Nat.le_of_ble_eq_true rfl, Nat.le_of_ble_eq_true rfl⟩ (fun X' Z' Y' v k n H locs hp hw => ?_)
  obtain ⟨rfl, rfl, rfl, rfl, rfl, rfl⟩ := hp
  refine lv_aload_n hx hb dX0_renew_27 rfl (hl.at rfl) ?_
  refine lv_iconst (v := 0) hx hb dX0_renew_28 (by decide) ?_
  refine w_put C hw (c0 := 20) (i0 := i) rfl inA0 tyX0_ok nmX0 13 (by decide) mw129 rfl rfl rfl dX0_renew_29 (hG 20 (by decide) (by decide)) rfl rfl rfl rfl (Nat.le_of_ble_eq_true rfl) rfl (fun H locs hw => ?_)
  refine lv_aload_n hx hb dX0_renew_32 rfl (hl.at rfl) ?_
  refine lv_iconst (v := 0) hx hb dX0_renew_33 (by decide) ?_
  refine w_put C hw (c0 := 20) (i0 := i) rfl inA0 tyX0_ok nmX0 14 (by decide) mw130 rfl rfl rfl dX0_renew_34 (hG 20 (by decide) (by decide)) rfl rfl rfl rfl (Nat.le_of_ble_eq_true rfl) rfl (fun H locs hw => ?_)
  refine lv_aload_n hx hb dX0_renew_37 rfl (hl.at rfl) ?_
  refine lv_iconst (v := 0) hx hb dX0_renew_38 (by decide) ?_
  refine w_put C hw (c0 := 20) (i0 := i) rfl inA0 tyX0_ok nmX0 16 (by decide) mw131 rfl rfl rfl dX0_renew_39 (hG 20 (by decide) (by decide)) rfl rfl rfl rfl (Nat.le_of_ble_eq_true rfl) rfl (fun H locs hw => ?_)
  exact w_vret C hw hr hlocks dX0_renew_42 ⟨rfl, rfl, rfl, rfl, by simp only [upr_uu, upr_s]; rfl, rfl⟩

set_option maxHeartbeats 4000000 in
set_option maxRecDepth 100000 in
theorem c_X0_keptCount (l : Launch) (sz0 : Nat) (D : va_G) (cs : Nat → ClassId) (X : Sh) (Z : ZT) (Y : va_W) (i : Nat) (hG : GI X i) : Ctr l yX0_keptCount (wsM yX0_keptCount cX0_keptCount 1 (some .int)) ({ frames := 1, cells := 0, slots := 0, locals := 21 } : Room) sz0 D cs [.ref (X.1 20 i)] X Z Y (Pz X Y (fun Z' v => Z = Z' ∧ v = some (.int (if (1000 : Int32) < Z 20 i 16 then 1000 else Z 20 i 16)))) := by
  refine Ctr.ofW (by decide +kernel) (by intro v hv; simp at hv; rcases hv with rfl <;> rfl) (Nat.le_of_ble_eq_true rfl) ?_
  intro p e s m below meth c ls C hr hlocks hname hl hN hw
  obtain ⟨hx, hb, hml, hown, hts⟩ := id C
  refine lv_aload_n hx hb dX0_keptCount_0 rfl (hl.at rfl) ?_
  refine w_get C hw (c0 := 20) (i0 := i) rfl inA0 16 (by decide) mw131 rfl dX0_keptCount_1 (hG 20 (by decide) (by decide)) rfl rfl rfl ?_
  refine lv_sipush (v := 1000) hx hb dX0_keptCount_4 (by decide) ?_
  refine va_mmin hx hb (hml.trans hl.1.1.symm) hown (hts _ mw571) (hts _ mw217) (hts _ mw218) (hts _ mw219) (Nat.le_of_ble_eq_true rfl) (Nat.le_of_ble_eq_true rfl) (Nat.zero_le _) (Nat.zero_le _) dX0_keptCount_7 ?_
  exact w_iret C hw hr hlocks dX0_keptCount_10 ⟨rfl, rfl, rfl, rfl, rfl, rfl⟩

def tellv (Z : ZT) (i : Nat) (a : Int32) : Int32 :=
  if ¬ a < 0 ∧ ¬ 8 ≤ a then Z 23 i a.toNatClampNeg
  else if ¬ a < 10 ∧ ¬ 20 ≤ a then Z 24 i (a - 10).toNatClampNeg
  else if a = 8 then Z 20 i 2 else if a = 9 then Z 20 i 3 else if a = 20 then Z 20 i 14 else if a = 21 then Z 20 i 16 else if a = 22 then Z 20 i 4 else if a = 23 then Z 20 i 5 else 0
theorem tell_ix {a : Int32} (h : ¬ a < 10) (h2 : ¬ 20 ≤ a) : vp_in (a - 10) 10 := by
  rw [vp_in_iff]
  rw [Int32.lt_iff_toInt_lt] at h
  rw [Int32.le_iff_toInt_le] at h2
  have e1 : (10 : Int32).toInt = 10 := by decide
  have e2 : (20 : Int32).toInt = 20 := by decide
  rw [Int32.toInt_sub, e1]
  rw [e1] at h
  rw [e2] at h2
  rw [Int.bmod_eq_of_le (by omega) (by omega)]
  omega

set_option maxHeartbeats 4000000 in
set_option maxRecDepth 100000 in
theorem c_X0_tell (l : Launch) (sz0 : Nat) (D : va_G) (cs : Nat → ClassId) (X : Sh) (Z : ZT) (Y : va_W) (i : Nat) (hG : GI X i) (a : Int32) : Ctr l yX0_tell (wsM yX0_tell cX0_tell 2 (some .int)) ({ frames := 0, cells := 0, slots := 0, locals := 0 } : Room) sz0 D cs [.ref (X.1 20 i), .int a] X Z Y (Pz X Y (fun Z' v => Z = Z' ∧ v = some (.int (tellv Z i a)))) := by
  refine Ctr.ofW (by decide +kernel) (by intro v hv; simp at hv; rcases hv with rfl | rfl <;> rfl) (Nat.le_of_ble_eq_true rfl) ?_
  intro p e s m below meth c ls C hr hlocks hname hl hN hw
  obtain ⟨hx, hb, hml, hown, hts⟩ := id C
  refine lv_iload_n hx hb dX0_tell_0 rfl (hl.at rfl) ?_
  refine lv_if_lt (tgt := 17) hx hb dX0_tell_1 (by decide) (fun h1 => ?_) (fun h1 => ?_)
  · refine lv_iload_n hx hb dX0_tell_17 rfl (hl.at rfl) ?_
    refine lv_bipush (v := 10) hx hb dX0_tell_18 (by decide) ?_
    refine lv_icmp_lt (tgt := 39) hx hb dX0_tell_20 (by decide) (fun h20 => ?_) (fun h20 => ?_)
    · refine lv_iload_n hx hb dX0_tell_39 rfl (hl.at rfl) ?_
      refine lv_topi (fun x40 e40 => ?_)
      by_cases q40_8 : x40 = 8
      · subst q40_8
        refine lv_tableIn (off := 80) (tgt := 120) hx hb dX0_tell_40 (by decide) (by decide) (by decide) (by decide) ?_
        refine lv_aload_n hx hb dX0_tell_120 rfl (hl.at rfl) ?_
        refine w_get C hw (c0 := 20) (i0 := i) rfl inA0 2 (by decide) mw136 rfl dX0_tell_121 (hG 20 (by decide) (by decide)) rfl rfl rfl ?_
        exact w_iret C hw hr hlocks dX0_tell_124 ⟨rfl, rfl, rfl, rfl, rfl, by subst e40; simp_all [tellv]⟩
      by_cases q40_9 : x40 = 9
      · subst q40_9
        refine lv_tableIn (off := 85) (tgt := 125) hx hb dX0_tell_40 (by decide) (by decide) (by decide) (by decide) ?_
        refine lv_aload_n hx hb dX0_tell_125 rfl (hl.at rfl) ?_
        refine w_get C hw (c0 := 20) (i0 := i) rfl inA0 3 (by decide) mw137 rfl dX0_tell_126 (hG 20 (by decide) (by decide)) rfl rfl rfl ?_
        exact w_iret C hw hr hlocks dX0_tell_129 ⟨rfl, rfl, rfl, rfl, rfl, by subst e40; simp_all [tellv]⟩
      by_cases q40_10 : x40 = 10
      · subst q40_10
        refine lv_tableIn (off := 110) (tgt := 150) hx hb dX0_tell_40 (by decide) (by decide) (by decide) (by decide) ?_
        refine lv_iconst (v := 0) hx hb dX0_tell_150 (by decide) ?_
        exact w_iret C hw hr hlocks dX0_tell_151 ⟨rfl, rfl, rfl, rfl, rfl, by subst e40; simp_all [tellv]⟩
      by_cases q40_11 : x40 = 11
      · subst q40_11
        refine lv_tableIn (off := 110) (tgt := 150) hx hb dX0_tell_40 (by decide) (by decide) (by decide) (by decide) ?_
        refine lv_iconst (v := 0) hx hb dX0_tell_150 (by decide) ?_
        exact w_iret C hw hr hlocks dX0_tell_151 ⟨rfl, rfl, rfl, rfl, rfl, by subst e40; simp_all [tellv]⟩
      by_cases q40_12 : x40 = 12
      · subst q40_12
        refine lv_tableIn (off := 110) (tgt := 150) hx hb dX0_tell_40 (by decide) (by decide) (by decide) (by decide) ?_
        refine lv_iconst (v := 0) hx hb dX0_tell_150 (by decide) ?_
        exact w_iret C hw hr hlocks dX0_tell_151 ⟨rfl, rfl, rfl, rfl, rfl, by subst e40; simp_all [tellv]⟩
      by_cases q40_13 : x40 = 13
      · subst q40_13
        refine lv_tableIn (off := 110) (tgt := 150) hx hb dX0_tell_40 (by decide) (by decide) (by decide) (by decide) ?_
        refine lv_iconst (v := 0) hx hb dX0_tell_150 (by decide) ?_
        exact w_iret C hw hr hlocks dX0_tell_151 ⟨rfl, rfl, rfl, rfl, rfl, by subst e40; simp_all [tellv]⟩
      by_cases q40_14 : x40 = 14
      · subst q40_14
        refine lv_tableIn (off := 110) (tgt := 150) hx hb dX0_tell_40 (by decide) (by decide) (by decide) (by decide) ?_
        refine lv_iconst (v := 0) hx hb dX0_tell_150 (by decide) ?_
        exact w_iret C hw hr hlocks dX0_tell_151 ⟨rfl, rfl, rfl, rfl, rfl, by subst e40; simp_all [tellv]⟩
      by_cases q40_15 : x40 = 15
      · subst q40_15
        refine lv_tableIn (off := 110) (tgt := 150) hx hb dX0_tell_40 (by decide) (by decide) (by decide) (by decide) ?_
        refine lv_iconst (v := 0) hx hb dX0_tell_150 (by decide) ?_
        exact w_iret C hw hr hlocks dX0_tell_151 ⟨rfl, rfl, rfl, rfl, rfl, by subst e40; simp_all [tellv]⟩
      by_cases q40_16 : x40 = 16
      · subst q40_16
        refine lv_tableIn (off := 110) (tgt := 150) hx hb dX0_tell_40 (by decide) (by decide) (by decide) (by decide) ?_
        refine lv_iconst (v := 0) hx hb dX0_tell_150 (by decide) ?_
        exact w_iret C hw hr hlocks dX0_tell_151 ⟨rfl, rfl, rfl, rfl, rfl, by subst e40; simp_all [tellv]⟩
      by_cases q40_17 : x40 = 17
      · subst q40_17
        refine lv_tableIn (off := 110) (tgt := 150) hx hb dX0_tell_40 (by decide) (by decide) (by decide) (by decide) ?_
        refine lv_iconst (v := 0) hx hb dX0_tell_150 (by decide) ?_
        exact w_iret C hw hr hlocks dX0_tell_151 ⟨rfl, rfl, rfl, rfl, rfl, by subst e40; simp_all [tellv]⟩
      by_cases q40_18 : x40 = 18
      · subst q40_18
        refine lv_tableIn (off := 110) (tgt := 150) hx hb dX0_tell_40 (by decide) (by decide) (by decide) (by decide) ?_
        refine lv_iconst (v := 0) hx hb dX0_tell_150 (by decide) ?_
        exact w_iret C hw hr hlocks dX0_tell_151 ⟨rfl, rfl, rfl, rfl, rfl, by subst e40; simp_all [tellv]⟩
      by_cases q40_19 : x40 = 19
      · subst q40_19
        refine lv_tableIn (off := 110) (tgt := 150) hx hb dX0_tell_40 (by decide) (by decide) (by decide) (by decide) ?_
        refine lv_iconst (v := 0) hx hb dX0_tell_150 (by decide) ?_
        exact w_iret C hw hr hlocks dX0_tell_151 ⟨rfl, rfl, rfl, rfl, rfl, by subst e40; simp_all [tellv]⟩
      by_cases q40_20 : x40 = 20
      · subst q40_20
        refine lv_tableIn (off := 90) (tgt := 130) hx hb dX0_tell_40 (by decide) (by decide) (by decide) (by decide) ?_
        refine lv_aload_n hx hb dX0_tell_130 rfl (hl.at rfl) ?_
        refine w_get C hw (c0 := 20) (i0 := i) rfl inA0 14 (by decide) mw130 rfl dX0_tell_131 (hG 20 (by decide) (by decide)) rfl rfl rfl ?_
        exact w_iret C hw hr hlocks dX0_tell_134 ⟨rfl, rfl, rfl, rfl, rfl, by subst e40; simp_all [tellv]⟩
      by_cases q40_21 : x40 = 21
      · subst q40_21
        refine lv_tableIn (off := 95) (tgt := 135) hx hb dX0_tell_40 (by decide) (by decide) (by decide) (by decide) ?_
        refine lv_aload_n hx hb dX0_tell_135 rfl (hl.at rfl) ?_
        refine w_get C hw (c0 := 20) (i0 := i) rfl inA0 16 (by decide) mw131 rfl dX0_tell_136 (hG 20 (by decide) (by decide)) rfl rfl rfl ?_
        exact w_iret C hw hr hlocks dX0_tell_139 ⟨rfl, rfl, rfl, rfl, rfl, by subst e40; simp_all [tellv]⟩
      by_cases q40_22 : x40 = 22
      · subst q40_22
        refine lv_tableIn (off := 100) (tgt := 140) hx hb dX0_tell_40 (by decide) (by decide) (by decide) (by decide) ?_
        refine lv_aload_n hx hb dX0_tell_140 rfl (hl.at rfl) ?_
        refine w_get C hw (c0 := 20) (i0 := i) rfl inA0 4 (by decide) mw138 rfl dX0_tell_141 (hG 20 (by decide) (by decide)) rfl rfl rfl ?_
        exact w_iret C hw hr hlocks dX0_tell_144 ⟨rfl, rfl, rfl, rfl, rfl, by subst e40; simp_all [tellv]⟩
      by_cases q40_23 : x40 = 23
      · subst q40_23
        refine lv_tableIn (off := 105) (tgt := 145) hx hb dX0_tell_40 (by decide) (by decide) (by decide) (by decide) ?_
        refine lv_aload_n hx hb dX0_tell_145 rfl (hl.at rfl) ?_
        refine w_get C hw (c0 := 20) (i0 := i) rfl inA0 5 (by decide) mw139 rfl dX0_tell_146 (hG 20 (by decide) (by decide)) rfl rfl rfl ?_
        exact w_iret C hw hr hlocks dX0_tell_149 ⟨rfl, rfl, rfl, rfl, rfl, by subst e40; simp_all [tellv]⟩
      refine lv_tableOut (tgt := 150) hx hb dX0_tell_40 (by have := lv_neT q40_8 (by decide : (8 : Int32).toInt = 8); have := lv_neT q40_9 (by decide : (9 : Int32).toInt = 9); have := lv_neT q40_10 (by decide : (10 : Int32).toInt = 10); have := lv_neT q40_11 (by decide : (11 : Int32).toInt = 11); have := lv_neT q40_12 (by decide : (12 : Int32).toInt = 12); have := lv_neT q40_13 (by decide : (13 : Int32).toInt = 13); have := lv_neT q40_14 (by decide : (14 : Int32).toInt = 14); have := lv_neT q40_15 (by decide : (15 : Int32).toInt = 15); have := lv_neT q40_16 (by decide : (16 : Int32).toInt = 16); have := lv_neT q40_17 (by decide : (17 : Int32).toInt = 17); have := lv_neT q40_18 (by decide : (18 : Int32).toInt = 18); have := lv_neT q40_19 (by decide : (19 : Int32).toInt = 19); have := lv_neT q40_20 (by decide : (20 : Int32).toInt = 20); have := lv_neT q40_21 (by decide : (21 : Int32).toInt = 21); have := lv_neT q40_22 (by decide : (22 : Int32).toInt = 22); have := lv_neT q40_23 (by decide : (23 : Int32).toInt = 23); omega) (by decide) ?_
      refine lv_iconst (v := 0) hx hb dX0_tell_150 (by decide) ?_
      exact w_iret C hw hr hlocks dX0_tell_151 ⟨rfl, rfl, rfl, rfl, rfl, by subst e40; simp_all [tellv]⟩
    · refine lv_iload_n hx hb dX0_tell_23 rfl (hl.at rfl) ?_
      refine lv_bipush (v := 20) hx hb dX0_tell_24 (by decide) ?_
      refine lv_icmp_ge (tgt := 39) hx hb dX0_tell_26 (by decide) (fun h26 => ?_) (fun h26 => ?_)
      · refine lv_iload_n hx hb dX0_tell_39 rfl (hl.at rfl) ?_
        refine lv_topi (fun x40 e40 => ?_)
        by_cases q40_8 : x40 = 8
        · subst q40_8
          refine lv_tableIn (off := 80) (tgt := 120) hx hb dX0_tell_40 (by decide) (by decide) (by decide) (by decide) ?_
          refine lv_aload_n hx hb dX0_tell_120 rfl (hl.at rfl) ?_
          refine w_get C hw (c0 := 20) (i0 := i) rfl inA0 2 (by decide) mw136 rfl dX0_tell_121 (hG 20 (by decide) (by decide)) rfl rfl rfl ?_
          exact w_iret C hw hr hlocks dX0_tell_124 ⟨rfl, rfl, rfl, rfl, rfl, by subst e40; simp_all [tellv]⟩
        by_cases q40_9 : x40 = 9
        · subst q40_9
          refine lv_tableIn (off := 85) (tgt := 125) hx hb dX0_tell_40 (by decide) (by decide) (by decide) (by decide) ?_
          refine lv_aload_n hx hb dX0_tell_125 rfl (hl.at rfl) ?_
          refine w_get C hw (c0 := 20) (i0 := i) rfl inA0 3 (by decide) mw137 rfl dX0_tell_126 (hG 20 (by decide) (by decide)) rfl rfl rfl ?_
          exact w_iret C hw hr hlocks dX0_tell_129 ⟨rfl, rfl, rfl, rfl, rfl, by subst e40; simp_all [tellv]⟩
        by_cases q40_10 : x40 = 10
        · subst q40_10
          refine lv_tableIn (off := 110) (tgt := 150) hx hb dX0_tell_40 (by decide) (by decide) (by decide) (by decide) ?_
          refine lv_iconst (v := 0) hx hb dX0_tell_150 (by decide) ?_
          exact w_iret C hw hr hlocks dX0_tell_151 ⟨rfl, rfl, rfl, rfl, rfl, by subst e40; simp_all [tellv]⟩
        by_cases q40_11 : x40 = 11
        · subst q40_11
          refine lv_tableIn (off := 110) (tgt := 150) hx hb dX0_tell_40 (by decide) (by decide) (by decide) (by decide) ?_
          refine lv_iconst (v := 0) hx hb dX0_tell_150 (by decide) ?_
          exact w_iret C hw hr hlocks dX0_tell_151 ⟨rfl, rfl, rfl, rfl, rfl, by subst e40; simp_all [tellv]⟩
        by_cases q40_12 : x40 = 12
        · subst q40_12
          refine lv_tableIn (off := 110) (tgt := 150) hx hb dX0_tell_40 (by decide) (by decide) (by decide) (by decide) ?_
          refine lv_iconst (v := 0) hx hb dX0_tell_150 (by decide) ?_
          exact w_iret C hw hr hlocks dX0_tell_151 ⟨rfl, rfl, rfl, rfl, rfl, by subst e40; simp_all [tellv]⟩
        by_cases q40_13 : x40 = 13
        · subst q40_13
          refine lv_tableIn (off := 110) (tgt := 150) hx hb dX0_tell_40 (by decide) (by decide) (by decide) (by decide) ?_
          refine lv_iconst (v := 0) hx hb dX0_tell_150 (by decide) ?_
          exact w_iret C hw hr hlocks dX0_tell_151 ⟨rfl, rfl, rfl, rfl, rfl, by subst e40; simp_all [tellv]⟩
        by_cases q40_14 : x40 = 14
        · subst q40_14
          refine lv_tableIn (off := 110) (tgt := 150) hx hb dX0_tell_40 (by decide) (by decide) (by decide) (by decide) ?_
          refine lv_iconst (v := 0) hx hb dX0_tell_150 (by decide) ?_
          exact w_iret C hw hr hlocks dX0_tell_151 ⟨rfl, rfl, rfl, rfl, rfl, by subst e40; simp_all [tellv]⟩
        by_cases q40_15 : x40 = 15
        · subst q40_15
          refine lv_tableIn (off := 110) (tgt := 150) hx hb dX0_tell_40 (by decide) (by decide) (by decide) (by decide) ?_
          refine lv_iconst (v := 0) hx hb dX0_tell_150 (by decide) ?_
          exact w_iret C hw hr hlocks dX0_tell_151 ⟨rfl, rfl, rfl, rfl, rfl, by subst e40; simp_all [tellv]⟩
        by_cases q40_16 : x40 = 16
        · subst q40_16
          refine lv_tableIn (off := 110) (tgt := 150) hx hb dX0_tell_40 (by decide) (by decide) (by decide) (by decide) ?_
          refine lv_iconst (v := 0) hx hb dX0_tell_150 (by decide) ?_
          exact w_iret C hw hr hlocks dX0_tell_151 ⟨rfl, rfl, rfl, rfl, rfl, by subst e40; simp_all [tellv]⟩
        by_cases q40_17 : x40 = 17
        · subst q40_17
          refine lv_tableIn (off := 110) (tgt := 150) hx hb dX0_tell_40 (by decide) (by decide) (by decide) (by decide) ?_
          refine lv_iconst (v := 0) hx hb dX0_tell_150 (by decide) ?_
          exact w_iret C hw hr hlocks dX0_tell_151 ⟨rfl, rfl, rfl, rfl, rfl, by subst e40; simp_all [tellv]⟩
        by_cases q40_18 : x40 = 18
        · subst q40_18
          refine lv_tableIn (off := 110) (tgt := 150) hx hb dX0_tell_40 (by decide) (by decide) (by decide) (by decide) ?_
          refine lv_iconst (v := 0) hx hb dX0_tell_150 (by decide) ?_
          exact w_iret C hw hr hlocks dX0_tell_151 ⟨rfl, rfl, rfl, rfl, rfl, by subst e40; simp_all [tellv]⟩
        by_cases q40_19 : x40 = 19
        · subst q40_19
          refine lv_tableIn (off := 110) (tgt := 150) hx hb dX0_tell_40 (by decide) (by decide) (by decide) (by decide) ?_
          refine lv_iconst (v := 0) hx hb dX0_tell_150 (by decide) ?_
          exact w_iret C hw hr hlocks dX0_tell_151 ⟨rfl, rfl, rfl, rfl, rfl, by subst e40; simp_all [tellv]⟩
        by_cases q40_20 : x40 = 20
        · subst q40_20
          refine lv_tableIn (off := 90) (tgt := 130) hx hb dX0_tell_40 (by decide) (by decide) (by decide) (by decide) ?_
          refine lv_aload_n hx hb dX0_tell_130 rfl (hl.at rfl) ?_
          refine w_get C hw (c0 := 20) (i0 := i) rfl inA0 14 (by decide) mw130 rfl dX0_tell_131 (hG 20 (by decide) (by decide)) rfl rfl rfl ?_
          exact w_iret C hw hr hlocks dX0_tell_134 ⟨rfl, rfl, rfl, rfl, rfl, by subst e40; simp_all [tellv]⟩
        by_cases q40_21 : x40 = 21
        · subst q40_21
          refine lv_tableIn (off := 95) (tgt := 135) hx hb dX0_tell_40 (by decide) (by decide) (by decide) (by decide) ?_
          refine lv_aload_n hx hb dX0_tell_135 rfl (hl.at rfl) ?_
          refine w_get C hw (c0 := 20) (i0 := i) rfl inA0 16 (by decide) mw131 rfl dX0_tell_136 (hG 20 (by decide) (by decide)) rfl rfl rfl ?_
          exact w_iret C hw hr hlocks dX0_tell_139 ⟨rfl, rfl, rfl, rfl, rfl, by subst e40; simp_all [tellv]⟩
        by_cases q40_22 : x40 = 22
        · subst q40_22
          refine lv_tableIn (off := 100) (tgt := 140) hx hb dX0_tell_40 (by decide) (by decide) (by decide) (by decide) ?_
          refine lv_aload_n hx hb dX0_tell_140 rfl (hl.at rfl) ?_
          refine w_get C hw (c0 := 20) (i0 := i) rfl inA0 4 (by decide) mw138 rfl dX0_tell_141 (hG 20 (by decide) (by decide)) rfl rfl rfl ?_
          exact w_iret C hw hr hlocks dX0_tell_144 ⟨rfl, rfl, rfl, rfl, rfl, by subst e40; simp_all [tellv]⟩
        by_cases q40_23 : x40 = 23
        · subst q40_23
          refine lv_tableIn (off := 105) (tgt := 145) hx hb dX0_tell_40 (by decide) (by decide) (by decide) (by decide) ?_
          refine lv_aload_n hx hb dX0_tell_145 rfl (hl.at rfl) ?_
          refine w_get C hw (c0 := 20) (i0 := i) rfl inA0 5 (by decide) mw139 rfl dX0_tell_146 (hG 20 (by decide) (by decide)) rfl rfl rfl ?_
          exact w_iret C hw hr hlocks dX0_tell_149 ⟨rfl, rfl, rfl, rfl, rfl, by subst e40; simp_all [tellv]⟩
        refine lv_tableOut (tgt := 150) hx hb dX0_tell_40 (by have := lv_neT q40_8 (by decide : (8 : Int32).toInt = 8); have := lv_neT q40_9 (by decide : (9 : Int32).toInt = 9); have := lv_neT q40_10 (by decide : (10 : Int32).toInt = 10); have := lv_neT q40_11 (by decide : (11 : Int32).toInt = 11); have := lv_neT q40_12 (by decide : (12 : Int32).toInt = 12); have := lv_neT q40_13 (by decide : (13 : Int32).toInt = 13); have := lv_neT q40_14 (by decide : (14 : Int32).toInt = 14); have := lv_neT q40_15 (by decide : (15 : Int32).toInt = 15); have := lv_neT q40_16 (by decide : (16 : Int32).toInt = 16); have := lv_neT q40_17 (by decide : (17 : Int32).toInt = 17); have := lv_neT q40_18 (by decide : (18 : Int32).toInt = 18); have := lv_neT q40_19 (by decide : (19 : Int32).toInt = 19); have := lv_neT q40_20 (by decide : (20 : Int32).toInt = 20); have := lv_neT q40_21 (by decide : (21 : Int32).toInt = 21); have := lv_neT q40_22 (by decide : (22 : Int32).toInt = 22); have := lv_neT q40_23 (by decide : (23 : Int32).toInt = 23); omega) (by decide) ?_
        refine lv_iconst (v := 0) hx hb dX0_tell_150 (by decide) ?_
        exact w_iret C hw hr hlocks dX0_tell_151 ⟨rfl, rfl, rfl, rfl, rfl, by subst e40; simp_all [tellv]⟩
      · refine lv_aload_n hx hb dX0_tell_29 rfl (hl.at rfl) ?_
        refine w_get C hw (c0 := 20) (i0 := i) rfl inA0 10 (by decide) mw118 rfl dX0_tell_30 (hG 20 (by decide) (by decide)) rfl rfl rfl ?_
        refine lv_iload_n hx hb dX0_tell_33 rfl (hl.at rfl) ?_
        refine lv_bipush (v := 10) hx hb dX0_tell_34 (by decide) ?_
        refine lv_isub hx hb dX0_tell_36 ?_
        refine w_ild C hw (c0 := 24) (i0 := i) dX0_tell_37 (hG 24 (by decide) (by decide)) rfl rfl (tell_ix (by assumption) (by assumption)) rfl ?_
        exact w_iret C hw hr hlocks dX0_tell_38 ⟨rfl, rfl, rfl, rfl, rfl, by simp [tellv, *]⟩
  · refine lv_iload_n hx hb dX0_tell_4 rfl (hl.at rfl) ?_
    refine lv_bipush (v := 8) hx hb dX0_tell_5 (by decide) ?_
    refine lv_icmp_ge (tgt := 17) hx hb dX0_tell_7 (by decide) (fun h7 => ?_) (fun h7 => ?_)
    · refine lv_iload_n hx hb dX0_tell_17 rfl (hl.at rfl) ?_
      refine lv_bipush (v := 10) hx hb dX0_tell_18 (by decide) ?_
      refine lv_icmp_lt (tgt := 39) hx hb dX0_tell_20 (by decide) (fun h20 => ?_) (fun h20 => ?_)
      · refine lv_iload_n hx hb dX0_tell_39 rfl (hl.at rfl) ?_
        refine lv_topi (fun x40 e40 => ?_)
        by_cases q40_8 : x40 = 8
        · subst q40_8
          refine lv_tableIn (off := 80) (tgt := 120) hx hb dX0_tell_40 (by decide) (by decide) (by decide) (by decide) ?_
          refine lv_aload_n hx hb dX0_tell_120 rfl (hl.at rfl) ?_
          refine w_get C hw (c0 := 20) (i0 := i) rfl inA0 2 (by decide) mw136 rfl dX0_tell_121 (hG 20 (by decide) (by decide)) rfl rfl rfl ?_
          exact w_iret C hw hr hlocks dX0_tell_124 ⟨rfl, rfl, rfl, rfl, rfl, by subst e40; simp_all [tellv]⟩
        by_cases q40_9 : x40 = 9
        · subst q40_9
          refine lv_tableIn (off := 85) (tgt := 125) hx hb dX0_tell_40 (by decide) (by decide) (by decide) (by decide) ?_
          refine lv_aload_n hx hb dX0_tell_125 rfl (hl.at rfl) ?_
          refine w_get C hw (c0 := 20) (i0 := i) rfl inA0 3 (by decide) mw137 rfl dX0_tell_126 (hG 20 (by decide) (by decide)) rfl rfl rfl ?_
          exact w_iret C hw hr hlocks dX0_tell_129 ⟨rfl, rfl, rfl, rfl, rfl, by subst e40; simp_all [tellv]⟩
        by_cases q40_10 : x40 = 10
        · subst q40_10
          refine lv_tableIn (off := 110) (tgt := 150) hx hb dX0_tell_40 (by decide) (by decide) (by decide) (by decide) ?_
          refine lv_iconst (v := 0) hx hb dX0_tell_150 (by decide) ?_
          exact w_iret C hw hr hlocks dX0_tell_151 ⟨rfl, rfl, rfl, rfl, rfl, by subst e40; simp_all [tellv]⟩
        by_cases q40_11 : x40 = 11
        · subst q40_11
          refine lv_tableIn (off := 110) (tgt := 150) hx hb dX0_tell_40 (by decide) (by decide) (by decide) (by decide) ?_
          refine lv_iconst (v := 0) hx hb dX0_tell_150 (by decide) ?_
          exact w_iret C hw hr hlocks dX0_tell_151 ⟨rfl, rfl, rfl, rfl, rfl, by subst e40; simp_all [tellv]⟩
        by_cases q40_12 : x40 = 12
        · subst q40_12
          refine lv_tableIn (off := 110) (tgt := 150) hx hb dX0_tell_40 (by decide) (by decide) (by decide) (by decide) ?_
          refine lv_iconst (v := 0) hx hb dX0_tell_150 (by decide) ?_
          exact w_iret C hw hr hlocks dX0_tell_151 ⟨rfl, rfl, rfl, rfl, rfl, by subst e40; simp_all [tellv]⟩
        by_cases q40_13 : x40 = 13
        · subst q40_13
          refine lv_tableIn (off := 110) (tgt := 150) hx hb dX0_tell_40 (by decide) (by decide) (by decide) (by decide) ?_
          refine lv_iconst (v := 0) hx hb dX0_tell_150 (by decide) ?_
          exact w_iret C hw hr hlocks dX0_tell_151 ⟨rfl, rfl, rfl, rfl, rfl, by subst e40; simp_all [tellv]⟩
        by_cases q40_14 : x40 = 14
        · subst q40_14
          refine lv_tableIn (off := 110) (tgt := 150) hx hb dX0_tell_40 (by decide) (by decide) (by decide) (by decide) ?_
          refine lv_iconst (v := 0) hx hb dX0_tell_150 (by decide) ?_
          exact w_iret C hw hr hlocks dX0_tell_151 ⟨rfl, rfl, rfl, rfl, rfl, by subst e40; simp_all [tellv]⟩
        by_cases q40_15 : x40 = 15
        · subst q40_15
          refine lv_tableIn (off := 110) (tgt := 150) hx hb dX0_tell_40 (by decide) (by decide) (by decide) (by decide) ?_
          refine lv_iconst (v := 0) hx hb dX0_tell_150 (by decide) ?_
          exact w_iret C hw hr hlocks dX0_tell_151 ⟨rfl, rfl, rfl, rfl, rfl, by subst e40; simp_all [tellv]⟩
        by_cases q40_16 : x40 = 16
        · subst q40_16
          refine lv_tableIn (off := 110) (tgt := 150) hx hb dX0_tell_40 (by decide) (by decide) (by decide) (by decide) ?_
          refine lv_iconst (v := 0) hx hb dX0_tell_150 (by decide) ?_
          exact w_iret C hw hr hlocks dX0_tell_151 ⟨rfl, rfl, rfl, rfl, rfl, by subst e40; simp_all [tellv]⟩
        by_cases q40_17 : x40 = 17
        · subst q40_17
          refine lv_tableIn (off := 110) (tgt := 150) hx hb dX0_tell_40 (by decide) (by decide) (by decide) (by decide) ?_
          refine lv_iconst (v := 0) hx hb dX0_tell_150 (by decide) ?_
          exact w_iret C hw hr hlocks dX0_tell_151 ⟨rfl, rfl, rfl, rfl, rfl, by subst e40; simp_all [tellv]⟩
        by_cases q40_18 : x40 = 18
        · subst q40_18
          refine lv_tableIn (off := 110) (tgt := 150) hx hb dX0_tell_40 (by decide) (by decide) (by decide) (by decide) ?_
          refine lv_iconst (v := 0) hx hb dX0_tell_150 (by decide) ?_
          exact w_iret C hw hr hlocks dX0_tell_151 ⟨rfl, rfl, rfl, rfl, rfl, by subst e40; simp_all [tellv]⟩
        by_cases q40_19 : x40 = 19
        · subst q40_19
          refine lv_tableIn (off := 110) (tgt := 150) hx hb dX0_tell_40 (by decide) (by decide) (by decide) (by decide) ?_
          refine lv_iconst (v := 0) hx hb dX0_tell_150 (by decide) ?_
          exact w_iret C hw hr hlocks dX0_tell_151 ⟨rfl, rfl, rfl, rfl, rfl, by subst e40; simp_all [tellv]⟩
        by_cases q40_20 : x40 = 20
        · subst q40_20
          refine lv_tableIn (off := 90) (tgt := 130) hx hb dX0_tell_40 (by decide) (by decide) (by decide) (by decide) ?_
          refine lv_aload_n hx hb dX0_tell_130 rfl (hl.at rfl) ?_
          refine w_get C hw (c0 := 20) (i0 := i) rfl inA0 14 (by decide) mw130 rfl dX0_tell_131 (hG 20 (by decide) (by decide)) rfl rfl rfl ?_
          exact w_iret C hw hr hlocks dX0_tell_134 ⟨rfl, rfl, rfl, rfl, rfl, by subst e40; simp_all [tellv]⟩
        by_cases q40_21 : x40 = 21
        · subst q40_21
          refine lv_tableIn (off := 95) (tgt := 135) hx hb dX0_tell_40 (by decide) (by decide) (by decide) (by decide) ?_
          refine lv_aload_n hx hb dX0_tell_135 rfl (hl.at rfl) ?_
          refine w_get C hw (c0 := 20) (i0 := i) rfl inA0 16 (by decide) mw131 rfl dX0_tell_136 (hG 20 (by decide) (by decide)) rfl rfl rfl ?_
          exact w_iret C hw hr hlocks dX0_tell_139 ⟨rfl, rfl, rfl, rfl, rfl, by subst e40; simp_all [tellv]⟩
        by_cases q40_22 : x40 = 22
        · subst q40_22
          refine lv_tableIn (off := 100) (tgt := 140) hx hb dX0_tell_40 (by decide) (by decide) (by decide) (by decide) ?_
          refine lv_aload_n hx hb dX0_tell_140 rfl (hl.at rfl) ?_
          refine w_get C hw (c0 := 20) (i0 := i) rfl inA0 4 (by decide) mw138 rfl dX0_tell_141 (hG 20 (by decide) (by decide)) rfl rfl rfl ?_
          exact w_iret C hw hr hlocks dX0_tell_144 ⟨rfl, rfl, rfl, rfl, rfl, by subst e40; simp_all [tellv]⟩
        by_cases q40_23 : x40 = 23
        · subst q40_23
          refine lv_tableIn (off := 105) (tgt := 145) hx hb dX0_tell_40 (by decide) (by decide) (by decide) (by decide) ?_
          refine lv_aload_n hx hb dX0_tell_145 rfl (hl.at rfl) ?_
          refine w_get C hw (c0 := 20) (i0 := i) rfl inA0 5 (by decide) mw139 rfl dX0_tell_146 (hG 20 (by decide) (by decide)) rfl rfl rfl ?_
          exact w_iret C hw hr hlocks dX0_tell_149 ⟨rfl, rfl, rfl, rfl, rfl, by subst e40; simp_all [tellv]⟩
        refine lv_tableOut (tgt := 150) hx hb dX0_tell_40 (by have := lv_neT q40_8 (by decide : (8 : Int32).toInt = 8); have := lv_neT q40_9 (by decide : (9 : Int32).toInt = 9); have := lv_neT q40_10 (by decide : (10 : Int32).toInt = 10); have := lv_neT q40_11 (by decide : (11 : Int32).toInt = 11); have := lv_neT q40_12 (by decide : (12 : Int32).toInt = 12); have := lv_neT q40_13 (by decide : (13 : Int32).toInt = 13); have := lv_neT q40_14 (by decide : (14 : Int32).toInt = 14); have := lv_neT q40_15 (by decide : (15 : Int32).toInt = 15); have := lv_neT q40_16 (by decide : (16 : Int32).toInt = 16); have := lv_neT q40_17 (by decide : (17 : Int32).toInt = 17); have := lv_neT q40_18 (by decide : (18 : Int32).toInt = 18); have := lv_neT q40_19 (by decide : (19 : Int32).toInt = 19); have := lv_neT q40_20 (by decide : (20 : Int32).toInt = 20); have := lv_neT q40_21 (by decide : (21 : Int32).toInt = 21); have := lv_neT q40_22 (by decide : (22 : Int32).toInt = 22); have := lv_neT q40_23 (by decide : (23 : Int32).toInt = 23); omega) (by decide) ?_
        refine lv_iconst (v := 0) hx hb dX0_tell_150 (by decide) ?_
        exact w_iret C hw hr hlocks dX0_tell_151 ⟨rfl, rfl, rfl, rfl, rfl, by subst e40; simp_all [tellv]⟩
      · refine lv_iload_n hx hb dX0_tell_23 rfl (hl.at rfl) ?_
        refine lv_bipush (v := 20) hx hb dX0_tell_24 (by decide) ?_
        refine lv_icmp_ge (tgt := 39) hx hb dX0_tell_26 (by decide) (fun h26 => ?_) (fun h26 => ?_)
        · refine lv_iload_n hx hb dX0_tell_39 rfl (hl.at rfl) ?_
          refine lv_topi (fun x40 e40 => ?_)
          by_cases q40_8 : x40 = 8
          · subst q40_8
            refine lv_tableIn (off := 80) (tgt := 120) hx hb dX0_tell_40 (by decide) (by decide) (by decide) (by decide) ?_
            refine lv_aload_n hx hb dX0_tell_120 rfl (hl.at rfl) ?_
            refine w_get C hw (c0 := 20) (i0 := i) rfl inA0 2 (by decide) mw136 rfl dX0_tell_121 (hG 20 (by decide) (by decide)) rfl rfl rfl ?_
            exact w_iret C hw hr hlocks dX0_tell_124 ⟨rfl, rfl, rfl, rfl, rfl, by subst e40; simp_all [tellv]⟩
          by_cases q40_9 : x40 = 9
          · subst q40_9
            refine lv_tableIn (off := 85) (tgt := 125) hx hb dX0_tell_40 (by decide) (by decide) (by decide) (by decide) ?_
            refine lv_aload_n hx hb dX0_tell_125 rfl (hl.at rfl) ?_
            refine w_get C hw (c0 := 20) (i0 := i) rfl inA0 3 (by decide) mw137 rfl dX0_tell_126 (hG 20 (by decide) (by decide)) rfl rfl rfl ?_
            exact w_iret C hw hr hlocks dX0_tell_129 ⟨rfl, rfl, rfl, rfl, rfl, by subst e40; simp_all [tellv]⟩
          by_cases q40_10 : x40 = 10
          · subst q40_10
            refine lv_tableIn (off := 110) (tgt := 150) hx hb dX0_tell_40 (by decide) (by decide) (by decide) (by decide) ?_
            refine lv_iconst (v := 0) hx hb dX0_tell_150 (by decide) ?_
            exact w_iret C hw hr hlocks dX0_tell_151 ⟨rfl, rfl, rfl, rfl, rfl, by subst e40; simp_all [tellv]⟩
          by_cases q40_11 : x40 = 11
          · subst q40_11
            refine lv_tableIn (off := 110) (tgt := 150) hx hb dX0_tell_40 (by decide) (by decide) (by decide) (by decide) ?_
            refine lv_iconst (v := 0) hx hb dX0_tell_150 (by decide) ?_
            exact w_iret C hw hr hlocks dX0_tell_151 ⟨rfl, rfl, rfl, rfl, rfl, by subst e40; simp_all [tellv]⟩
          by_cases q40_12 : x40 = 12
          · subst q40_12
            refine lv_tableIn (off := 110) (tgt := 150) hx hb dX0_tell_40 (by decide) (by decide) (by decide) (by decide) ?_
            refine lv_iconst (v := 0) hx hb dX0_tell_150 (by decide) ?_
            exact w_iret C hw hr hlocks dX0_tell_151 ⟨rfl, rfl, rfl, rfl, rfl, by subst e40; simp_all [tellv]⟩
          by_cases q40_13 : x40 = 13
          · subst q40_13
            refine lv_tableIn (off := 110) (tgt := 150) hx hb dX0_tell_40 (by decide) (by decide) (by decide) (by decide) ?_
            refine lv_iconst (v := 0) hx hb dX0_tell_150 (by decide) ?_
            exact w_iret C hw hr hlocks dX0_tell_151 ⟨rfl, rfl, rfl, rfl, rfl, by subst e40; simp_all [tellv]⟩
          by_cases q40_14 : x40 = 14
          · subst q40_14
            refine lv_tableIn (off := 110) (tgt := 150) hx hb dX0_tell_40 (by decide) (by decide) (by decide) (by decide) ?_
            refine lv_iconst (v := 0) hx hb dX0_tell_150 (by decide) ?_
            exact w_iret C hw hr hlocks dX0_tell_151 ⟨rfl, rfl, rfl, rfl, rfl, by subst e40; simp_all [tellv]⟩
          by_cases q40_15 : x40 = 15
          · subst q40_15
            refine lv_tableIn (off := 110) (tgt := 150) hx hb dX0_tell_40 (by decide) (by decide) (by decide) (by decide) ?_
            refine lv_iconst (v := 0) hx hb dX0_tell_150 (by decide) ?_
            exact w_iret C hw hr hlocks dX0_tell_151 ⟨rfl, rfl, rfl, rfl, rfl, by subst e40; simp_all [tellv]⟩
          by_cases q40_16 : x40 = 16
          · subst q40_16
            refine lv_tableIn (off := 110) (tgt := 150) hx hb dX0_tell_40 (by decide) (by decide) (by decide) (by decide) ?_
            refine lv_iconst (v := 0) hx hb dX0_tell_150 (by decide) ?_
            exact w_iret C hw hr hlocks dX0_tell_151 ⟨rfl, rfl, rfl, rfl, rfl, by subst e40; simp_all [tellv]⟩
          by_cases q40_17 : x40 = 17
          · subst q40_17
            refine lv_tableIn (off := 110) (tgt := 150) hx hb dX0_tell_40 (by decide) (by decide) (by decide) (by decide) ?_
            refine lv_iconst (v := 0) hx hb dX0_tell_150 (by decide) ?_
            exact w_iret C hw hr hlocks dX0_tell_151 ⟨rfl, rfl, rfl, rfl, rfl, by subst e40; simp_all [tellv]⟩
          by_cases q40_18 : x40 = 18
          · subst q40_18
            refine lv_tableIn (off := 110) (tgt := 150) hx hb dX0_tell_40 (by decide) (by decide) (by decide) (by decide) ?_
            refine lv_iconst (v := 0) hx hb dX0_tell_150 (by decide) ?_
            exact w_iret C hw hr hlocks dX0_tell_151 ⟨rfl, rfl, rfl, rfl, rfl, by subst e40; simp_all [tellv]⟩
          by_cases q40_19 : x40 = 19
          · subst q40_19
            refine lv_tableIn (off := 110) (tgt := 150) hx hb dX0_tell_40 (by decide) (by decide) (by decide) (by decide) ?_
            refine lv_iconst (v := 0) hx hb dX0_tell_150 (by decide) ?_
            exact w_iret C hw hr hlocks dX0_tell_151 ⟨rfl, rfl, rfl, rfl, rfl, by subst e40; simp_all [tellv]⟩
          by_cases q40_20 : x40 = 20
          · subst q40_20
            refine lv_tableIn (off := 90) (tgt := 130) hx hb dX0_tell_40 (by decide) (by decide) (by decide) (by decide) ?_
            refine lv_aload_n hx hb dX0_tell_130 rfl (hl.at rfl) ?_
            refine w_get C hw (c0 := 20) (i0 := i) rfl inA0 14 (by decide) mw130 rfl dX0_tell_131 (hG 20 (by decide) (by decide)) rfl rfl rfl ?_
            exact w_iret C hw hr hlocks dX0_tell_134 ⟨rfl, rfl, rfl, rfl, rfl, by subst e40; simp_all [tellv]⟩
          by_cases q40_21 : x40 = 21
          · subst q40_21
            refine lv_tableIn (off := 95) (tgt := 135) hx hb dX0_tell_40 (by decide) (by decide) (by decide) (by decide) ?_
            refine lv_aload_n hx hb dX0_tell_135 rfl (hl.at rfl) ?_
            refine w_get C hw (c0 := 20) (i0 := i) rfl inA0 16 (by decide) mw131 rfl dX0_tell_136 (hG 20 (by decide) (by decide)) rfl rfl rfl ?_
            exact w_iret C hw hr hlocks dX0_tell_139 ⟨rfl, rfl, rfl, rfl, rfl, by subst e40; simp_all [tellv]⟩
          by_cases q40_22 : x40 = 22
          · subst q40_22
            refine lv_tableIn (off := 100) (tgt := 140) hx hb dX0_tell_40 (by decide) (by decide) (by decide) (by decide) ?_
            refine lv_aload_n hx hb dX0_tell_140 rfl (hl.at rfl) ?_
            refine w_get C hw (c0 := 20) (i0 := i) rfl inA0 4 (by decide) mw138 rfl dX0_tell_141 (hG 20 (by decide) (by decide)) rfl rfl rfl ?_
            exact w_iret C hw hr hlocks dX0_tell_144 ⟨rfl, rfl, rfl, rfl, rfl, by subst e40; simp_all [tellv]⟩
          by_cases q40_23 : x40 = 23
          · subst q40_23
            refine lv_tableIn (off := 105) (tgt := 145) hx hb dX0_tell_40 (by decide) (by decide) (by decide) (by decide) ?_
            refine lv_aload_n hx hb dX0_tell_145 rfl (hl.at rfl) ?_
            refine w_get C hw (c0 := 20) (i0 := i) rfl inA0 5 (by decide) mw139 rfl dX0_tell_146 (hG 20 (by decide) (by decide)) rfl rfl rfl ?_
            exact w_iret C hw hr hlocks dX0_tell_149 ⟨rfl, rfl, rfl, rfl, rfl, by subst e40; simp_all [tellv]⟩
          refine lv_tableOut (tgt := 150) hx hb dX0_tell_40 (by have := lv_neT q40_8 (by decide : (8 : Int32).toInt = 8); have := lv_neT q40_9 (by decide : (9 : Int32).toInt = 9); have := lv_neT q40_10 (by decide : (10 : Int32).toInt = 10); have := lv_neT q40_11 (by decide : (11 : Int32).toInt = 11); have := lv_neT q40_12 (by decide : (12 : Int32).toInt = 12); have := lv_neT q40_13 (by decide : (13 : Int32).toInt = 13); have := lv_neT q40_14 (by decide : (14 : Int32).toInt = 14); have := lv_neT q40_15 (by decide : (15 : Int32).toInt = 15); have := lv_neT q40_16 (by decide : (16 : Int32).toInt = 16); have := lv_neT q40_17 (by decide : (17 : Int32).toInt = 17); have := lv_neT q40_18 (by decide : (18 : Int32).toInt = 18); have := lv_neT q40_19 (by decide : (19 : Int32).toInt = 19); have := lv_neT q40_20 (by decide : (20 : Int32).toInt = 20); have := lv_neT q40_21 (by decide : (21 : Int32).toInt = 21); have := lv_neT q40_22 (by decide : (22 : Int32).toInt = 22); have := lv_neT q40_23 (by decide : (23 : Int32).toInt = 23); omega) (by decide) ?_
          refine lv_iconst (v := 0) hx hb dX0_tell_150 (by decide) ?_
          exact w_iret C hw hr hlocks dX0_tell_151 ⟨rfl, rfl, rfl, rfl, rfl, by subst e40; simp_all [tellv]⟩
        · refine lv_aload_n hx hb dX0_tell_29 rfl (hl.at rfl) ?_
          refine w_get C hw (c0 := 20) (i0 := i) rfl inA0 10 (by decide) mw118 rfl dX0_tell_30 (hG 20 (by decide) (by decide)) rfl rfl rfl ?_
          refine lv_iload_n hx hb dX0_tell_33 rfl (hl.at rfl) ?_
          refine lv_bipush (v := 10) hx hb dX0_tell_34 (by decide) ?_
          refine lv_isub hx hb dX0_tell_36 ?_
          refine w_ild C hw (c0 := 24) (i0 := i) dX0_tell_37 (hG 24 (by decide) (by decide)) rfl rfl (tell_ix (by assumption) (by assumption)) rfl ?_
          exact w_iret C hw hr hlocks dX0_tell_38 ⟨rfl, rfl, rfl, rfl, rfl, by simp [tellv, *]⟩
    · refine lv_aload_n hx hb dX0_tell_10 rfl (hl.at rfl) ?_
      refine w_get C hw (c0 := 20) (i0 := i) rfl inA0 9 (by decide) mw117 rfl dX0_tell_11 (hG 20 (by decide) (by decide)) rfl rfl rfl ?_
      refine lv_iload_n hx hb dX0_tell_14 rfl (hl.at rfl) ?_
      refine w_ild C hw (c0 := 23) (i0 := i) dX0_tell_15 (hG 23 (by decide) (by decide)) rfl rfl (vpr (N := 8) (by decide) (by assumption) (by assumption)) rfl ?_
      exact w_iret C hw hr hlocks dX0_tell_16 ⟨rfl, rfl, rfl, rfl, rfl, by simp [tellv, *]⟩
