/-! ===== GuestHouse$Processor: small methods ===== -/

set_option maxHeartbeats 4000000 in
set_option maxRecDepth 100000 in
theorem c_X2_valueA (l : Launch) (sz0 : Nat) (D : va_G) (cs : Nat → ClassId) (X : Sh) (Z : ZT) (Y : va_W) (i : Nat) (hG : GI X i) (w : Int32) : Ctr l yX2_valueA (wsM yX2_valueA cX2_valueA 2 (some .int)) ({ frames := 0, cells := 0, slots := 0, locals := 0 } : Room) sz0 D cs [.ref (X.1 20 i), .int w] X Z Y (Pz X Y (fun Z' v => Z = Z' ∧ v = some (.int (Z 23 i (fA w))))) := by
  refine Ctr.ofW (by decide +kernel) (by intro v hv; simp at hv; rcases hv with rfl | rfl <;> rfl) (Nat.le_of_ble_eq_true rfl) ?_
  intro p e s m below meth c ls C hr hlocks hname hl hN hw
  obtain ⟨hx, hb, hml, hown, hts⟩ := id C
  refine lv_aload_n hx hb dX2_valueA_0 rfl (hl.at rfl) ?_
  refine w_getN C hN hw (c0 := 20) (i0 := i) rfl inA0 9 (by decide) mw652 rfl dX2_valueA_1 (hG 20 (by decide) (by decide)) rfl rfl rfl ?_
  refine lv_iload_n hx hb dX2_valueA_4 rfl (hl.at rfl) ?_
  refine lv_bipush (v := 20) hx hb dX2_valueA_5 (by decide) ?_
  refine lv_iushr hx hb dX2_valueA_7 rfl ?_
  refine lv_bipush (v := 7) hx hb dX2_valueA_8 (by decide) ?_
  refine lv_iand hx hb dX2_valueA_10 ?_
  refine w_ild C hw (c0 := 23) (i0 := i) dX2_valueA_11 (hG 23 (by decide) (by decide)) rfl rfl (vp7 _) rfl ?_
  exact w_iret C hw hr hlocks dX2_valueA_12 ⟨rfl, rfl, rfl, rfl, rfl, rfl⟩

set_option maxHeartbeats 4000000 in
set_option maxRecDepth 100000 in
theorem c_X2_valueB (l : Launch) (sz0 : Nat) (D : va_G) (cs : Nat → ClassId) (X : Sh) (Z : ZT) (Y : va_W) (i : Nat) (hG : GI X i) (w : Int32) : Ctr l yX2_valueB (wsM yX2_valueB cX2_valueB 2 (some .int)) ({ frames := 0, cells := 0, slots := 0, locals := 0 } : Room) sz0 D cs [.ref (X.1 20 i), .int w] X Z Y (Pz X Y (fun Z' v => Z = Z' ∧ v = some (.int (Z 23 i (fB w))))) := by
  refine Ctr.ofW (by decide +kernel) (by intro v hv; simp at hv; rcases hv with rfl | rfl <;> rfl) (Nat.le_of_ble_eq_true rfl) ?_
  intro p e s m below meth c ls C hr hlocks hname hl hN hw
  obtain ⟨hx, hb, hml, hown, hts⟩ := id C
  refine lv_aload_n hx hb dX2_valueB_0 rfl (hl.at rfl) ?_
  refine w_getN C hN hw (c0 := 20) (i0 := i) rfl inA0 9 (by decide) mw652 rfl dX2_valueB_1 (hG 20 (by decide) (by decide)) rfl rfl rfl ?_
  refine lv_iload_n hx hb dX2_valueB_4 rfl (hl.at rfl) ?_
  refine lv_bipush (v := 17) hx hb dX2_valueB_5 (by decide) ?_
  refine lv_iushr hx hb dX2_valueB_7 rfl ?_
  refine lv_bipush (v := 7) hx hb dX2_valueB_8 (by decide) ?_
  refine lv_iand hx hb dX2_valueB_10 ?_
  refine w_ild C hw (c0 := 23) (i0 := i) dX2_valueB_11 (hG 23 (by decide) (by decide)) rfl rfl (vp7 _) rfl ?_
  exact w_iret C hw hr hlocks dX2_valueB_12 ⟨rfl, rfl, rfl, rfl, rfl, rfl⟩

set_option maxHeartbeats 4000000 in
set_option maxRecDepth 100000 in
theorem c_X2_number (l : Launch) (sz0 : Nat) (D : va_G) (cs : Nat → ClassId) (X : Sh) (Z : ZT) (Y : va_W) (w : Int32) : Ctr l yX2_number (wsM yX2_number cX2_number 1 (some .int)) ({ frames := 0, cells := 0, slots := 0, locals := 0 } : Room) sz0 D cs [.int w] X Z Y (Pz X Y (fun Z' v => Z = Z' ∧ v = some (.int (numS w)))) := by
  refine Ctr.ofW (by decide +kernel) (by intro v hv; simp at hv; rcases hv with rfl <;> rfl) (Nat.le_of_ble_eq_true rfl) ?_
  intro p e s m below meth c ls C hr hlocks hname hl hN hw
  obtain ⟨hx, hb, hml, hown, hts⟩ := id C
  refine lv_iload_n hx hb dX2_number_0 rfl (hl.at rfl) ?_
  refine lv_bipush (v := 15) hx hb dX2_number_1 (by decide) ?_
  refine lv_ishl hx hb dX2_number_3 ?_
  refine lv_bipush (v := 15) hx hb dX2_number_4 (by decide) ?_
  refine lv_ishr hx hb dX2_number_6 ?_
  exact w_iret C hw hr hlocks dX2_number_7 ⟨rfl, rfl, rfl, rfl, rfl, rfl⟩

set_option maxHeartbeats 4000000 in
set_option maxRecDepth 100000 in
theorem c_X2_setD (l : Launch) (sz0 : Nat) (D : va_G) (cs : Nat → ClassId) (X : Sh) (Z : ZT) (Y : va_W) (i : Nat) (hG : GI X i) (w x : Int32) : Ctr l yX2_setD (wsM yX2_setD cX2_setD 3 none) ({ frames := 0, cells := 0, slots := 0, locals := 0 } : Room) sz0 D cs [.ref (X.1 20 i), .int w, .int x] X Z Y (Pz X Y (fun Z' v => Z' = upr Z 23 i (upd (Z 23 i) (fD w) x) ∧ v = none)) := by
  refine Ctr.ofW (by decide +kernel) (by intro v hv; simp at hv; rcases hv with rfl | rfl | rfl <;> rfl) (Nat.le_of_ble_eq_true rfl) ?_
  intro p e s m below meth c ls C hr hlocks hname hl hN hw
  obtain ⟨hx, hb, hml, hown, hts⟩ := id C
  refine lv_aload_n hx hb dX2_setD_0 rfl (hl.at rfl) ?_
  refine w_getN C hN hw (c0 := 20) (i0 := i) rfl inA0 9 (by decide) mw652 rfl dX2_setD_1 (hG 20 (by decide) (by decide)) rfl rfl rfl ?_
  refine lv_iload_n hx hb dX2_setD_4 rfl (hl.at rfl) ?_
  refine lv_bipush (v := 23) hx hb dX2_setD_5 (by decide) ?_
  refine lv_iushr hx hb dX2_setD_7 rfl ?_
  refine lv_bipush (v := 7) hx hb dX2_setD_8 (by decide) ?_
  refine lv_iand hx hb dX2_setD_10 ?_
  refine lv_iload_n hx hb dX2_setD_11 rfl (hl.at rfl) ?_
  refine w_ist C hw (c0 := 23) (i0 := i) dX2_setD_12 (hG 23 (by decide) (by decide)) rfl (fun _ => rfl) (vp7 _) rfl (fun H locs hw => ?_)
  exact w_vret C hw hr hlocks dX2_setD_13 ⟨rfl, rfl, rfl, rfl, rfl, rfl⟩

set_option maxHeartbeats 4000000 in
set_option maxRecDepth 100000 in
theorem c_X2_refuse (l : Launch) (sz0 : Nat) (D : va_G) (cs : Nat → ClassId) (X : Sh) (Z : ZT) (Y : va_W) (hX : HXI X) (a b : Int32) : Ctr l yX2_refuse (wsM yX2_refuse cX2_refuse 3 (some .int)) ({ frames := 0, cells := 0, slots := 0, locals := 0 } : Room) sz0 D cs [.ref (X.1 12 0), .int a, .int b] X Z Y (Pz X Y (fun Z' v => Z' = upr Z 12 0 (upd (upd (Z 12 0) 1 a) 2 b) ∧ v = some (.int (-1)))) := by
  refine Ctr.ofW (by decide +kernel) (by intro v hv; simp at hv; rcases hv with rfl | rfl | rfl <;> rfl) (Nat.le_of_ble_eq_true rfl) ?_
  intro p e s m below meth c ls C hr hlocks hname hl hN hw
  obtain ⟨hx, hb, hml, hown, hts⟩ := id C
  refine lv_aload_n hx hb dX2_refuse_0 rfl (hl.at rfl) ?_
  refine lv_iload_n hx hb dX2_refuse_1 rfl (hl.at rfl) ?_
  refine w_put C hw (c0 := 12) (i0 := 0) rfl inA2 tyX2_ok nmX2 1 (by decide) mw341 rfl rfl rfl dX2_refuse_2 (hX 12 (by decide)) rfl rfl rfl rfl (Nat.le_of_ble_eq_true rfl) rfl (fun H locs hw => ?_)
  refine lv_aload_n hx hb dX2_refuse_5 rfl (hl.at rfl) ?_
  refine lv_iload_n hx hb dX2_refuse_6 rfl (hl.at rfl) ?_
  refine w_put C hw (c0 := 12) (i0 := 0) rfl inA2 tyX2_ok nmX2 2 (by decide) mw342 rfl rfl rfl dX2_refuse_7 (hX 12 (by decide)) rfl rfl rfl rfl (Nat.le_of_ble_eq_true rfl) rfl (fun H locs hw => ?_)
  refine lv_iconst (v := -1) hx hb dX2_refuse_10 (by decide) ?_
  exact w_iret C hw hr hlocks dX2_refuse_11 ⟨rfl, rfl, rfl, rfl, by rw [upr_uu, upr_s], rfl⟩

set_option maxHeartbeats 4000000 in
set_option maxRecDepth 100000 in
theorem c_X2_lineTrap (l : Launch) (sz0 : Nat) (D : va_G) (cs : Nat → ClassId) (X : Sh) (Z : ZT) (Y : va_W) (i : Nat) (hG : GI X i) : Ctr l yX2_lineTrap (wsM yX2_lineTrap cX2_lineTrap 2 (some .int)) ({ frames := 1, cells := 0, slots := 0, locals := 20 } : Room) sz0 D cs [.ref (X.1 20 i)] X Z Y (Pz X Y (fun Z' v => Z = Z' ∧ v = some (.int (lineS (Z 24 i 0) (Z 24 i 8) (Z 24 i 6) (Z 20 i 14))))) := by
  refine Ctr.ofW (by decide +kernel) (by intro v hv; simp at hv; rcases hv with rfl <;> rfl) (Nat.le_of_ble_eq_true rfl) ?_
  intro p e s m below meth c ls C hr hlocks hname hl hN hw
  obtain ⟨hx, hb, hml, hown, hts⟩ := id C
  refine lv_aload_n hx hb dX2_lineTrap_0 rfl (hl.at rfl) ?_
  refine w_getN C hN hw (c0 := 20) (i0 := i) rfl inA0 10 (by decide) mw653 rfl dX2_lineTrap_1 (hG 20 (by decide) (by decide)) rfl rfl rfl ?_
  refine lv_iconst (v := 0) hx hb dX2_lineTrap_4 (by decide) ?_
  refine w_ild C hw (c0 := 24) (i0 := i) dX2_lineTrap_5 (hG 24 (by decide) (by decide)) rfl rfl (vpk (by decide)) (j := 0) (by decide) ?_
  refine w_istore_n hx hb dX2_lineTrap_6 rfl hl (Nat.le_of_ble_eq_true rfl) (fun ls hl => ?_)
  refine lv_iload_n hx hb dX2_lineTrap_7 rfl (hl.at rfl) ?_
  refine lv_iconst (v := 1) hx hb dX2_lineTrap_8 (by decide) ?_
  refine lv_iand hx hb dX2_lineTrap_9 ?_
  refine lv_if_ne (tgt := 15) hx hb dX2_lineTrap_10 (by decide) (fun h10 => ?_) (fun h10 => ?_)
  · refine lv_iload_n hx hb dX2_lineTrap_15 rfl (hl.at rfl) ?_
    refine lv_sipush (v := 256) hx hb dX2_lineTrap_16 (by decide) ?_
    refine lv_iand hx hb dX2_lineTrap_19 ?_
    refine lv_if_eq (tgt := 33) hx hb dX2_lineTrap_20 (by decide) (fun h20 => ?_) (fun h20 => ?_)
    · refine lv_iload_n hx hb dX2_lineTrap_33 rfl (hl.at rfl) ?_
      refine lv_sipush (v := 512) hx hb dX2_lineTrap_34 (by decide) ?_
      refine lv_iand hx hb dX2_lineTrap_37 ?_
      refine lv_if_eq (tgt := 53) hx hb dX2_lineTrap_38 (by decide) (fun h38 => ?_) (fun h38 => ?_)
      · refine lv_iconst (v := 0) hx hb dX2_lineTrap_53 (by decide) ?_
        exact w_iret C hw hr hlocks dX2_lineTrap_54 ⟨rfl, rfl, rfl, rfl, rfl, by simp [lineS, *]⟩
      · refine lv_aload_n hx hb dX2_lineTrap_41 rfl (hl.at rfl) ?_
        refine w_getN C hN hw (c0 := 20) (i0 := i) rfl inA0 14 (by decide) mw656 rfl dX2_lineTrap_42 (hG 20 (by decide) (by decide)) rfl rfl rfl ?_
        refine lv_if_le (tgt := 53) hx hb dX2_lineTrap_45 (by decide) (fun h45 => ?_) (fun h45 => ?_)
        · refine lv_iconst (v := 0) hx hb dX2_lineTrap_53 (by decide) ?_
          exact w_iret C hw hr hlocks dX2_lineTrap_54 ⟨rfl, rfl, rfl, rfl, rfl, by simp [lineS, *]⟩
        · refine lv_bipush (v := 17) hx hb dX2_lineTrap_48 (by decide) ?_
          refine lv_goto (tgt := 54) hx hb dX2_lineTrap_50 (by decide) ?_
          exact w_iret C hw hr hlocks dX2_lineTrap_54 ⟨rfl, rfl, rfl, rfl, rfl, by simp [lineS, *]⟩
    · refine lv_aload_n hx hb dX2_lineTrap_23 rfl (hl.at rfl) ?_
      refine w_callV C hN hw (c_X0_timerIsUp l sz0 D cs X _ Y i hG) ⟨(Nat.le_of_ble_eq_true rfl), (Nat.le_of_ble_eq_true rfl), mw351, mw111, cy_X0_timerIsUp⟩ mw348 mw349 mw350 (w_rec hw (c0 := 20) (i0 := i) (hG 20 (by decide) (by decide)) rfl rfl) rfl hl.1.1 rfl (Nat.le_of_ble_eq_true rfl) dX2_lineTrap_24 ⟨Nat.le_of_ble_eq_true rfl, Nat.le_of_ble_eq_true rfl⟩ (fun X' Z' Y' v k n H locs hp hw => ?_)
      obtain ⟨rfl, rfl, rfl, rfl, rfl, rfl⟩ := hp
      refine lv_if_eq (tgt := 33) hx hb dX2_lineTrap_27 (by decide) (fun h27 => ?_) (fun h27 => ?_)
      · refine lv_iload_n hx hb dX2_lineTrap_33 rfl (hl.at rfl) ?_
        refine lv_sipush (v := 512) hx hb dX2_lineTrap_34 (by decide) ?_
        refine lv_iand hx hb dX2_lineTrap_37 ?_
        refine lv_if_eq (tgt := 53) hx hb dX2_lineTrap_38 (by decide) (fun h38 => ?_) (fun h38 => ?_)
        · refine lv_iconst (v := 0) hx hb dX2_lineTrap_53 (by decide) ?_
          exact w_iret C hw hr hlocks dX2_lineTrap_54 ⟨rfl, rfl, rfl, rfl, rfl, by simp [lineS, *]⟩
        · refine lv_aload_n hx hb dX2_lineTrap_41 rfl (hl.at rfl) ?_
          refine w_getN C hN hw (c0 := 20) (i0 := i) rfl inA0 14 (by decide) mw656 rfl dX2_lineTrap_42 (hG 20 (by decide) (by decide)) rfl rfl rfl ?_
          refine lv_if_le (tgt := 53) hx hb dX2_lineTrap_45 (by decide) (fun h45 => ?_) (fun h45 => ?_)
          · refine lv_iconst (v := 0) hx hb dX2_lineTrap_53 (by decide) ?_
            exact w_iret C hw hr hlocks dX2_lineTrap_54 ⟨rfl, rfl, rfl, rfl, rfl, by simp [lineS, *]⟩
          · refine lv_bipush (v := 17) hx hb dX2_lineTrap_48 (by decide) ?_
            refine lv_goto (tgt := 54) hx hb dX2_lineTrap_50 (by decide) ?_
            exact w_iret C hw hr hlocks dX2_lineTrap_54 ⟨rfl, rfl, rfl, rfl, rfl, by simp [lineS, *]⟩
      · refine lv_bipush (v := 16) hx hb dX2_lineTrap_30 (by decide) ?_
        exact w_iret C hw hr hlocks dX2_lineTrap_32 ⟨rfl, rfl, rfl, rfl, rfl, by simp [lineS, *]⟩
  · refine lv_iconst (v := 0) hx hb dX2_lineTrap_13 (by decide) ?_
    exact w_iret C hw hr hlocks dX2_lineTrap_14 ⟨rfl, rfl, rfl, rfl, rfl, by simp [lineS, *]⟩

set_option maxHeartbeats 4000000 in
set_option maxRecDepth 100000 in
theorem c_X2_sum (l : Launch) (sz0 : Nat) (D : va_G) (cs : Nat → ClassId) (X : Sh) (Z : ZT) (Y : va_W) (i : Nat) (hG : GI X i) (w : Int32) : Ctr l yX2_sum (wsM yX2_sum cX2_sum 4 (some .int)) ({ frames := 1, cells := 0, slots := 0, locals := 21 } : Room) sz0 D cs [.ref (X.1 20 i), .int w] X Z Y (Pz X Y (fun Z' v => Z = Z' ∧ v = some (.int (sumS (opc w) (Z 23 i (fA w)) (Z 23 i (fB w)) (numS w))))) := by
  refine Ctr.ofW (by decide +kernel) (by intro v hv; simp at hv; rcases hv with rfl | rfl <;> rfl) (Nat.le_of_ble_eq_true rfl) ?_
  intro p e s m below meth c ls C hr hlocks hname hl hN hw
  obtain ⟨hx, hb, hml, hown, hts⟩ := id C
  refine lv_aload_n hx hb dX2_sum_0 rfl (hl.at rfl) ?_
  refine lv_iload_n hx hb dX2_sum_1 rfl (hl.at rfl) ?_
  refine w_callS C hN hw (c_X2_valueA l sz0 D cs X _ Y i hG w) ⟨(Nat.le_of_ble_eq_true rfl), (Nat.le_of_ble_eq_true rfl), mw371, mw19, cy_X2_valueA⟩ mw369 mw370 rfl hl.1.1 rfl (Nat.le_of_ble_eq_true rfl) dX2_sum_2 ⟨Nat.le_of_ble_eq_true rfl, Nat.le_of_ble_eq_true rfl⟩ (fun X' Z' Y' v k n H locs hp hw => ?_)
  obtain ⟨rfl, rfl, rfl, rfl, rfl, rfl⟩ := hp
  refine w_istore_n hx hb dX2_sum_5 rfl hl (Nat.le_of_ble_eq_true rfl) (fun ls hl => ?_)
  refine lv_aload_n hx hb dX2_sum_6 rfl (hl.at rfl) ?_
  refine lv_iload_n hx hb dX2_sum_7 rfl (hl.at rfl) ?_
  refine w_callS C hN hw (c_X2_valueB l sz0 D cs X _ Y i hG w) ⟨(Nat.le_of_ble_eq_true rfl), (Nat.le_of_ble_eq_true rfl), mw374, mw19, cy_X2_valueB⟩ mw372 mw373 rfl hl.1.1 rfl (Nat.le_of_ble_eq_true rfl) dX2_sum_8 ⟨Nat.le_of_ble_eq_true rfl, Nat.le_of_ble_eq_true rfl⟩ (fun X' Z' Y' v k n H locs hp hw => ?_)
  obtain ⟨rfl, rfl, rfl, rfl, rfl, rfl⟩ := hp
  refine w_istore_n hx hb dX2_sum_11 rfl hl (Nat.le_of_ble_eq_true rfl) (fun ls hl => ?_)
  refine lv_iload_n hx hb dX2_sum_12 rfl (hl.at rfl) ?_
  refine lv_bipush (v := 26) hx hb dX2_sum_13 (by decide) ?_
  refine lv_iushr hx hb dX2_sum_15 rfl ?_
  refine lv_topi (fun x16 e16 => ?_)
  by_cases q16_0 : x16 = 0
  · subst q16_0
    refine lv_tableIn (off := 56) (tgt := 72) hx hb dX2_sum_16 (by decide) (by decide) (by decide) (by decide) ?_
    refine lv_iload_n hx hb dX2_sum_72 rfl (hl.at rfl) ?_
    refine lv_iload_n hx hb dX2_sum_73 rfl (hl.at rfl) ?_
    refine lv_iadd hx hb dX2_sum_74 ?_
    exact w_iret C hw hr hlocks dX2_sum_75 ⟨rfl, rfl, rfl, rfl, rfl, by have e : opc w = 0 := e16.symm; clear e16; simp [sumS, e, *]; try rfl⟩
  by_cases q16_1 : x16 = 1
  · subst q16_1
    refine lv_tableIn (off := 60) (tgt := 76) hx hb dX2_sum_16 (by decide) (by decide) (by decide) (by decide) ?_
    refine lv_iload_n hx hb dX2_sum_76 rfl (hl.at rfl) ?_
    refine lv_iload_n hx hb dX2_sum_77 rfl (hl.at rfl) ?_
    refine lv_isub hx hb dX2_sum_78 ?_
    exact w_iret C hw hr hlocks dX2_sum_79 ⟨rfl, rfl, rfl, rfl, rfl, by have e : opc w = 1 := e16.symm; clear e16; simp [sumS, e, *]; try rfl⟩
  by_cases q16_2 : x16 = 2
  · subst q16_2
    refine lv_tableIn (off := 64) (tgt := 80) hx hb dX2_sum_16 (by decide) (by decide) (by decide) (by decide) ?_
    refine lv_iload_n hx hb dX2_sum_80 rfl (hl.at rfl) ?_
    refine lv_iload_n hx hb dX2_sum_81 rfl (hl.at rfl) ?_
    refine lv_iand hx hb dX2_sum_82 ?_
    exact w_iret C hw hr hlocks dX2_sum_83 ⟨rfl, rfl, rfl, rfl, rfl, by have e : opc w = 2 := e16.symm; clear e16; simp [sumS, e, *]; try rfl⟩
  by_cases q16_3 : x16 = 3
  · subst q16_3
    refine lv_tableIn (off := 68) (tgt := 84) hx hb dX2_sum_16 (by decide) (by decide) (by decide) (by decide) ?_
    refine lv_iload_n hx hb dX2_sum_84 rfl (hl.at rfl) ?_
    refine lv_iload_n hx hb dX2_sum_85 rfl (hl.at rfl) ?_
    refine lv_ior hx hb dX2_sum_86 ?_
    exact w_iret C hw hr hlocks dX2_sum_87 ⟨rfl, rfl, rfl, rfl, rfl, by have e : opc w = 3 := e16.symm; clear e16; simp [sumS, e, *]; try rfl⟩
  by_cases q16_4 : x16 = 4
  · subst q16_4
    refine lv_tableIn (off := 72) (tgt := 88) hx hb dX2_sum_16 (by decide) (by decide) (by decide) (by decide) ?_
    refine lv_iload_n hx hb dX2_sum_88 rfl (hl.at rfl) ?_
    refine lv_iload_n hx hb dX2_sum_89 rfl (hl.at rfl) ?_
    refine lv_ixor hx hb dX2_sum_90 ?_
    exact w_iret C hw hr hlocks dX2_sum_91 ⟨rfl, rfl, rfl, rfl, rfl, by have e : opc w = 4 := e16.symm; clear e16; simp [sumS, e, *]; try rfl⟩
  by_cases q16_5 : x16 = 5
  · subst q16_5
    refine lv_tableIn (off := 76) (tgt := 92) hx hb dX2_sum_16 (by decide) (by decide) (by decide) (by decide) ?_
    refine lv_iload_n hx hb dX2_sum_92 rfl (hl.at rfl) ?_
    refine lv_iload_n hx hb dX2_sum_93 rfl (hl.at rfl) ?_
    refine lv_imul hx hb dX2_sum_94 ?_
    exact w_iret C hw hr hlocks dX2_sum_95 ⟨rfl, rfl, rfl, rfl, rfl, by have e : opc w = 5 := e16.symm; clear e16; simp [sumS, e, *]; try rfl⟩
  by_cases q16_6 : x16 = 6
  · subst q16_6
    refine lv_tableIn (off := 80) (tgt := 96) hx hb dX2_sum_16 (by decide) (by decide) (by decide) (by decide) ?_
    refine lv_iload_n hx hb dX2_sum_96 rfl (hl.at rfl) ?_
    refine lv_iload_n hx hb dX2_sum_97 rfl (hl.at rfl) ?_
    refine lv_icmp_ge (tgt := 105) hx hb dX2_sum_98 (by decide) (fun h98 => ?_) (fun h98 => ?_)
    · refine lv_iconst (v := 0) hx hb dX2_sum_105 (by decide) ?_
      exact w_iret C hw hr hlocks dX2_sum_106 ⟨rfl, rfl, rfl, rfl, rfl, by have e : opc w = 6 := e16.symm; clear e16; simp [sumS, e, *]; try rfl⟩
    · refine lv_iconst (v := 1) hx hb dX2_sum_101 (by decide) ?_
      refine lv_goto (tgt := 106) hx hb dX2_sum_102 (by decide) ?_
      exact w_iret C hw hr hlocks dX2_sum_106 ⟨rfl, rfl, rfl, rfl, rfl, by have e : opc w = 6 := e16.symm; clear e16; simp [sumS, e, *]; try rfl⟩
  by_cases q16_7 : x16 = 7
  · subst q16_7
    refine lv_tableIn (off := 91) (tgt := 107) hx hb dX2_sum_16 (by decide) (by decide) (by decide) (by decide) ?_
    refine lv_iload_n hx hb dX2_sum_107 rfl (hl.at rfl) ?_
    refine lv_iload_n hx hb dX2_sum_108 rfl (hl.at rfl) ?_
    refine lv_bipush (v := 31) hx hb dX2_sum_109 (by decide) ?_
    refine lv_iand hx hb dX2_sum_111 ?_
    refine lv_ishl hx hb dX2_sum_112 ?_
    exact w_iret C hw hr hlocks dX2_sum_113 ⟨rfl, rfl, rfl, rfl, rfl, by have e : opc w = 7 := e16.symm; clear e16; simp [sumS, e, *]; try rfl⟩
  by_cases q16_8 : x16 = 8
  · subst q16_8
    refine lv_tableIn (off := 98) (tgt := 114) hx hb dX2_sum_16 (by decide) (by decide) (by decide) (by decide) ?_
    refine lv_iload_n hx hb dX2_sum_114 rfl (hl.at rfl) ?_
    refine lv_iload_n hx hb dX2_sum_115 rfl (hl.at rfl) ?_
    refine lv_bipush (v := 31) hx hb dX2_sum_116 (by decide) ?_
    refine lv_iand hx hb dX2_sum_118 ?_
    refine lv_iushr hx hb dX2_sum_119 rfl ?_
    exact w_iret C hw hr hlocks dX2_sum_120 ⟨rfl, rfl, rfl, rfl, rfl, by have e : opc w = 8 := e16.symm; clear e16; simp [sumS, e, *]; try rfl⟩
  by_cases q16_9 : x16 = 9
  · subst q16_9
    refine lv_tableIn (off := 105) (tgt := 121) hx hb dX2_sum_16 (by decide) (by decide) (by decide) (by decide) ?_
    refine lv_iload_n hx hb dX2_sum_121 rfl (hl.at rfl) ?_
    refine lv_iload_n hx hb dX2_sum_122 rfl (hl.at rfl) ?_
    refine w_callS C hN hw (c_X2_number l sz0 D cs X _ Y w) ⟨(Nat.le_of_ble_eq_true rfl), (Nat.le_of_ble_eq_true rfl), mw377, mw19, cy_X2_number⟩ mw375 mw376 rfl hl.1.1 rfl (Nat.le_of_ble_eq_true rfl) dX2_sum_123 ⟨Nat.le_of_ble_eq_true rfl, Nat.le_of_ble_eq_true rfl⟩ (fun X' Z' Y' v k n H locs hp hw => ?_)
    obtain ⟨rfl, rfl, rfl, rfl, rfl, rfl⟩ := hp
    refine lv_iadd hx hb dX2_sum_126 ?_
    exact w_iret C hw hr hlocks dX2_sum_127 ⟨rfl, rfl, rfl, rfl, rfl, by have e : opc w = 9 := e16.symm; clear e16; simp [sumS, e, *]; try rfl⟩
  refine lv_tableOut (tgt := 128) hx hb dX2_sum_16 (by have := lv_neT q16_0 (by decide : (0 : Int32).toInt = 0); have := lv_neT q16_1 (by decide : (1 : Int32).toInt = 1); have := lv_neT q16_2 (by decide : (2 : Int32).toInt = 2); have := lv_neT q16_3 (by decide : (3 : Int32).toInt = 3); have := lv_neT q16_4 (by decide : (4 : Int32).toInt = 4); have := lv_neT q16_5 (by decide : (5 : Int32).toInt = 5); have := lv_neT q16_6 (by decide : (6 : Int32).toInt = 6); have := lv_neT q16_7 (by decide : (7 : Int32).toInt = 7); have := lv_neT q16_8 (by decide : (8 : Int32).toInt = 8); have := lv_neT q16_9 (by decide : (9 : Int32).toInt = 9); omega) (by decide) ?_
  refine lv_iload_n hx hb dX2_sum_128 rfl (hl.at rfl) ?_
  refine w_callS C hN hw (c_X2_number l sz0 D cs X _ Y w) ⟨(Nat.le_of_ble_eq_true rfl), (Nat.le_of_ble_eq_true rfl), mw377, mw19, cy_X2_number⟩ mw375 mw376 rfl hl.1.1 rfl (Nat.le_of_ble_eq_true rfl) dX2_sum_129 ⟨Nat.le_of_ble_eq_true rfl, Nat.le_of_ble_eq_true rfl⟩ (fun X' Z' Y' v k n H locs hp hw => ?_)
  obtain ⟨rfl, rfl, rfl, rfl, rfl, rfl⟩ := hp
  refine lv_bipush (v := 15) hx hb dX2_sum_132 (by decide) ?_
  refine lv_ishl hx hb dX2_sum_134 ?_
  exact w_iret C hw hr hlocks dX2_sum_135 ⟨rfl, rfl, rfl, rfl, rfl, by have e : opc w = x16 := e16.symm; clear e16; simp [sumS, e, *]⟩
