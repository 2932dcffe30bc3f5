/-! ===== GuestHouseModel$Bare: small methods ===== -/
def stR (n : Nat) (f : Nat → Int32) (z : Nat → Int32) : Nat → Int32 := fun k => if k < n then f k else z k
theorem stR_0 {f z : Nat → Int32} : stR 0 f z = z := rfl
theorem stR_s {f z : Nat → Int32} {j : Nat} : upd (stR j f z) j (f j) = stR (j + 1) f z := by
  funext k
  unfold stR
  by_cases h1 : k = j
  · subst h1; rw [upd_s, if_pos (by omega)]
  · rw [upd_n h1]
    by_cases h2 : k < j
    · rw [if_pos h2, if_pos (by omega)]
    · rw [if_neg h2, if_neg (by omega)]
theorem nz01 {v : Int32} (h : v = 0 ∨ v = 1) : narrow .boolean (.int v) = .int v := by
  rcases h with rfl | rfl <;> rfl
def bwv (a b : Int32) : Int32 := if b + (-2147483648) ≤ a + (-2147483648) then 0 else 1
theorem bwv_01 (a b : Int32) : bwv a b = 0 ∨ bwv a b = 1 := by unfold bwv; split <;> simp
theorem bwv_in {a b : Int32} (hb : ¬ b < 0) : bwv a b = if a < 0 then 0 else if b ≤ a then 0 else 1 := by
  unfold bwv
  by_cases c : a < 0
  · rw [if_pos c, if_pos ((blw hb).mpr (Or.inl c))]
  · rw [if_neg c]
    by_cases d : b ≤ a
    · rw [if_pos d, if_pos ((blw hb).mpr (Or.inr d))]
    · rw [if_neg d, if_neg (fun q => ((blw hb).mp q).elim c d)]
theorem m64l (n : Nat) : 64 * nI n = nI (64 * n) := by rw [show 64 * nI n = nI 64 * nI n from rfl, pk_mul]
theorem bwv_has {F : Nat} {a : Int32} (hF : F ≤ 64) : bwv a (64 * nI F) = hasWv (nI F) a := by
  rw [bwv_in (by rw [m64l]; exact nI_pos (by omega))]
  rfl
theorem hs_0 (x : Int32) : (if (x >>> ((0 : Int32) &&& 31)) &&& 1 = 1 then (1 : Int32) else 0) = if x &&& 1 = 0 then 0 else 1 := by
  rw [show (x >>> ((0 : Int32) &&& 31)) &&& 1 = _ from hasSt (k := 0) (by decide) k_0 (by decide)]; split <;> rfl
theorem hs_8 (x : Int32) : (if (x >>> ((8 : Int32) &&& 31)) &&& 1 = 1 then (1 : Int32) else 0) = if x &&& 256 = 0 then 0 else 1 := by
  rw [show (x >>> ((8 : Int32) &&& 31)) &&& 1 = _ from hasSt (k := 8) (by decide) k_8 (by decide)]; split <;> rfl
theorem hs_9 (x : Int32) : (if (x >>> ((9 : Int32) &&& 31)) &&& 1 = 1 then (1 : Int32) else 0) = if x &&& 512 = 0 then 0 else 1 := by
  rw [show (x >>> ((9 : Int32) &&& 31)) &&& 1 = _ from hasSt (k := 9) (by decide) k_9 (by decide)]; split <;> rfl
theorem hs_10 (x : Int32) : (if (x >>> ((10 : Int32) &&& 31)) &&& 1 = 1 then (1 : Int32) else 0) = if x &&& 1024 = 0 then 0 else 1 := by
  rw [show (x >>> ((10 : Int32) &&& 31)) &&& 1 = _ from hasSt (k := 10) (by decide) k_10 (by decide)]; split <;> rfl

set_option maxHeartbeats 4000000 in
set_option maxRecDepth 100000 in
theorem c_X5_isBelow (l : Launch) (sz0 : Nat) (D : va_G) (cs : Nat → ClassId) (X : Sh) (Z : ZT) (Y : va_W) (a b : Int32) : Ctr l yX5_isBelow (wsM yX5_isBelow cX5_isBelow 2 (some .boolean)) ({ frames := 0, cells := 0, slots := 0, locals := 0 } : Room) sz0 D cs [.int a, .int b] X Z Y (Pz X Y (fun Z' v => Z = Z' ∧ v = some (.int (bwv a b)))) := by
  refine Ctr.ofW (by decide +kernel) (by intro v hv; simp at hv; rcases hv with rfl | rfl <;> rfl) (Nat.le_of_ble_eq_true rfl) ?_
  intro p e s m below meth c ls C hr hlocks hname hl hN hw
  obtain ⟨hx, hb, hml, hown, hts⟩ := id C
  refine lv_iload_n hx hb dX5_isBelow_0 rfl (hl.at rfl) ?_
  refine lv_ldc (v := -2147483648) hx hb hown (hts _ mw250) dX5_isBelow_1 ?_
  refine lv_iadd hx hb dX5_isBelow_3 ?_
  refine lv_iload_n hx hb dX5_isBelow_4 rfl (hl.at rfl) ?_
  refine lv_ldc (v := -2147483648) hx hb hown (hts _ mw250) dX5_isBelow_5 ?_
  refine lv_iadd hx hb dX5_isBelow_7 ?_
  refine lv_icmp_ge (tgt := 15) hx hb dX5_isBelow_8 (by decide) (fun h8 => ?_) (fun h8 => ?_)
  · refine lv_iconst (v := 0) hx hb dX5_isBelow_15 (by decide) ?_
    exact w_zret C hw hr hlocks dX5_isBelow_16 (by decide) ⟨rfl, rfl, rfl, rfl, rfl, by simp [bwv, *]⟩
  · refine lv_iconst (v := 1) hx hb dX5_isBelow_11 (by decide) ?_
    refine lv_goto (tgt := 16) hx hb dX5_isBelow_12 (by decide) ?_
    exact w_zret C hw hr hlocks dX5_isBelow_16 (by decide) ⟨rfl, rfl, rfl, rfl, rfl, by simp [bwv, *]⟩

set_option maxHeartbeats 4000000 in
set_option maxRecDepth 100000 in
theorem c_X4_isMemory (l : Launch) (sz0 : Nat) (D : va_G) (cs : Nat → ClassId) (X : Sh) (Z : ZT) (Y : va_W) (i : Nat) (hB : BI X i) (a : Int32) : Ctr l yX4_isMemory (wsM yX4_isMemory cX4_isMemory 2 (some .boolean)) ({ frames := 1, cells := 0, slots := 0, locals := 21 } : Room) sz0 D cs [.ref (X.1 40 i), .int a] X Z Y (Pz X Y (fun Z' v => Z = Z' ∧ v = some (.int (bwv a (64 * Z 40 i 0))))) := by
  refine Ctr.ofW (by decide +kernel) (by intro v hv; simp at hv; rcases hv with rfl | rfl <;> rfl) (Nat.le_of_ble_eq_true rfl) ?_
  intro p e s m below meth c ls C hr hlocks hname hl hN hw
  obtain ⟨hx, hb, hml, hown, hts⟩ := id C
  refine lv_iload_n hx hb dX4_isMemory_0 rfl (hl.at rfl) ?_
  refine lv_bipush (v := 64) hx hb dX4_isMemory_1 (by decide) ?_
  refine lv_aload_n hx hb dX4_isMemory_3 rfl (hl.at rfl) ?_
  refine w_get C hw (c0 := 40) (i0 := i) rfl inA4 0 (by decide) mw161 rfl dX4_isMemory_4 (hB 40 (by decide) (by decide)) rfl rfl rfl ?_
  refine lv_imul hx hb dX4_isMemory_7 ?_
  refine w_callSN C hN hw (c_X5_isBelow l sz0 D cs X _ Y _ _) ⟨(Nat.le_of_ble_eq_true rfl), (Nat.le_of_ble_eq_true rfl), mw249, mw6, cy_X5_isBelow⟩ mw660 mw248 rfl hl.1.1 rfl (Nat.le_of_ble_eq_true rfl) dX4_isMemory_8 ⟨Nat.le_of_ble_eq_true rfl, Nat.le_of_ble_eq_true rfl⟩ (fun X' Z' Y' v k n H locs hp hw => ?_)
  obtain ⟨rfl, rfl, rfl, rfl, rfl, rfl⟩ := hp
  exact w_zret C hw hr hlocks dX4_isMemory_11 (nz01 (bwv_01 _ _)) ⟨rfl, rfl, rfl, rfl, rfl, rfl⟩

set_option maxHeartbeats 4000000 in
set_option maxRecDepth 100000 in
theorem c_X4_hasStatus (l : Launch) (sz0 : Nat) (D : va_G) (cs : Nat → ClassId) (X : Sh) (Z : ZT) (Y : va_W) (i : Nat) (hB : BI X i) (a : Int32) : Ctr l yX4_hasStatus (wsM yX4_hasStatus cX4_hasStatus 2 (some .boolean)) ({ frames := 0, cells := 0, slots := 0, locals := 0 } : Room) sz0 D cs [.ref (X.1 40 i), .int a] X Z Y (Pz X Y (fun Z' v => Z = Z' ∧ v = some (.int (if (Z 44 i 0 >>> (a &&& 31)) &&& 1 = 1 then 1 else 0)))) := by
  refine Ctr.ofW (by decide +kernel) (by intro v hv; simp at hv; rcases hv with rfl | rfl <;> rfl) (Nat.le_of_ble_eq_true rfl) ?_
  intro p e s m below meth c ls C hr hlocks hname hl hN hw
  obtain ⟨hx, hb, hml, hown, hts⟩ := id C
  refine lv_aload_n hx hb dX4_hasStatus_0 rfl (hl.at rfl) ?_
  refine w_get C hw (c0 := 40) (i0 := i) rfl inA4 5 (by decide) mw78 rfl dX4_hasStatus_1 (hB 40 (by decide) (by decide)) rfl rfl rfl ?_
  refine lv_iconst (v := 0) hx hb dX4_hasStatus_4 (by decide) ?_
  refine w_ild C hw (c0 := 44) (i0 := i) dX4_hasStatus_5 (hB 44 (by decide) (by decide)) rfl rfl (vpk (by decide)) (j := 0) (by decide) ?_
  refine lv_iload_n hx hb dX4_hasStatus_6 rfl (hl.at rfl) ?_
  refine lv_ishr hx hb dX4_hasStatus_7 ?_
  refine lv_iconst (v := 1) hx hb dX4_hasStatus_8 (by decide) ?_
  refine lv_iand hx hb dX4_hasStatus_9 ?_
  refine lv_iconst (v := 1) hx hb dX4_hasStatus_10 (by decide) ?_
  refine lv_icmp_ne (tgt := 18) hx hb dX4_hasStatus_11 (by decide) (fun h11 => ?_) (fun h11 => ?_)
  · refine lv_iconst (v := 0) hx hb dX4_hasStatus_18 (by decide) ?_
    exact w_zret C hw hr hlocks dX4_hasStatus_19 (by decide) ⟨rfl, rfl, rfl, rfl, rfl, by simp [h11]⟩
  · refine lv_iconst (v := 1) hx hb dX4_hasStatus_14 (by decide) ?_
    refine lv_goto (tgt := 19) hx hb dX4_hasStatus_15 (by decide) ?_
    exact w_zret C hw hr hlocks dX4_hasStatus_19 (by decide) ⟨rfl, rfl, rfl, rfl, rfl, by simp [h11]⟩

set_option maxHeartbeats 4000000 in
set_option maxRecDepth 100000 in
theorem c_X4_isTimeUp (l : Launch) (sz0 : Nat) (D : va_G) (cs : Nat → ClassId) (X : Sh) (Z : ZT) (Y : va_W) (i : Nat) (hB : BI X i) : Ctr l yX4_isTimeUp (wsM yX4_isTimeUp cX4_isTimeUp 1 (some .boolean)) ({ frames := 0, cells := 0, slots := 0, locals := 0 } : Room) sz0 D cs [.ref (X.1 40 i)] X Z Y (Pz X Y (fun Z' v => Z = Z' ∧ v = some (.int (timeUpv (Z 44 i 8) (Z 44 i 6))))) := by
  refine Ctr.ofW (by decide +kernel) (by intro v hv; simp at hv; rcases hv with rfl <;> rfl) (Nat.le_of_ble_eq_true rfl) ?_
  intro p e s m below meth c ls C hr hlocks hname hl hN hw
  obtain ⟨hx, hb, hml, hown, hts⟩ := id C
  refine lv_aload_n hx hb dX4_isTimeUp_0 rfl (hl.at rfl) ?_
  refine w_get C hw (c0 := 40) (i0 := i) rfl inA4 5 (by decide) mw78 rfl dX4_isTimeUp_1 (hB 40 (by decide) (by decide)) rfl rfl rfl ?_
  refine lv_bipush (v := 6) hx hb dX4_isTimeUp_4 (by decide) ?_
  refine w_ild C hw (c0 := 44) (i0 := i) dX4_isTimeUp_6 (hB 44 (by decide) (by decide)) rfl rfl (vpk (by decide)) (j := 6) (by decide) ?_
  refine lv_if_eq (tgt := 32) hx hb dX4_isTimeUp_7 (by decide) (fun h7 => ?_) (fun h7 => ?_)
  · refine lv_iconst (v := 0) hx hb dX4_isTimeUp_32 (by decide) ?_
    exact w_zret C hw hr hlocks dX4_isTimeUp_33 (by decide) ⟨rfl, rfl, rfl, rfl, rfl, by simp [timeUpv, *]⟩
  · refine lv_aload_n hx hb dX4_isTimeUp_10 rfl (hl.at rfl) ?_
    refine w_get C hw (c0 := 40) (i0 := i) rfl inA4 5 (by decide) mw78 rfl dX4_isTimeUp_11 (hB 40 (by decide) (by decide)) rfl rfl rfl ?_
    refine lv_bipush (v := 8) hx hb dX4_isTimeUp_14 (by decide) ?_
    refine w_ild C hw (c0 := 44) (i0 := i) dX4_isTimeUp_16 (hB 44 (by decide) (by decide)) rfl rfl (vpk (by decide)) (j := 8) (by decide) ?_
    refine lv_aload_n hx hb dX4_isTimeUp_17 rfl (hl.at rfl) ?_
    refine w_get C hw (c0 := 40) (i0 := i) rfl inA4 5 (by decide) mw78 rfl dX4_isTimeUp_18 (hB 40 (by decide) (by decide)) rfl rfl rfl ?_
    refine lv_bipush (v := 6) hx hb dX4_isTimeUp_21 (by decide) ?_
    refine w_ild C hw (c0 := 44) (i0 := i) dX4_isTimeUp_23 (hB 44 (by decide) (by decide)) rfl rfl (vpk (by decide)) (j := 6) (by decide) ?_
    refine lv_isub hx hb dX4_isTimeUp_24 ?_
    refine lv_if_lt (tgt := 32) hx hb dX4_isTimeUp_25 (by decide) (fun h25 => ?_) (fun h25 => ?_)
    · refine lv_iconst (v := 0) hx hb dX4_isTimeUp_32 (by decide) ?_
      exact w_zret C hw hr hlocks dX4_isTimeUp_33 (by decide) ⟨rfl, rfl, rfl, rfl, rfl, by simp [timeUpv, *]⟩
    · refine lv_iconst (v := 1) hx hb dX4_isTimeUp_28 (by decide) ?_
      refine lv_goto (tgt := 33) hx hb dX4_isTimeUp_29 (by decide) ?_
      exact w_zret C hw hr hlocks dX4_isTimeUp_33 (by decide) ⟨rfl, rfl, rfl, rfl, rfl, by simp [timeUpv, *]⟩

set_option maxHeartbeats 4000000 in
set_option maxRecDepth 100000 in
theorem c_X4_fail (l : Launch) (sz0 : Nat) (D : va_G) (cs : Nat → ClassId) (X : Sh) (Z : ZT) (Y : va_W) (i : Nat) (hB : BI X i) (a b : Int32) : Ctr l yX4_fail (wsM yX4_fail cX4_fail 3 none) ({ frames := 0, cells := 0, slots := 0, locals := 0 } : Room) sz0 D cs [.ref (X.1 40 i), .int a, .int b] X Z Y (Pz X Y (fun Z' v => Z' = upr Z 40 i (upd (upd (Z 40 i) 17 a) 18 b) ∧ v = none)) := by
  refine Ctr.ofW (by decide +kernel) (by intro v hv; simp at hv; rcases hv with rfl | rfl | rfl <;> rfl) (Nat.le_of_ble_eq_true rfl) ?_
  intro p e s m below meth c ls C hr hlocks hname hl hN hw
  obtain ⟨hx, hb, hml, hown, hts⟩ := id C
  refine lv_aload_n hx hb dX4_fail_0 rfl (hl.at rfl) ?_
  refine lv_iload_n hx hb dX4_fail_1 rfl (hl.at rfl) ?_
  refine w_put C hw (c0 := 40) (i0 := i) rfl inA4 tyX4_ok nmX4 17 (by decide) mw457 rfl rfl rfl dX4_fail_2 (hB 40 (by decide) (by decide)) rfl rfl rfl rfl (Nat.le_of_ble_eq_true rfl) rfl (fun H locs hw => ?_)
  refine lv_aload_n hx hb dX4_fail_5 rfl (hl.at rfl) ?_
  refine lv_iload_n hx hb dX4_fail_6 rfl (hl.at rfl) ?_
  refine w_put C hw (c0 := 40) (i0 := i) rfl inA4 tyX4_ok nmX4 18 (by decide) mw458 rfl rfl rfl dX4_fail_7 (hB 40 (by decide) (by decide)) rfl rfl rfl rfl (Nat.le_of_ble_eq_true rfl) rfl (fun H locs hw => ?_)
  exact w_vret C hw hr hlocks dX4_fail_10 ⟨rfl, rfl, rfl, rfl, by rw [upr_uu, upr_s], rfl⟩

set_option maxHeartbeats 4000000 in
set_option maxRecDepth 100000 in
theorem c_X4_tableWord (l : Launch) (sz0 : Nat) (D : va_G) (cs : Nat → ClassId) (X : Sh) (Z : ZT) (Y : va_W) (i : Nat) (hB : BI X i) (a : Int32) : Ctr l yX4_tableWord (wsM yX4_tableWord cX4_tableWord 2 (some .int)) ({ frames := 0, cells := 0, slots := 0, locals := 0 } : Room) sz0 D cs [.ref (X.1 40 i), .int a] X Z Y (Pz X Y (fun Z' v => Z = Z' ∧ v = some (.int (64 * (Z 44 i 5 &&& 63) + a)))) := by
  refine Ctr.ofW (by decide +kernel) (by intro v hv; simp at hv; rcases hv with rfl | rfl <;> rfl) (Nat.le_of_ble_eq_true rfl) ?_
  intro p e s m below meth c ls C hr hlocks hname hl hN hw
  obtain ⟨hx, hb, hml, hown, hts⟩ := id C
  refine lv_bipush (v := 64) hx hb dX4_tableWord_0 (by decide) ?_
  refine lv_aload_n hx hb dX4_tableWord_2 rfl (hl.at rfl) ?_
  refine w_get C hw (c0 := 40) (i0 := i) rfl inA4 5 (by decide) mw78 rfl dX4_tableWord_3 (hB 40 (by decide) (by decide)) rfl rfl rfl ?_
  refine lv_iconst (v := 5) hx hb dX4_tableWord_6 (by decide) ?_
  refine w_ild C hw (c0 := 44) (i0 := i) dX4_tableWord_7 (hB 44 (by decide) (by decide)) rfl rfl (vpk (by decide)) (j := 5) (by decide) ?_
  refine lv_bipush (v := 63) hx hb dX4_tableWord_8 (by decide) ?_
  refine lv_iand hx hb dX4_tableWord_10 ?_
  refine lv_imul hx hb dX4_tableWord_11 ?_
  refine lv_iload_n hx hb dX4_tableWord_12 rfl (hl.at rfl) ?_
  refine lv_iadd hx hb dX4_tableWord_13 ?_
  exact w_iret C hw hr hlocks dX4_tableWord_14 ⟨rfl, rfl, rfl, rfl, rfl, rfl⟩

set_option maxHeartbeats 4000000 in
set_option maxRecDepth 100000 in
theorem c_X4_made (l : Launch) (sz0 : Nat) (D : va_G) (cs : Nat → ClassId) (X : Sh) (Z : ZT) (Y : va_W) (o a b n : Int32) : Ctr l yX4_made (wsM yX4_made cX4_made 4 (some .int)) ({ frames := 0, cells := 0, slots := 0, locals := 0 } : Room) sz0 D cs [.int o, .int a, .int b, .int n] X Z Y (Pz X Y (fun Z' v => Z = Z' ∧ v = some (.int (sumS o a b n)))) := by
  refine Ctr.ofW (by decide +kernel) (by intro v hv; simp at hv; rcases hv with rfl | rfl | rfl | rfl <;> rfl) (Nat.le_of_ble_eq_true rfl) ?_
  intro p e s m below meth c ls C hr hlocks hname hl hN hw
  obtain ⟨hx, hb, hml, hown, hts⟩ := id C
  refine lv_iload_n hx hb dX4_made_0 rfl (hl.at rfl) ?_
  refine lv_topi (fun x1 e1 => ?_)
  by_cases q1_0 : x1 = 0
  · subst q1_0
    refine lv_tableIn (off := 55) (tgt := 56) hx hb dX4_made_1 (by decide) (by decide) (by decide) (by decide) ?_
    refine lv_iload_n hx hb dX4_made_56 rfl (hl.at rfl) ?_
    refine lv_iload_n hx hb dX4_made_57 rfl (hl.at rfl) ?_
    refine lv_iadd hx hb dX4_made_58 ?_
    exact w_iret C hw hr hlocks dX4_made_59 ⟨rfl, rfl, rfl, rfl, rfl, by subst e1; simp [sumS, *]; try rfl⟩
  by_cases q1_1 : x1 = 1
  · subst q1_1
    refine lv_tableIn (off := 59) (tgt := 60) hx hb dX4_made_1 (by decide) (by decide) (by decide) (by decide) ?_
    refine lv_iload_n hx hb dX4_made_60 rfl (hl.at rfl) ?_
    refine lv_iload_n hx hb dX4_made_61 rfl (hl.at rfl) ?_
    refine lv_isub hx hb dX4_made_62 ?_
    exact w_iret C hw hr hlocks dX4_made_63 ⟨rfl, rfl, rfl, rfl, rfl, by subst e1; simp [sumS, *]; try rfl⟩
  by_cases q1_2 : x1 = 2
  · subst q1_2
    refine lv_tableIn (off := 63) (tgt := 64) hx hb dX4_made_1 (by decide) (by decide) (by decide) (by decide) ?_
    refine lv_iload_n hx hb dX4_made_64 rfl (hl.at rfl) ?_
    refine lv_iload_n hx hb dX4_made_65 rfl (hl.at rfl) ?_
    refine lv_iand hx hb dX4_made_66 ?_
    exact w_iret C hw hr hlocks dX4_made_67 ⟨rfl, rfl, rfl, rfl, rfl, by subst e1; simp [sumS, *]; try rfl⟩
  by_cases q1_3 : x1 = 3
  · subst q1_3
    refine lv_tableIn (off := 67) (tgt := 68) hx hb dX4_made_1 (by decide) (by decide) (by decide) (by decide) ?_
    refine lv_iload_n hx hb dX4_made_68 rfl (hl.at rfl) ?_
    refine lv_iload_n hx hb dX4_made_69 rfl (hl.at rfl) ?_
    refine lv_ior hx hb dX4_made_70 ?_
    exact w_iret C hw hr hlocks dX4_made_71 ⟨rfl, rfl, rfl, rfl, rfl, by subst e1; simp [sumS, *]; try rfl⟩
  by_cases q1_4 : x1 = 4
  · subst q1_4
    refine lv_tableIn (off := 71) (tgt := 72) hx hb dX4_made_1 (by decide) (by decide) (by decide) (by decide) ?_
    refine lv_iload_n hx hb dX4_made_72 rfl (hl.at rfl) ?_
    refine lv_iload_n hx hb dX4_made_73 rfl (hl.at rfl) ?_
    refine lv_ixor hx hb dX4_made_74 ?_
    exact w_iret C hw hr hlocks dX4_made_75 ⟨rfl, rfl, rfl, rfl, rfl, by subst e1; simp [sumS, *]; try rfl⟩
  by_cases q1_5 : x1 = 5
  · subst q1_5
    refine lv_tableIn (off := 75) (tgt := 76) hx hb dX4_made_1 (by decide) (by decide) (by decide) (by decide) ?_
    refine lv_iload_n hx hb dX4_made_76 rfl (hl.at rfl) ?_
    refine lv_iload_n hx hb dX4_made_77 rfl (hl.at rfl) ?_
    refine lv_imul hx hb dX4_made_78 ?_
    exact w_iret C hw hr hlocks dX4_made_79 ⟨rfl, rfl, rfl, rfl, rfl, by subst e1; simp [sumS, *]; try rfl⟩
  by_cases q1_6 : x1 = 6
  · subst q1_6
    refine lv_tableIn (off := 79) (tgt := 80) hx hb dX4_made_1 (by decide) (by decide) (by decide) (by decide) ?_
    refine lv_iload_n hx hb dX4_made_80 rfl (hl.at rfl) ?_
    refine lv_iload_n hx hb dX4_made_81 rfl (hl.at rfl) ?_
    refine lv_icmp_ge (tgt := 89) hx hb dX4_made_82 (by decide) (fun h82 => ?_) (fun h82 => ?_)
    · refine lv_iconst (v := 0) hx hb dX4_made_89 (by decide) ?_
      exact w_iret C hw hr hlocks dX4_made_90 ⟨rfl, rfl, rfl, rfl, rfl, by subst e1; simp [sumS, *]; try rfl⟩
    · refine lv_iconst (v := 1) hx hb dX4_made_85 (by decide) ?_
      refine lv_goto (tgt := 90) hx hb dX4_made_86 (by decide) ?_
      exact w_iret C hw hr hlocks dX4_made_90 ⟨rfl, rfl, rfl, rfl, rfl, by subst e1; simp [sumS, *]; try rfl⟩
  by_cases q1_7 : x1 = 7
  · subst q1_7
    refine lv_tableIn (off := 90) (tgt := 91) hx hb dX4_made_1 (by decide) (by decide) (by decide) (by decide) ?_
    refine lv_iload_n hx hb dX4_made_91 rfl (hl.at rfl) ?_
    refine lv_iload_n hx hb dX4_made_92 rfl (hl.at rfl) ?_
    refine lv_bipush (v := 31) hx hb dX4_made_93 (by decide) ?_
    refine lv_iand hx hb dX4_made_95 ?_
    refine lv_ishl hx hb dX4_made_96 ?_
    exact w_iret C hw hr hlocks dX4_made_97 ⟨rfl, rfl, rfl, rfl, rfl, by subst e1; simp [sumS, *]; try rfl⟩
  by_cases q1_8 : x1 = 8
  · subst q1_8
    refine lv_tableIn (off := 97) (tgt := 98) hx hb dX4_made_1 (by decide) (by decide) (by decide) (by decide) ?_
    refine lv_iload_n hx hb dX4_made_98 rfl (hl.at rfl) ?_
    refine lv_iload_n hx hb dX4_made_99 rfl (hl.at rfl) ?_
    refine lv_bipush (v := 31) hx hb dX4_made_100 (by decide) ?_
    refine lv_iand hx hb dX4_made_102 ?_
    refine lv_iushr hx hb dX4_made_103 rfl ?_
    exact w_iret C hw hr hlocks dX4_made_104 ⟨rfl, rfl, rfl, rfl, rfl, by subst e1; simp [sumS, *]; try rfl⟩
  by_cases q1_9 : x1 = 9
  · subst q1_9
    refine lv_tableIn (off := 104) (tgt := 105) hx hb dX4_made_1 (by decide) (by decide) (by decide) (by decide) ?_
    refine lv_iload_n hx hb dX4_made_105 rfl (hl.at rfl) ?_
    refine lv_iload_n hx hb dX4_made_106 rfl (hl.at rfl) ?_
    refine lv_iadd hx hb dX4_made_107 ?_
    exact w_iret C hw hr hlocks dX4_made_108 ⟨rfl, rfl, rfl, rfl, rfl, by subst e1; simp [sumS, *]; try rfl⟩
  refine lv_tableOut (tgt := 109) hx hb dX4_made_1 (by have := lv_neT q1_0 (by decide : (0 : Int32).toInt = 0); have := lv_neT q1_1 (by decide : (1 : Int32).toInt = 1); have := lv_neT q1_2 (by decide : (2 : Int32).toInt = 2); have := lv_neT q1_3 (by decide : (3 : Int32).toInt = 3); have := lv_neT q1_4 (by decide : (4 : Int32).toInt = 4); have := lv_neT q1_5 (by decide : (5 : Int32).toInt = 5); have := lv_neT q1_6 (by decide : (6 : Int32).toInt = 6); have := lv_neT q1_7 (by decide : (7 : Int32).toInt = 7); have := lv_neT q1_8 (by decide : (8 : Int32).toInt = 8); have := lv_neT q1_9 (by decide : (9 : Int32).toInt = 9); omega) (by decide) ?_
  refine lv_iload_n hx hb dX4_made_109 rfl (hl.at rfl) ?_
  refine lv_bipush (v := 15) hx hb dX4_made_110 (by decide) ?_
  refine lv_ishl hx hb dX4_made_112 ?_
  exact w_iret C hw hr hlocks dX4_made_113 ⟨rfl, rfl, rfl, rfl, rfl, by subst e1; simp [sumS, *]⟩

set_option maxHeartbeats 4000000 in
set_option maxRecDepth 100000 in
theorem c_X4_goes (l : Launch) (sz0 : Nat) (D : va_G) (cs : Nat → ClassId) (X : Sh) (Z : ZT) (Y : va_W) (o a b : Int32) : Ctr l yX4_goes (wsM yX4_goes cX4_goes 3 (some .boolean)) ({ frames := 0, cells := 0, slots := 0, locals := 0 } : Room) sz0 D cs [.int o, .int a, .int b] X Z Y (Pz X Y (fun Z' v => Z = Z' ∧ v = some (.int (if o = 14 then (if a = b then 1 else 0) else if o = 15 then (if a = b then 0 else 1) else (if b ≤ a then 0 else 1))))) := by
  refine Ctr.ofW (by decide +kernel) (by intro v hv; simp at hv; rcases hv with rfl | rfl | rfl <;> rfl) (Nat.le_of_ble_eq_true rfl) ?_
  intro p e s m below meth c ls C hr hlocks hname hl hN hw
  obtain ⟨hx, hb, hml, hown, hts⟩ := id C
  refine lv_iload_n hx hb dX4_goes_0 rfl (hl.at rfl) ?_
  refine lv_bipush (v := 14) hx hb dX4_goes_1 (by decide) ?_
  refine lv_icmp_ne (tgt := 19) hx hb dX4_goes_3 (by decide) (fun h3 => ?_) (fun h3 => ?_)
  · refine lv_iload_n hx hb dX4_goes_19 rfl (hl.at rfl) ?_
    refine lv_bipush (v := 15) hx hb dX4_goes_20 (by decide) ?_
    refine lv_icmp_ne (tgt := 38) hx hb dX4_goes_22 (by decide) (fun h22 => ?_) (fun h22 => ?_)
    · refine lv_iload_n hx hb dX4_goes_38 rfl (hl.at rfl) ?_
      refine lv_iload_n hx hb dX4_goes_39 rfl (hl.at rfl) ?_
      refine lv_icmp_ge (tgt := 47) hx hb dX4_goes_40 (by decide) (fun h40 => ?_) (fun h40 => ?_)
      · refine lv_iconst (v := 0) hx hb dX4_goes_47 (by decide) ?_
        exact w_zret C hw hr hlocks dX4_goes_48 (by decide) ⟨rfl, rfl, rfl, rfl, rfl, by simp [*]⟩
      · refine lv_iconst (v := 1) hx hb dX4_goes_43 (by decide) ?_
        refine lv_goto (tgt := 48) hx hb dX4_goes_44 (by decide) ?_
        exact w_zret C hw hr hlocks dX4_goes_48 (by decide) ⟨rfl, rfl, rfl, rfl, rfl, by simp [*]⟩
    · refine lv_iload_n hx hb dX4_goes_25 rfl (hl.at rfl) ?_
      refine lv_iload_n hx hb dX4_goes_26 rfl (hl.at rfl) ?_
      refine lv_icmp_eq (tgt := 34) hx hb dX4_goes_27 (by decide) (fun h27 => ?_) (fun h27 => ?_)
      · refine lv_iconst (v := 0) hx hb dX4_goes_34 (by decide) ?_
        refine lv_goto (tgt := 48) hx hb dX4_goes_35 (by decide) ?_
        exact w_zret C hw hr hlocks dX4_goes_48 (by decide) ⟨rfl, rfl, rfl, rfl, rfl, by simp [*]⟩
      · refine lv_iconst (v := 1) hx hb dX4_goes_30 (by decide) ?_
        refine lv_goto (tgt := 48) hx hb dX4_goes_31 (by decide) ?_
        exact w_zret C hw hr hlocks dX4_goes_48 (by decide) ⟨rfl, rfl, rfl, rfl, rfl, by simp [*]⟩
  · refine lv_iload_n hx hb dX4_goes_6 rfl (hl.at rfl) ?_
    refine lv_iload_n hx hb dX4_goes_7 rfl (hl.at rfl) ?_
    refine lv_icmp_ne (tgt := 15) hx hb dX4_goes_8 (by decide) (fun h8 => ?_) (fun h8 => ?_)
    · refine lv_iconst (v := 0) hx hb dX4_goes_15 (by decide) ?_
      refine lv_goto (tgt := 48) hx hb dX4_goes_16 (by decide) ?_
      exact w_zret C hw hr hlocks dX4_goes_48 (by decide) ⟨rfl, rfl, rfl, rfl, rfl, by simp [*]⟩
    · refine lv_iconst (v := 1) hx hb dX4_goes_11 (by decide) ?_
      refine lv_goto (tgt := 48) hx hb dX4_goes_12 (by decide) ?_
      exact w_zret C hw hr hlocks dX4_goes_48 (by decide) ⟨rfl, rfl, rfl, rfl, rfl, by simp [*]⟩

set_option maxHeartbeats 4000000 in
set_option maxRecDepth 100000 in
theorem c_X4_forget (l : Launch) (sz0 : Nat) (D : va_G) (cs : Nat → ClassId) (X : Sh) (Z : ZT) (Y : va_W) (i : Nat) (hB : BI X i) : Ctr l yX4_forget (wsM yX4_forget cX4_forget 2 none) ({ frames := 0, cells := 0, slots := 0, locals := 0 } : Room) sz0 D cs [.ref (X.1 40 i)] X Z Y (Pz X Y (fun Z' v => Z' = upr Z 45 i (fillR 256 (-1) (Z 45 i)) ∧ v = none)) := by
  refine Ctr.ofW (by decide +kernel) (by intro v hv; simp at hv; rcases hv with rfl <;> rfl) (Nat.le_of_ble_eq_true rfl) ?_
  intro p e s m below meth c ls C hr hlocks hname hl hN hw
  obtain ⟨hx, hb, hml, hown, hts⟩ := id C
  refine lv_iconst (v := 0) hx hb dX4_forget_0 (by decide) ?_
  refine w_istore_n hx hb dX4_forget_1 rfl hl (Nat.le_of_ble_eq_true rfl) (fun ls hl => ?_)
  have loop : ∀ (d j : Nat), j + d = 256 → ∀ (H : Heap) (locs : List Loc) (ls : Array Slot), lo ls [some (.ref (X.1 40 i)), some (.int (nI j))] → Wd sz0 D cs s X (upr Z 45 i (stR j (fun _ => -1) (Z 45 i))) Y H locs → W p l e ({ frames := 0, cells := 0, slots := 0, locals := 0 } : Room) s m ([.ref (X.1 40 i)] : List Value).toArray below meth c H locs 0 0 (xQ below (CQ sz0 D cs (Pz X Y (fun Z' v => Z' = upr Z 45 i (fillR 256 (-1) (Z 45 i)) ∧ v = none))) ([.ref (X.1 40 i)] : List Value).toArray s (Asz sz0)) (F0 m 2 ls []) := by
    intro d
    induction d with
    | zero =>
      intro j hj H locs ls hl hw
      refine lv_iload_n hx hb dX4_forget_2 rfl (hl.at rfl) ?_
      refine lv_sipush (v := 256) hx hb dX4_forget_3 (by decide) ?_
      refine lv_icmp_ge (tgt := 22) hx hb dX4_forget_6 (by decide) (fun h6 => ?_) (fun h6 => ?_)
      · have hjn : j = 256 := by omega
        subst hjn
        exact w_vret C hw hr hlocks dX4_forget_22 ⟨rfl, rfl, rfl, rfl, rfl, rfl⟩
      · exact absurd (nI_le (show 256 ≤ j by omega) (by omega)) h6
    | succ d ih =>
      intro j hj H locs ls hl hw
      refine lv_iload_n hx hb dX4_forget_2 rfl (hl.at rfl) ?_
      refine lv_sipush (v := 256) hx hb dX4_forget_3 (by decide) ?_
      refine lv_icmp_ge (tgt := 22) hx hb dX4_forget_6 (by decide) (fun h6 => ?_) (fun h6 => ?_)
      · exact absurd h6 (nI_ge (show j < 256 by omega) (by decide))
      · refine lv_aload_n hx hb dX4_forget_9 rfl (hl.at rfl) ?_
        refine w_get C hw (c0 := 40) (i0 := i) rfl inA4 6 (by decide) mw79 rfl dX4_forget_10 (hB 40 (by decide) (by decide)) rfl rfl rfl ?_
        refine lv_iload_n hx hb dX4_forget_13 rfl (hl.at rfl) ?_
        refine lv_iconst (v := -1) hx hb dX4_forget_14 (by decide) ?_
        refine w_ist C hw (c0 := 45) (i0 := i) dX4_forget_15 (hB 45 (by decide) (by decide)) rfl (fun _ => rfl) (vp_in_nI (show j < 256 by omega) (by decide)) (nI_clamp (by omega)) (fun H locs hw => ?_)
        refine w_iinc hx hb dX4_forget_16 hl rfl rfl (fun ls hl => ?_)
        refine lv_goto (tgt := 2) hx hb dX4_forget_19 (by decide) ?_
        refine ih (j + 1) (by omega) H locs ls (by rw [← nI_1]; exact hl) ?_
        rw [upr_uu, upr_s, stR_s] at hw
        exact hw
  refine loop 256 0 (by decide) _ _ _ hl ?_
  rw [stR_0, upr_id]
  exact hw
