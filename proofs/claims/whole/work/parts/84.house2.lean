/-! ===== GuestHouse: the calls ===== -/
theorem setM_id {S : HS} {i : Nat} : setM S i (S.2.1 i) = S := by
  obtain ⟨F, m, n⟩ := S
  unfold setM
  show (F, upm m i (m i), n) = (F, m, n)
  have : upm m i (m i) = m := funext fun j => by
    by_cases e : j = i
    · subst e; exact upm_s
    · exact upm_n e
  rw [this]
theorem rdv_pek {Z : ZT} {i F : Nat} {g : GS} {x : Int32} (hF : F ≤ 64) (H : GR Z i F g) : rdv Z i F x = if hasWv (nI F) x = 0 then 0 else g 1 x.toNatClampNeg := by
  unfold rdv
  by_cases c : hasWv (nI F) x = 0
  · rw [if_pos c, if_pos c]
  · rw [if_neg c, if_neg c]
    obtain ⟨n, hn, rfl⟩ := hasWv_in hF c
    rw [nI_clamp (by omega)]
    exact H.2.1 n hn

set_option maxHeartbeats 4000000 in
set_option maxRecDepth 100000 in
theorem c_X3_state (l : Launch) (sz0 : Nat) (D : va_G) (cs : Nat → ClassId) (X : Sh) (Z : ZT) (Y : va_W) (S : HS) (hS : HOK S) (hCX : CRx X) (h gp : Nat) (hCR : CR X Z S h gp) (a : Int32)  : Ctr l yX3_state (wsM yX3_state cX3_state 3 (some .int)) ({ frames := 1, cells := 0, slots := 0, locals := 22 } : Room) sz0 D cs [.ref (X.1 0 0), .int a] X Z Y (CPo X Z Y gp S (staQ S a)) := by
  refine Ctr.ofW (by decide +kernel) (by intro v hv; simp at hv; rcases hv with rfl | rfl <;> rfl) (Nat.le_of_ble_eq_true rfl) ?_
  intro p e s m below meth c ls C hr hlocks hname hl hN hw
  obtain ⟨hx, hb, hml, hown, hts⟩ := id C
  have hX := hCX.1
  have hU := hCX.2.1.1
  refine lv_aload_n hx hb dX3_state_0 rfl (hl.at rfl) ?_
  refine lv_iload_n hx hb dX3_state_1 rfl (hl.at rfl) ?_
  refine w_callV C hN hw (c_X3_find l sz0 D cs X _ Y S hS hCX h gp hCR a) ⟨(Nat.le_of_ble_eq_true rfl), (Nat.le_of_ble_eq_true rfl), mw105, mw3, cy_X3_find⟩ mw102 mw103 mw104 (w_rec hw (c0 := 0) (i0 := 0) (hX 0 (by decide)) rfl rfl) rfl hl.1.1 rfl (Nat.le_of_ble_eq_true rfl) dX3_state_2 ⟨Nat.le_of_ble_eq_true rfl, Nat.le_of_ble_eq_true rfl⟩ (fun X' Z' Y' v k n H locs hp hw => ?_)
  obtain ⟨rfl, rfl, rfl, rfl, rfl, hp⟩ := hp
  rcases hp with ⟨i, hi, rfl, h0, rfl⟩ | ⟨hn, rfl⟩
  · have hL := hCR.gl hS hi h0
    obtain ⟨hmd, hh1, hF6, hR⟩ := (hCR.2.2 i hi).2 h0
    have hG := hCX.2.2 i hi hmd
    have hy := fnd_y hi h0
    have ecl : (nI i).toNatClampNeg = i := nI_clamp (by omega)
    have hF : S.1 i ≤ 64 := (hS.1 i hi).1
    refine w_astore_n hx hb dX3_state_5 rfl hl (Nat.le_of_ble_eq_true rfl) (fun ls hl => ?_)
    refine lv_aload_n hx hb dX3_state_6 rfl (hl.at rfl) ?_
    refine lv_ifnonnull (tgt := 15) hx hb dX3_state_7 (by decide) ?_
    refine lv_aload_n hx hb dX3_state_15 rfl (hl.at rfl) ?_
    refine w_getN C hN hw (c0 := 20) (i0 := i) rfl inA0 1 (by decide) mw640 rfl dX3_state_16 (hG 20 (by decide) (by decide)) rfl rfl rfl ?_
    exact w_iret C hw hr hlocks dX3_state_19 (CPo_z hCX hCR (fun _ _ _ => rfl) (by unfold staQ; rw [if_neg (by rw [hy]; decide), ecl, hR.1.1]))
  · refine w_astore_nN hx hb dX3_state_5 rfl hl (Nat.le_of_ble_eq_true rfl) (fun ls hl => ?_)
    refine lv_aload_nN hx hb dX3_state_6 rfl (hl.at rfl) ?_
    refine lv_ifnonnullN hx hb dX3_state_7 ?_
    refine lv_bipush (v := -14) hx hb dX3_state_10 (by decide) ?_
    refine lv_goto (tgt := 19) hx hb dX3_state_12 (by decide) ?_
    exact w_iret C hw hr hlocks dX3_state_19 (CPo_z hCX hCR (fun _ _ _ => rfl) (by unfold staQ; rw [if_pos hn]))

set_option maxHeartbeats 4000000 in
set_option maxRecDepth 100000 in
theorem c_X3_told (l : Launch) (sz0 : Nat) (D : va_G) (cs : Nat → ClassId) (X : Sh) (Z : ZT) (Y : va_W) (S : HS) (hS : HOK S) (hCX : CRx X) (h gp : Nat) (hCR : CR X Z S h gp) (a : Int32) (x : Int32)  : Ctr l yX3_told (wsM yX3_told cX3_told 4 (some .int)) ({ frames := 1, cells := 0, slots := 0, locals := 22 } : Room) sz0 D cs [.ref (X.1 0 0), .int a, .int x] X Z Y (CPo X Z Y gp S (tolQ S a x)) := by
  refine Ctr.ofW (by decide +kernel) (by intro v hv; simp at hv; rcases hv with rfl | rfl | rfl <;> rfl) (Nat.le_of_ble_eq_true rfl) ?_
  intro p e s m below meth c ls C hr hlocks hname hl hN hw
  obtain ⟨hx, hb, hml, hown, hts⟩ := id C
  have hX := hCX.1
  have hU := hCX.2.1.1
  refine lv_aload_n hx hb dX3_told_0 rfl (hl.at rfl) ?_
  refine lv_iload_n hx hb dX3_told_1 rfl (hl.at rfl) ?_
  refine w_callV C hN hw (c_X3_find l sz0 D cs X _ Y S hS hCX h gp hCR a) ⟨(Nat.le_of_ble_eq_true rfl), (Nat.le_of_ble_eq_true rfl), mw105, mw3, cy_X3_find⟩ mw102 mw103 mw104 (w_rec hw (c0 := 0) (i0 := 0) (hX 0 (by decide)) rfl rfl) rfl hl.1.1 rfl (Nat.le_of_ble_eq_true rfl) dX3_told_2 ⟨Nat.le_of_ble_eq_true rfl, Nat.le_of_ble_eq_true rfl⟩ (fun X' Z' Y' v k n H locs hp hw => ?_)
  obtain ⟨rfl, rfl, rfl, rfl, rfl, hp⟩ := hp
  rcases hp with ⟨i, hi, rfl, h0, rfl⟩ | ⟨hn, rfl⟩
  · have hL := hCR.gl hS hi h0
    obtain ⟨hmd, hh1, hF6, hR⟩ := (hCR.2.2 i hi).2 h0
    have hG := hCX.2.2 i hi hmd
    have hy := fnd_y hi h0
    have ecl : (nI i).toNatClampNeg = i := nI_clamp (by omega)
    have hF : S.1 i ≤ 64 := (hS.1 i hi).1
    refine w_astore_n hx hb dX3_told_5 rfl hl (Nat.le_of_ble_eq_true rfl) (fun ls hl => ?_)
    refine lv_aload_n hx hb dX3_told_6 rfl (hl.at rfl) ?_
    refine lv_ifnonnull (tgt := 14) hx hb dX3_told_7 (by decide) ?_
    refine lv_aload_n hx hb dX3_told_14 rfl (hl.at rfl) ?_
    refine lv_iload_n hx hb dX3_told_15 rfl (hl.at rfl) ?_
    refine w_callV C hN hw (c_X0_tell l sz0 D cs X _ Y i hG x) ⟨(Nat.le_of_ble_eq_true rfl), (Nat.le_of_ble_eq_true rfl), mw533, mw111, cy_X0_tell⟩ mw530 mw531 mw532 (w_rec hw (c0 := 20) (i0 := i) (hG 20 (by decide) (by decide)) rfl rfl) rfl hl.1.1 rfl (Nat.le_of_ble_eq_true rfl) dX3_told_16 ⟨Nat.le_of_ble_eq_true rfl, Nat.le_of_ble_eq_true rfl⟩ (fun X' Z' Y' v k n H locs hp hw => ?_)
    obtain ⟨rfl, rfl, rfl, rfl, rfl, rfl⟩ := hp
    exact w_iret C hw hr hlocks dX3_told_19 (CPo_z hCX hCR (fun _ _ _ => rfl) (by unfold tolQ; rw [if_neg (by rw [hy]; decide), ecl, tell_g hR]))
  · refine w_astore_nN hx hb dX3_told_5 rfl hl (Nat.le_of_ble_eq_true rfl) (fun ls hl => ?_)
    refine lv_aload_nN hx hb dX3_told_6 rfl (hl.at rfl) ?_
    refine lv_ifnonnullN hx hb dX3_told_7 ?_
    refine lv_iconst (v := 0) hx hb dX3_told_10 (by decide) ?_
    refine lv_goto (tgt := 19) hx hb dX3_told_11 (by decide) ?_
    exact w_iret C hw hr hlocks dX3_told_19 (CPo_z hCX hCR (fun _ _ _ => rfl) (by unfold tolQ; rw [if_pos hn]))

set_option maxHeartbeats 4000000 in
set_option maxRecDepth 100000 in
theorem c_X3_peek (l : Launch) (sz0 : Nat) (D : va_G) (cs : Nat → ClassId) (X : Sh) (Z : ZT) (Y : va_W) (S : HS) (hS : HOK S) (hCX : CRx X) (h gp : Nat) (hCR : CR X Z S h gp) (kc ks : Nat) (hkc : gp ≤ kc) (hks : 32832 * gp ≤ ks) (a : Int32) (x : Int32)  : Ctr l yX3_peek (wsM yX3_peek cX3_peek 4 (some .int)) ({ frames := 5, cells := kc, slots := ks, locals := 117 } : Room) sz0 D cs [.ref (X.1 0 0), .int a, .int x] X Z Y (CPo X Z Y gp S (pekQ S a x)) := by
  refine Ctr.ofW (by decide +kernel) (by intro v hv; simp at hv; rcases hv with rfl | rfl | rfl <;> rfl) (Nat.le_of_ble_eq_true rfl) ?_
  intro p e s m below meth c ls C hr hlocks hname hl hN hw
  obtain ⟨hx, hb, hml, hown, hts⟩ := id C
  have hX := hCX.1
  have hU := hCX.2.1.1
  refine lv_aload_n hx hb dX3_peek_0 rfl (hl.at rfl) ?_
  refine lv_iload_n hx hb dX3_peek_1 rfl (hl.at rfl) ?_
  refine w_callV C hN hw (c_X3_find l sz0 D cs X _ Y S hS hCX h gp hCR a) ⟨(Nat.le_of_ble_eq_true rfl), (Nat.le_of_ble_eq_true rfl), mw105, mw3, cy_X3_find⟩ mw102 mw103 mw104 (w_rec hw (c0 := 0) (i0 := 0) (hX 0 (by decide)) rfl rfl) rfl hl.1.1 rfl (Nat.le_of_ble_eq_true rfl) dX3_peek_2 ⟨Nat.zero_le _, Nat.zero_le _⟩ (fun X' Z' Y' v k n H locs hp hw => ?_)
  obtain ⟨rfl, rfl, rfl, rfl, rfl, hp⟩ := hp
  rcases hp with ⟨i, hi, rfl, h0, rfl⟩ | ⟨hn, rfl⟩
  · have hL := hCR.gl hS hi h0
    obtain ⟨hmd, hh1, hF6, hR⟩ := (hCR.2.2 i hi).2 h0
    have hG := hCX.2.2 i hi hmd
    have hy := fnd_y hi h0
    have ecl : (nI i).toNatClampNeg = i := nI_clamp (by omega)
    have hF : S.1 i ≤ 64 := (hS.1 i hi).1
    refine w_astore_n hx hb dX3_peek_5 rfl hl (Nat.le_of_ble_eq_true rfl) (fun ls hl => ?_)
    refine lv_aload_n hx hb dX3_peek_6 rfl (hl.at rfl) ?_
    refine lv_ifnonnull (tgt := 14) hx hb dX3_peek_7 (by decide) ?_
    refine lv_aload_n hx hb dX3_peek_14 rfl (hl.at rfl) ?_
    refine w_get C hw (c0 := 0) (i0 := 0) rfl inA3 0 (by decide) mw16 rfl dX3_peek_15 (hX 0 (by decide)) rfl rfl rfl ?_
    refine lv_aload_n hx hb dX3_peek_18 rfl (hl.at rfl) ?_
    refine lv_iload_n hx hb dX3_peek_19 rfl (hl.at rfl) ?_
    refine w_callV C hN hw (c_X1_read l sz0 D cs X _ Y hX hU i hG h gp kc ks (S.1 i) hCR.1 hL x hkc hks) ⟨(Nat.le_of_ble_eq_true rfl), (Nat.le_of_ble_eq_true rfl), mw364, mw15, cy_X1_read⟩ mw550 mw362 mw363 (w_rec hw (c0 := 2) (i0 := 0) (hX 2 (by decide)) rfl rfl) rfl hl.1.1 rfl (Nat.le_of_ble_eq_true rfl) dX3_peek_20 ⟨by show 0 + kc ≤ kc; omega, by show 0 + ks ≤ ks; omega⟩ (fun X' Z' Y' v k n H locs hp hw => ?_)
    obtain ⟨rfl, rfl, hM1⟩ := hp
    obtain ⟨gp1, hT⟩ := SFp.ofHM (i := i) hM1 (fun _ _ _ _ => rfl)
    rw [Nat.zero_add, Nat.zero_add]
    have hfin := CPo_S (Y := Y) hCX hCR hS hi h0 hT (GR_HMs hM1 hi hL.2.1 hR) (show rdv Z i (S.1 i) x = pekQ S (nI i) x by unfold pekQ; rw [if_neg (by rw [hy]; decide), ecl]; exact rdv_pek hF hR)
    rw [setM_id] at hfin
    exact w_iret C hw hr hlocks dX3_peek_23 hfin
  · refine w_astore_nN hx hb dX3_peek_5 rfl hl (Nat.le_of_ble_eq_true rfl) (fun ls hl => ?_)
    refine lv_aload_nN hx hb dX3_peek_6 rfl (hl.at rfl) ?_
    refine lv_ifnonnullN hx hb dX3_peek_7 ?_
    refine lv_iconst (v := 0) hx hb dX3_peek_10 (by decide) ?_
    refine lv_goto (tgt := 23) hx hb dX3_peek_11 (by decide) ?_
    exact w_iret C hw hr hlocks dX3_peek_23 (CPo_z hCX hCR (fun _ _ _ => rfl) (by unfold pekQ; rw [if_pos hn]))

set_option maxHeartbeats 4000000 in
set_option maxRecDepth 100000 in
theorem c_X3_disk (l : Launch) (sz0 : Nat) (D : va_G) (cs : Nat → ClassId) (X : Sh) (Z : ZT) (Y : va_W) (S : HS) (hS : HOK S) (hCX : CRx X) (h gp : Nat) (hCR : CR X Z S h gp) (a : Int32) (x : Int32)  : Ctr l yX3_disk (wsM yX3_disk cX3_disk 4 (some .int)) ({ frames := 1, cells := 0, slots := 0, locals := 22 } : Room) sz0 D cs [.ref (X.1 0 0), .int a, .int x] X Z Y (CPo X Z Y gp S (dskQ S a x)) := by
  refine Ctr.ofW (by decide +kernel) (by intro v hv; simp at hv; rcases hv with rfl | rfl | rfl <;> rfl) (Nat.le_of_ble_eq_true rfl) ?_
  intro p e s m below meth c ls C hr hlocks hname hl hN hw
  obtain ⟨hx, hb, hml, hown, hts⟩ := id C
  have hX := hCX.1
  have hU := hCX.2.1.1
  refine lv_aload_n hx hb dX3_disk_0 rfl (hl.at rfl) ?_
  refine lv_iload_n hx hb dX3_disk_1 rfl (hl.at rfl) ?_
  refine w_callV C hN hw (c_X3_find l sz0 D cs X _ Y S hS hCX h gp hCR a) ⟨(Nat.le_of_ble_eq_true rfl), (Nat.le_of_ble_eq_true rfl), mw105, mw3, cy_X3_find⟩ mw102 mw103 mw104 (w_rec hw (c0 := 0) (i0 := 0) (hX 0 (by decide)) rfl rfl) rfl hl.1.1 rfl (Nat.le_of_ble_eq_true rfl) dX3_disk_2 ⟨Nat.le_of_ble_eq_true rfl, Nat.le_of_ble_eq_true rfl⟩ (fun X' Z' Y' v k n H locs hp hw => ?_)
  obtain ⟨rfl, rfl, rfl, rfl, rfl, hp⟩ := hp
  rcases hp with ⟨i, hi, rfl, h0, rfl⟩ | ⟨hn, rfl⟩
  · have hL := hCR.gl hS hi h0
    obtain ⟨hmd, hh1, hF6, hR⟩ := (hCR.2.2 i hi).2 h0
    have hG := hCX.2.2 i hi hmd
    have hy := fnd_y hi h0
    have ecl : (nI i).toNatClampNeg = i := nI_clamp (by omega)
    have hF : S.1 i ≤ 64 := (hS.1 i hi).1
    refine w_astore_n hx hb dX3_disk_5 rfl hl (Nat.le_of_ble_eq_true rfl) (fun ls hl => ?_)
    refine lv_aload_n hx hb dX3_disk_6 rfl (hl.at rfl) ?_
    refine lv_ifnull hx hb dX3_disk_7 ?_
    refine lv_iload_n hx hb dX3_disk_10 rfl (hl.at rfl) ?_
    refine lv_if_lt (tgt := 23) hx hb dX3_disk_11 (by decide) (fun h11 => ?_) (fun h11 => ?_)
    · refine lv_iconst (v := 0) hx hb dX3_disk_23 (by decide) ?_
      refine lv_goto (tgt := 33) hx hb dX3_disk_24 (by decide) ?_
      exact w_iret C hw hr hlocks dX3_disk_33 (CPo_z hCX hCR (fun _ _ _ => rfl) (by unfold dskQ; rw [if_neg (by rw [hy]; decide), ecl, if_pos (Or.inl h11)]))
    · refine lv_iload_n hx hb dX3_disk_14 rfl (hl.at rfl) ?_
      refine lv_aload_n hx hb dX3_disk_15 rfl (hl.at rfl) ?_
      refine w_getN C hN hw (c0 := 20) (i0 := i) rfl inA0 8 (by decide) mw650 rfl dX3_disk_16 (hG 20 (by decide) (by decide)) rfl rfl rfl ?_
      refine w_len C hw (c0 := 22) (i0 := i) (ty := 0) dX3_disk_19 (hG 22 (by decide) (by decide)) rfl (n := 1024) (v := 1024) rfl rfl rfl (by decide) ?_
      refine lv_icmp_lt (tgt := 27) hx hb dX3_disk_20 (by decide) (fun h20 => ?_) (fun h20 => ?_)
      · have hv : vp_in x 1024 := vpr (N := 1024) (by decide) h11 (Int32.not_le.mpr h20)
        have hk : x.toNatClampNeg < 1024 := Nat.not_le.mp (fun q => hv (Or.inr q))
        refine lv_aload_n hx hb dX3_disk_27 rfl (hl.at rfl) ?_
        refine w_getN C hN hw (c0 := 20) (i0 := i) rfl inA0 8 (by decide) mw650 rfl dX3_disk_28 (hG 20 (by decide) (by decide)) rfl rfl rfl ?_
        refine lv_iload_n hx hb dX3_disk_31 rfl (hl.at rfl) ?_
        refine w_ild C hw (c0 := 22) (i0 := i) dX3_disk_32 (hG 22 (by decide) (by decide)) rfl rfl hv rfl ?_
        exact w_iret C hw hr hlocks dX3_disk_33 (CPo_z hCX hCR (fun _ _ _ => rfl) (by unfold dskQ; rw [if_neg (by rw [hy]; decide), ecl, if_neg (fun q => q.elim h11 (fun q => q h20)), hR.2.2.1 _ hk]))
      · refine lv_iconst (v := 0) hx hb dX3_disk_23 (by decide) ?_
        refine lv_goto (tgt := 33) hx hb dX3_disk_24 (by decide) ?_
        exact w_iret C hw hr hlocks dX3_disk_33 (CPo_z hCX hCR (fun _ _ _ => rfl) (by unfold dskQ; rw [if_neg (by rw [hy]; decide), ecl, if_pos (Or.inr h20)]))
  · refine w_astore_nN hx hb dX3_disk_5 rfl hl (Nat.le_of_ble_eq_true rfl) (fun ls hl => ?_)
    refine lv_aload_nN hx hb dX3_disk_6 rfl (hl.at rfl) ?_
    refine lv_ifnullN (tgt := 23) hx hb dX3_disk_7 (by decide) ?_
    refine lv_iconst (v := 0) hx hb dX3_disk_23 (by decide) ?_
    refine lv_goto (tgt := 33) hx hb dX3_disk_24 (by decide) ?_
    exact w_iret C hw hr hlocks dX3_disk_33 (CPo_z hCX hCR (fun _ _ _ => rfl) (by unfold dskQ; rw [if_pos hn]))

theorem kept_lt {x k : Int32} (h : x < (if (1000 : Int32) < k then 1000 else k)) : x < 1000 ∧ x < k := by
  by_cases c : (1000 : Int32) < k
  · rw [if_pos c] at h; exact ⟨h, Int32.lt_trans h c⟩
  · rw [if_neg c] at h; exact ⟨Int32.lt_of_lt_of_le h (Int32.not_lt.mp c), h⟩
theorem kept_ge {x k : Int32} (h : ¬ x < (if (1000 : Int32) < k then 1000 else k)) : ¬ x < 1000 ∨ ¬ x < k := by
  by_cases c : (1000 : Int32) < k
  · rw [if_pos c] at h; exact Or.inl h
  · rw [if_neg c] at h; exact Or.inr h

set_option maxHeartbeats 4000000 in
set_option maxRecDepth 100000 in
theorem c_X3_out (l : Launch) (sz0 : Nat) (D : va_G) (cs : Nat → ClassId) (X : Sh) (Z : ZT) (Y : va_W) (S : HS) (hS : HOK S) (hCX : CRx X) (h gp : Nat) (hCR : CR X Z S h gp) (a : Int32) (x : Int32)  : Ctr l yX3_out (wsM yX3_out cX3_out 4 (some .int)) ({ frames := 2, cells := 0, slots := 0, locals := 41 } : Room) sz0 D cs [.ref (X.1 0 0), .int a, .int x] X Z Y (CPo X Z Y gp S (outQ S a x)) := by
  refine Ctr.ofW (by decide +kernel) (by intro v hv; simp at hv; rcases hv with rfl | rfl | rfl <;> rfl) (Nat.le_of_ble_eq_true rfl) ?_
  intro p e s m below meth c ls C hr hlocks hname hl hN hw
  obtain ⟨hx, hb, hml, hown, hts⟩ := id C
  have hX := hCX.1
  have hU := hCX.2.1.1
  refine lv_aload_n hx hb dX3_out_0 rfl (hl.at rfl) ?_
  refine lv_iload_n hx hb dX3_out_1 rfl (hl.at rfl) ?_
  refine w_callV C hN hw (c_X3_find l sz0 D cs X _ Y S hS hCX h gp hCR a) ⟨(Nat.le_of_ble_eq_true rfl), (Nat.le_of_ble_eq_true rfl), mw105, mw3, cy_X3_find⟩ mw102 mw103 mw104 (w_rec hw (c0 := 0) (i0 := 0) (hX 0 (by decide)) rfl rfl) rfl hl.1.1 rfl (Nat.le_of_ble_eq_true rfl) dX3_out_2 ⟨Nat.le_of_ble_eq_true rfl, Nat.le_of_ble_eq_true rfl⟩ (fun X' Z' Y' v k n H locs hp hw => ?_)
  obtain ⟨rfl, rfl, rfl, rfl, rfl, hp⟩ := hp
  rcases hp with ⟨i, hi, rfl, h0, rfl⟩ | ⟨hn, rfl⟩
  · have hL := hCR.gl hS hi h0
    obtain ⟨hmd, hh1, hF6, hR⟩ := (hCR.2.2 i hi).2 h0
    have hG := hCX.2.2 i hi hmd
    have hy := fnd_y hi h0
    have ecl : (nI i).toNatClampNeg = i := nI_clamp (by omega)
    have hF : S.1 i ≤ 64 := (hS.1 i hi).1
    refine w_astore_n hx hb dX3_out_5 rfl hl (Nat.le_of_ble_eq_true rfl) (fun ls hl => ?_)
    refine lv_aload_n hx hb dX3_out_6 rfl (hl.at rfl) ?_
    refine lv_ifnull hx hb dX3_out_7 ?_
    refine lv_iload_n hx hb dX3_out_10 rfl (hl.at rfl) ?_
    refine lv_if_lt (tgt := 22) hx hb dX3_out_11 (by decide) (fun h11 => ?_) (fun h11 => ?_)
    · refine lv_iconst (v := 0) hx hb dX3_out_22 (by decide) ?_
      refine lv_goto (tgt := 32) hx hb dX3_out_23 (by decide) ?_
      exact w_iret C hw hr hlocks dX3_out_32 (CPo_z hCX hCR (fun _ _ _ => rfl) (by unfold outQ; rw [if_neg (by rw [hy]; decide), ecl, if_pos (Or.inl h11)]))
    · refine lv_iload_n hx hb dX3_out_14 rfl (hl.at rfl) ?_
      refine lv_aload_n hx hb dX3_out_15 rfl (hl.at rfl) ?_
      refine w_callV C hN hw (c_X0_keptCount l sz0 D cs X _ Y i hG) ⟨(Nat.le_of_ble_eq_true rfl), (Nat.le_of_ble_eq_true rfl), mw570, mw111, cy_X0_keptCount⟩ mw567 mw568 mw569 (w_rec hw (c0 := 20) (i0 := i) (hG 20 (by decide) (by decide)) rfl rfl) rfl hl.1.1 rfl (Nat.le_of_ble_eq_true rfl) dX3_out_16 ⟨Nat.le_of_ble_eq_true rfl, Nat.le_of_ble_eq_true rfl⟩ (fun X' Z' Y' v k n H locs hp hw => ?_)
      obtain ⟨rfl, rfl, rfl, rfl, rfl, rfl⟩ := hp
      rw [hR.1.2.2.2.2.2.2]
      refine lv_icmp_lt (tgt := 26) hx hb dX3_out_19 (by decide) (fun h19 => ?_) (fun h19 => ?_)
      · obtain ⟨hx1, hx2⟩ := kept_lt h19
        obtain ⟨xn, hxn, rfl⟩ := putN h11 (Int32.not_le.mpr hx1)
        refine lv_aload_n hx hb dX3_out_26 rfl (hl.at rfl) ?_
        refine w_getN C hN hw (c0 := 20) (i0 := i) rfl inA0 15 (by decide) mw657 rfl dX3_out_27 (hG 20 (by decide) (by decide)) rfl rfl rfl ?_
        refine lv_iload_n hx hb dX3_out_30 rfl (hl.at rfl) ?_
        refine w_ild C hw (c0 := 27) (i0 := i) dX3_out_31 (hG 27 (by decide) (by decide)) rfl rfl (vp_in_nI hxn (by decide)) (nI_clamp (by omega)) ?_
        exact w_iret C hw hr hlocks dX3_out_32 (CPo_z hCX hCR (fun _ _ _ => rfl) (by unfold outQ; rw [if_neg (by rw [hy]; decide), ecl, if_neg (fun q => q.elim h11 (fun q => q.elim (fun q => q hx1) (fun q => q hx2))), nI_clamp (by omega), hR.2.2.2.2.2.2.2 xn hxn (by rw [hR.1.2.2.2.2.2.2]; exact hx2)]))
      · refine lv_iconst (v := 0) hx hb dX3_out_22 (by decide) ?_
        refine lv_goto (tgt := 32) hx hb dX3_out_23 (by decide) ?_
        exact w_iret C hw hr hlocks dX3_out_32 (CPo_z hCX hCR (fun _ _ _ => rfl) (by unfold outQ; rw [if_neg (by rw [hy]; decide), ecl, if_pos (Or.inr (kept_ge h19))]))
  · refine w_astore_nN hx hb dX3_out_5 rfl hl (Nat.le_of_ble_eq_true rfl) (fun ls hl => ?_)
    refine lv_aload_nN hx hb dX3_out_6 rfl (hl.at rfl) ?_
    refine lv_ifnullN (tgt := 22) hx hb dX3_out_7 (by decide) ?_
    refine lv_iconst (v := 0) hx hb dX3_out_22 (by decide) ?_
    refine lv_goto (tgt := 32) hx hb dX3_out_23 (by decide) ?_
    exact w_iret C hw hr hlocks dX3_out_32 (CPo_z hCX hCR (fun _ _ _ => rfl) (by unfold outQ; rw [if_pos hn]))

set_option maxHeartbeats 4000000 in
set_option maxRecDepth 100000 in
theorem c_X3_cached (l : Launch) (sz0 : Nat) (D : va_G) (cs : Nat → ClassId) (X : Sh) (Z : ZT) (Y : va_W) (S : HS) (hS : HOK S) (hCX : CRx X) (h gp : Nat) (hCR : CR X Z S h gp) (a : Int32) (x : Int32)  : Ctr l yX3_cached (wsM yX3_cached cX3_cached 4 (some .int)) ({ frames := 1, cells := 0, slots := 0, locals := 22 } : Room) sz0 D cs [.ref (X.1 0 0), .int a, .int x] X Z Y (CPo X Z Y gp S (cacQ S a x)) := by
  refine Ctr.ofW (by decide +kernel) (by intro v hv; simp at hv; rcases hv with rfl | rfl | rfl <;> rfl) (Nat.le_of_ble_eq_true rfl) ?_
  intro p e s m below meth c ls C hr hlocks hname hl hN hw
  obtain ⟨hx, hb, hml, hown, hts⟩ := id C
  have hX := hCX.1
  have hU := hCX.2.1.1
  refine lv_aload_n hx hb dX3_cached_0 rfl (hl.at rfl) ?_
  refine lv_iload_n hx hb dX3_cached_1 rfl (hl.at rfl) ?_
  refine w_callV C hN hw (c_X3_find l sz0 D cs X _ Y S hS hCX h gp hCR a) ⟨(Nat.le_of_ble_eq_true rfl), (Nat.le_of_ble_eq_true rfl), mw105, mw3, cy_X3_find⟩ mw102 mw103 mw104 (w_rec hw (c0 := 0) (i0 := 0) (hX 0 (by decide)) rfl rfl) rfl hl.1.1 rfl (Nat.le_of_ble_eq_true rfl) dX3_cached_2 ⟨Nat.le_of_ble_eq_true rfl, Nat.le_of_ble_eq_true rfl⟩ (fun X' Z' Y' v k n H locs hp hw => ?_)
  obtain ⟨rfl, rfl, rfl, rfl, rfl, hp⟩ := hp
  rcases hp with ⟨i, hi, rfl, h0, rfl⟩ | ⟨hn, rfl⟩
  · have hL := hCR.gl hS hi h0
    obtain ⟨hmd, hh1, hF6, hR⟩ := (hCR.2.2 i hi).2 h0
    have hG := hCX.2.2 i hi hmd
    have hy := fnd_y hi h0
    have ecl : (nI i).toNatClampNeg = i := nI_clamp (by omega)
    have hF : S.1 i ≤ 64 := (hS.1 i hi).1
    refine w_astore_n hx hb dX3_cached_5 rfl hl (Nat.le_of_ble_eq_true rfl) (fun ls hl => ?_)
    refine lv_aload_n hx hb dX3_cached_6 rfl (hl.at rfl) ?_
    refine lv_ifnull hx hb dX3_cached_7 ?_
    refine lv_iload_n hx hb dX3_cached_10 rfl (hl.at rfl) ?_
    refine lv_if_lt (tgt := 21) hx hb dX3_cached_11 (by decide) (fun h11 => ?_) (fun h11 => ?_)
    · refine lv_iconst (v := -1) hx hb dX3_cached_21 (by decide) ?_
      refine lv_goto (tgt := 31) hx hb dX3_cached_22 (by decide) ?_
      exact w_iret C hw hr hlocks dX3_cached_31 (CPo_z hCX hCR (fun _ _ _ => rfl) (by unfold cacQ; rw [if_neg (by rw [hy]; decide), ecl, if_pos (Or.inl h11)]))
    · refine lv_iload_n hx hb dX3_cached_14 rfl (hl.at rfl) ?_
      refine lv_sipush (v := 256) hx hb dX3_cached_15 (by decide) ?_
      refine lv_icmp_lt (tgt := 25) hx hb dX3_cached_18 (by decide) (fun h18 => ?_) (fun h18 => ?_)
      · have hv : vp_in x 256 := vpr (N := 256) (by decide) h11 (Int32.not_le.mpr h18)
        have hk : x.toNatClampNeg < 256 := Nat.not_le.mp (fun q => hv (Or.inr q))
        refine lv_aload_n hx hb dX3_cached_25 rfl (hl.at rfl) ?_
        refine w_getN C hN hw (c0 := 20) (i0 := i) rfl inA0 11 (by decide) mw655 rfl dX3_cached_26 (hG 20 (by decide) (by decide)) rfl rfl rfl ?_
        refine lv_iload_n hx hb dX3_cached_29 rfl (hl.at rfl) ?_
        refine w_ild C hw (c0 := 25) (i0 := i) dX3_cached_30 (hG 25 (by decide) (by decide)) rfl rfl hv rfl ?_
        exact w_iret C hw hr hlocks dX3_cached_31 (CPo_z hCX hCR (fun _ _ _ => rfl) (by unfold cacQ; rw [if_neg (by rw [hy]; decide), ecl, if_neg (fun q => q.elim h11 (fun q => q h18)), hR.2.2.2.2.2.1 _ hk]))
      · refine lv_iconst (v := -1) hx hb dX3_cached_21 (by decide) ?_
        refine lv_goto (tgt := 31) hx hb dX3_cached_22 (by decide) ?_
        exact w_iret C hw hr hlocks dX3_cached_31 (CPo_z hCX hCR (fun _ _ _ => rfl) (by unfold cacQ; rw [if_neg (by rw [hy]; decide), ecl, if_pos (Or.inr h18)]))
  · refine w_astore_nN hx hb dX3_cached_5 rfl hl (Nat.le_of_ble_eq_true rfl) (fun ls hl => ?_)
    refine lv_aload_nN hx hb dX3_cached_6 rfl (hl.at rfl) ?_
    refine lv_ifnullN (tgt := 21) hx hb dX3_cached_7 (by decide) ?_
    refine lv_iconst (v := -1) hx hb dX3_cached_21 (by decide) ?_
    refine lv_goto (tgt := 31) hx hb dX3_cached_22 (by decide) ?_
    exact w_iret C hw hr hlocks dX3_cached_31 (CPo_z hCX hCR (fun _ _ _ => rfl) (by unfold cacQ; rw [if_pos hn]))

set_option maxHeartbeats 4000000 in
set_option maxRecDepth 100000 in
theorem c_X3_house (l : Launch) (sz0 : Nat) (D : va_G) (cs : Nat → ClassId) (X : Sh) (Z : ZT) (Y : va_W) (S : HS) (hS : HOK S) (hCX : CRx X) (h gp : Nat) (hCR : CR X Z S h gp) (x : Int32)  : Ctr l yX3_house (wsM yX3_house cX3_house 2 (some .int)) ({ frames := 2, cells := 0, slots := 0, locals := 44 } : Room) sz0 D cs [.ref (X.1 0 0), .int x] X Z Y (CPo X Z Y gp S (houQ S x)) := by
  refine Ctr.ofW (by decide +kernel) (by intro v hv; simp at hv; rcases hv with rfl | rfl <;> rfl) (Nat.le_of_ble_eq_true rfl) ?_
  intro p e s m below meth c ls C hr hlocks hname hl hN hw
  obtain ⟨hx, hb, hml, hown, hts⟩ := id C
  have hX := hCX.1
  have hU := hCX.2.1.1
  refine lv_iload_n hx hb dX3_house_0 rfl (hl.at rfl) ?_
  refine lv_topi (fun x1 e1 => ?_)
  by_cases q1_0 : x1 = 0
  · subst q1_0
    refine lv_tableIn (off := 31) (tgt := 32) hx hb dX3_house_1 (by decide) (by decide) (by decide) (by decide) ?_
    refine lv_aload_n hx hb dX3_house_32 rfl (hl.at rfl) ?_
    refine w_get C hw (c0 := 0) (i0 := 0) rfl inA3 4 (by decide) mw47 rfl dX3_house_33 (hX 0 (by decide)) rfl rfl rfl ?_
    exact w_iret C hw hr hlocks dX3_house_36 (CPo_z hCX hCR (fun _ _ _ => rfl) (by rw [← e1]; unfold houQ; rw [if_pos rfl]; exact hCR.2.1.2.1))
  by_cases q1_1 : x1 = 1
  · subst q1_1
    refine lv_tableIn (off := 36) (tgt := 37) hx hb dX3_house_1 (by decide) (by decide) (by decide) (by decide) ?_
    refine lv_aload_n hx hb dX3_house_37 rfl (hl.at rfl) ?_
    refine w_get C hw (c0 := 0) (i0 := 0) rfl inA3 5 (by decide) mw48 rfl dX3_house_38 (hX 0 (by decide)) rfl rfl rfl ?_
    exact w_iret C hw hr hlocks dX3_house_41 (CPo_z hCX hCR (fun _ _ _ => rfl) (by rw [← e1]; unfold houQ; rw [if_neg (by decide), if_pos rfl]; exact hCR.2.1.2.2.1))
  by_cases q1_2 : x1 = 2
  · subst q1_2
    refine lv_tableIn (off := 41) (tgt := 42) hx hb dX3_house_1 (by decide) (by decide) (by decide) (by decide) ?_
    refine lv_aload_n hx hb dX3_house_42 rfl (hl.at rfl) ?_
    refine w_callV C hN hw (c_X3_countGuests l sz0 D cs X _ Y S hS hCX h gp hCR) ⟨(Nat.le_of_ble_eq_true rfl), (Nat.le_of_ble_eq_true rfl), mw594, mw3, cy_X3_countGuests⟩ mw591 mw592 mw593 (w_rec hw (c0 := 0) (i0 := 0) (hX 0 (by decide)) rfl rfl) rfl hl.1.1 rfl (Nat.le_of_ble_eq_true rfl) dX3_house_43 ⟨Nat.le_of_ble_eq_true rfl, Nat.le_of_ble_eq_true rfl⟩ (fun X' Z' Y' v k n H locs hp hw => ?_)
    obtain ⟨rfl, rfl, rfl, rfl, rfl, rfl⟩ := hp
    exact w_iret C hw hr hlocks dX3_house_46 (CPo_z hCX hCR (fun _ _ _ => rfl) (by rw [← e1]; unfold houQ; rw [if_neg (by decide), if_neg (by decide), if_pos rfl]))
  by_cases q1_3 : x1 = 3
  · subst q1_3
    refine lv_tableIn (off := 46) (tgt := 47) hx hb dX3_house_1 (by decide) (by decide) (by decide) (by decide) ?_
    refine lv_aload_n hx hb dX3_house_47 rfl (hl.at rfl) ?_
    refine w_get C hw (c0 := 0) (i0 := 0) rfl inA3 6 (by decide) mw49 rfl dX3_house_48 (hX 0 (by decide)) rfl rfl rfl ?_
    exact w_iret C hw hr hlocks dX3_house_51 (CPo_z hCX hCR (fun _ _ _ => rfl) (by rw [← e1]; unfold houQ; rw [if_neg (by decide), if_neg (by decide), if_neg (by decide), if_pos rfl]; exact hCR.2.1.2.2.2))
  refine lv_tableOut (tgt := 52) hx hb dX3_house_1 (by have := lv_neT q1_0 (by decide : (0 : Int32).toInt = 0); have := lv_neT q1_1 (by decide : (1 : Int32).toInt = 1); have := lv_neT q1_2 (by decide : (2 : Int32).toInt = 2); have := lv_neT q1_3 (by decide : (3 : Int32).toInt = 3); omega) (by decide) ?_
  refine lv_iconst (v := 0) hx hb dX3_house_52 (by decide) ?_
  exact w_iret C hw hr hlocks dX3_house_53 (CPo_z hCX hCR (fun _ _ _ => rfl) (by rw [← e1]; unfold houQ; rw [if_neg q1_0, if_neg q1_1, if_neg q1_2, if_neg q1_3]))

set_option maxHeartbeats 4000000 in
set_option maxRecDepth 100000 in
theorem c_X3_install (l : Launch) (sz0 : Nat) (D : va_G) (cs : Nat → ClassId) (X : Sh) (Z : ZT) (Y : va_W) (S : HS) (hS : HOK S) (hCX : CRx X) (h gp : Nat) (hCR : CR X Z S h gp) (u : Int32) (sl : Int32)  : Ctr l yX3_install (wsM yX3_install cX3_install 3 (some .int)) ({ frames := 3, cells := 0, slots := 0, locals := 68 } : Room) sz0 D cs [.ref (X.1 0 0), .int u, .int sl] X Z Y (CPo X Z Y gp (insS S u sl).1 (insS S u sl).2) := by
  refine Ctr.ofW (by decide +kernel) (by intro v hv; simp at hv; rcases hv with rfl | rfl | rfl <;> rfl) (Nat.le_of_ble_eq_true rfl) ?_
  intro p e s m below meth c ls C hr hlocks hname hl hN hw
  obtain ⟨hx, hb, hml, hown, hts⟩ := id C
  have hX := hCX.1
  have hU := hCX.2.1.1
  refine lv_iload_n hx hb dX3_install_0 rfl (hl.at rfl) ?_
  refine lv_iconst (v := 4) hx hb dX3_install_1 (by decide) ?_
  refine lv_icmp_lt (tgt := 24) hx hb dX3_install_2 (by decide) (fun h2 => ?_) (fun h2 => ?_)
  · refine lv_iconst (v := -1) hx hb dX3_install_24 (by decide) ?_
    have eo : insS S u sl = (S, -1) := by unfold insS; rw [if_pos (Or.inl h2)]
    exact w_iret C hw hr hlocks dX3_install_25 (by rw [eo]; exact CPo_z hCX hCR (fun _ _ _ => rfl) rfl)
  · refine lv_iload_n hx hb dX3_install_5 rfl (hl.at rfl) ?_
    refine lv_sipush (v := 256) hx hb dX3_install_6 (by decide) ?_
    refine lv_icmp_gt (tgt := 24) hx hb dX3_install_9 (by decide) (fun h9 => ?_) (fun h9 => ?_)
    · refine lv_iconst (v := -1) hx hb dX3_install_24 (by decide) ?_
      have eo : insS S u sl = (S, -1) := by unfold insS; rw [if_pos (Or.inr (Or.inl h9))]
      exact w_iret C hw hr hlocks dX3_install_25 (by rw [eo]; exact CPo_z hCX hCR (fun _ _ _ => rfl) rfl)
    · refine lv_iload_n hx hb dX3_install_12 rfl (hl.at rfl) ?_
      refine lv_iconst (v := 1) hx hb dX3_install_13 (by decide) ?_
      refine lv_icmp_lt (tgt := 24) hx hb dX3_install_14 (by decide) (fun h14 => ?_) (fun h14 => ?_)
      · refine lv_iconst (v := -1) hx hb dX3_install_24 (by decide) ?_
        have eo : insS S u sl = (S, -1) := by unfold insS; rw [if_pos (Or.inr (Or.inr (Or.inl h14)))]
        exact w_iret C hw hr hlocks dX3_install_25 (by rw [eo]; exact CPo_z hCX hCR (fun _ _ _ => rfl) rfl)
      · refine lv_iload_n hx hb dX3_install_17 rfl (hl.at rfl) ?_
        refine lv_sipush (v := 1000) hx hb dX3_install_18 (by decide) ?_
        refine lv_icmp_le (tgt := 26) hx hb dX3_install_21 (by decide) (fun h21 => ?_) (fun h21 => ?_)
        · obtain ⟨hn, hh, rfl⟩ : ∃ hn, (4 ≤ hn ∧ hn ≤ 256) ∧ u = nI hn := by
            obtain ⟨n, hn, rfl⟩ := nI_of (x := u) (fun q => h2 (Int32.lt_trans q (by decide)))
            exact ⟨n, ⟨Nat.not_lt.mp (fun q => h2 (show nI n < nI 4 from nI_lt q (by decide))), Nat.not_lt.mp (fun q => h9 (show nI 256 < nI n from nI_lt q hn))⟩, rfl⟩
          refine lv_aload_n hx hb dX3_install_26 rfl (hl.at rfl) ?_
          refine lv_iload_n hx hb dX3_install_27 rfl (hl.at rfl) ?_
          refine lv_iload_n hx hb dX3_install_28 rfl (hl.at rfl) ?_
          refine w_callV C hN hw (c_X3_settle l sz0 D cs X _ Y hCX gp hn sl (upd (upd (upd (upd S.2.2 0 sl) 1 7) 2 0) 3 0) S.2.1 hCR.1.rnp hh ⟨rfl, rfl, rfl, rfl⟩) ⟨(Nat.le_of_ble_eq_true rfl), (Nat.le_of_ble_eq_true rfl), mw45, mw3, cy_X3_settle⟩ mw42 mw43 mw44 (w_rec hw (c0 := 0) (i0 := 0) (hX 0 (by decide)) rfl rfl) rfl hl.1.1 rfl (Nat.le_of_ble_eq_true rfl) dX3_install_29 ⟨Nat.le_of_ble_eq_true rfl, Nat.le_of_ble_eq_true rfl⟩ (fun X' Z' Y' v k n H locs hp hw => ?_)
          obtain ⟨rfl, rfl, rfl, rfl, rfl, hC1, h30⟩ := hp
          refine lv_iconst (v := 0) hx hb dX3_install_32 (by decide) ?_
          have eo : insS S (nI hn) sl = ((fun _ => 0, S.2.1, upd (upd (upd (upd S.2.2 0 sl) 1 7) 2 0) 3 0), 0) := by unfold insS; rw [if_neg (fun q => q.elim h2 (fun q => q.elim h9 (fun q => q.elim h14 (fun q => Int32.not_lt.mpr h21 q))))]
          exact w_iret C hw hr hlocks dX3_install_33 (by rw [eo]; exact CPo_z hCX hC1 h30 rfl)
        · refine lv_iconst (v := -1) hx hb dX3_install_24 (by decide) ?_
          have eo : insS S u sl = (S, -1) := by unfold insS; rw [if_pos (Or.inr (Or.inr (Or.inr (Int32.not_le.mp h21))))]
          exact w_iret C hw hr hlocks dX3_install_25 (by rw [eo]; exact CPo_z hCX hCR (fun _ _ _ => rfl) rfl)

set_option maxHeartbeats 4000000 in
set_option maxRecDepth 100000 in
theorem c_X3_poke (l : Launch) (sz0 : Nat) (D : va_G) (cs : Nat → ClassId) (X : Sh) (Z : ZT) (Y : va_W) (S : HS) (hS : HOK S) (hCX : CRx X) (h gp : Nat) (hCR : CR X Z S h gp) (kc ks : Nat) (hkc : gp ≤ kc) (hks : 32832 * gp ≤ ks) (a : Int32) (x : Int32) (u : Int32)  : Ctr l yX3_poke (wsM yX3_poke cX3_poke 5 (some .int)) ({ frames := 5, cells := kc, slots := ks, locals := 122 } : Room) sz0 D cs [.ref (X.1 0 0), .int a, .int x, .int u] X Z Y (CPo X Z Y gp (pkS S a x u).1 (pkS S a x u).2) := by
  refine Ctr.ofW (by decide +kernel) (by intro v hv; simp at hv; rcases hv with rfl | rfl | rfl | rfl <;> rfl) (Nat.le_of_ble_eq_true rfl) ?_
  intro p e s m below meth c ls C hr hlocks hname hl hN hw
  obtain ⟨hx, hb, hml, hown, hts⟩ := id C
  have hX := hCX.1
  have hU := hCX.2.1.1
  refine lv_aload_n hx hb dX3_poke_0 rfl (hl.at rfl) ?_
  refine lv_iload_n hx hb dX3_poke_1 rfl (hl.at rfl) ?_
  refine w_callV C hN hw (c_X3_find l sz0 D cs X _ Y S hS hCX h gp hCR a) ⟨(Nat.le_of_ble_eq_true rfl), (Nat.le_of_ble_eq_true rfl), mw105, mw3, cy_X3_find⟩ mw102 mw103 mw104 (w_rec hw (c0 := 0) (i0 := 0) (hX 0 (by decide)) rfl rfl) rfl hl.1.1 rfl (Nat.le_of_ble_eq_true rfl) dX3_poke_2 ⟨Nat.zero_le _, Nat.zero_le _⟩ (fun X' Z' Y' v k n H locs hp hw => ?_)
  obtain ⟨rfl, rfl, rfl, rfl, rfl, hp⟩ := hp
  rcases hp with ⟨i, hi, rfl, h0, rfl⟩ | ⟨hn, rfl⟩
  · have hL := hCR.gl hS hi h0
    obtain ⟨hmd, hh1, hF6, hR⟩ := (hCR.2.2 i hi).2 h0
    have hG := hCX.2.2 i hi hmd
    have hy := fnd_y hi h0
    have ecl : (nI i).toNatClampNeg = i := nI_clamp (by omega)
    have hF : S.1 i ≤ 64 := (hS.1 i hi).1
    refine w_astore hx hb dX3_poke_5 hl (Nat.le_of_ble_eq_true rfl) (fun ls hl => ?_)
    refine lv_aload hx hb dX3_poke_7 (hl.at rfl) ?_
    refine lv_ifnonnull (tgt := 15) hx hb dX3_poke_9 (by decide) ?_
    refine lv_aload hx hb dX3_poke_15 (hl.at rfl) ?_
    refine w_getN C hN hw (c0 := 20) (i0 := i) rfl inA0 1 (by decide) mw640 rfl dX3_poke_17 (hG 20 (by decide) (by decide)) rfl rfl rfl ?_
    rw [hR.1.1]
    refine lv_if_eq (tgt := 25) hx hb dX3_poke_20 (by decide) (fun h20 => ?_) (fun h20 => ?_)
    · refine lv_aload hx hb dX3_poke_25 (hl.at rfl) ?_
      refine lv_iload_n hx hb dX3_poke_27 rfl (hl.at rfl) ?_
      refine w_callV C hN hw (c_X0_hasWord l sz0 D cs X _ Y i hG x) ⟨(Nat.le_of_ble_eq_true rfl), (Nat.le_of_ble_eq_true rfl), mw185, mw111, cy_X0_hasWord⟩ mw182 mw183 mw184 (w_rec hw (c0 := 20) (i0 := i) (hG 20 (by decide) (by decide)) rfl rfl) rfl hl.1.1 rfl (Nat.le_of_ble_eq_true rfl) dX3_poke_28 ⟨Nat.zero_le _, Nat.zero_le _⟩ (fun X' Z' Y' v k n H locs hp hw => ?_)
      obtain ⟨rfl, rfl, rfl, rfl, rfl, rfl⟩ := hp
      rw [hF6]
      refine lv_if_ne (tgt := 37) hx hb dX3_poke_31 (by decide) (fun h31 => ?_) (fun h31 => ?_)
      · obtain ⟨xn, hxn, rfl⟩ := hasWv_in hF h31
        refine lv_aload_n hx hb dX3_poke_37 rfl (hl.at rfl) ?_
        refine w_get C hw (c0 := 0) (i0 := 0) rfl inA3 0 (by decide) mw16 rfl dX3_poke_38 (hX 0 (by decide)) rfl rfl rfl ?_
        refine lv_aload hx hb dX3_poke_41 (hl.at rfl) ?_
        refine lv_iload_n hx hb dX3_poke_43 rfl (hl.at rfl) ?_
        refine lv_iload_n hx hb dX3_poke_44 rfl (hl.at rfl) ?_
        refine w_callV C hN hw (c_X1_write l sz0 D cs X _ Y hX hU i hG h gp kc ks (S.1 i) hCR.1 hL (nI xn) u hkc hks) ⟨(Nat.le_of_ble_eq_true rfl), (Nat.le_of_ble_eq_true rfl), mw189, mw15, cy_X1_write⟩ mw186 mw187 mw188 (w_rec hw (c0 := 2) (i0 := 0) (hX 2 (by decide)) rfl rfl) rfl hl.1.1 rfl (Nat.le_of_ble_eq_true rfl) dX3_poke_45 ⟨by show 0 + kc ≤ kc; omega, by show 0 + ks ≤ ks; omega⟩ (fun X' Z' Y' v k n H locs hp hw => ?_)
        obtain ⟨rfl, rfl, hM1⟩ := hp
        obtain ⟨gp1, hT⟩ := SFp.ofW hM1
        rw [Nat.zero_add, Nat.zero_add]
        refine lv_iconst (v := 0) hx hb dX3_poke_48 (by decide) ?_
        have eo : pkS S (nI i) (nI xn) u = (setM S i (gu (S.2.1 i) 1 xn u), 0) := by unfold pkS; rw [if_neg (by rw [hy]; decide), ecl, if_neg (fun q => q h20), if_neg h31, nI_clamp (show xn < 2 ^ 31 by omega)]
        exact w_iret C hw hr hlocks dX3_poke_49 (by rw [eo]; exact CPo_S hCX hCR hS hi h0 (hT) (GR_write hM1 hL hxn rfl hR) rfl)
      · refine lv_bipush (v := -2) hx hb dX3_poke_34 (by decide) ?_
        have eo : pkS S (nI i) x u = (S, -2) := by unfold pkS; rw [if_neg (by rw [hy]; decide), ecl, if_neg (fun q => q h20), if_pos h31]
        exact w_iret C hw hr hlocks dX3_poke_36 (by rw [eo]; exact CPo_z hCX hCR (fun _ _ _ => rfl) rfl)
    · refine lv_iconst (v := -1) hx hb dX3_poke_23 (by decide) ?_
      have eo : pkS S (nI i) x u = (S, -1) := by unfold pkS; rw [if_neg (by rw [hy]; decide), ecl, if_pos h20]
      exact w_iret C hw hr hlocks dX3_poke_24 (by rw [eo]; exact CPo_z hCX hCR (fun _ _ _ => rfl) rfl)
  · refine w_astoreN hx hb dX3_poke_5 hl (Nat.le_of_ble_eq_true rfl) (fun ls hl => ?_)
    refine lv_aloadN hx hb dX3_poke_7 (hl.at rfl) ?_
    refine lv_ifnonnullN hx hb dX3_poke_9 ?_
    refine lv_bipush (v := -14) hx hb dX3_poke_12 (by decide) ?_
    have eo : pkS S a x u = (S, -14) := by unfold pkS; rw [if_pos hn]
    exact w_iret C hw hr hlocks dX3_poke_14 (by rw [eo]; exact CPo_z hCX hCR (fun _ _ _ => rfl) rfl)

set_option maxHeartbeats 4000000 in
set_option maxRecDepth 100000 in
theorem c_X3_pokeDisk (l : Launch) (sz0 : Nat) (D : va_G) (cs : Nat → ClassId) (X : Sh) (Z : ZT) (Y : va_W) (S : HS) (hS : HOK S) (hCX : CRx X) (h gp : Nat) (hCR : CR X Z S h gp) (a : Int32) (x : Int32) (u : Int32)  : Ctr l yX3_pokeDisk (wsM yX3_pokeDisk cX3_pokeDisk 5 (some .int)) ({ frames := 1, cells := 0, slots := 0, locals := 22 } : Room) sz0 D cs [.ref (X.1 0 0), .int a, .int x, .int u] X Z Y (CPo X Z Y gp (pdS S a x u).1 (pdS S a x u).2) := by
  refine Ctr.ofW (by decide +kernel) (by intro v hv; simp at hv; rcases hv with rfl | rfl | rfl | rfl <;> rfl) (Nat.le_of_ble_eq_true rfl) ?_
  intro p e s m below meth c ls C hr hlocks hname hl hN hw
  obtain ⟨hx, hb, hml, hown, hts⟩ := id C
  have hX := hCX.1
  have hU := hCX.2.1.1
  refine lv_aload_n hx hb dX3_pokeDisk_0 rfl (hl.at rfl) ?_
  refine lv_iload_n hx hb dX3_pokeDisk_1 rfl (hl.at rfl) ?_
  refine w_callV C hN hw (c_X3_find l sz0 D cs X _ Y S hS hCX h gp hCR a) ⟨(Nat.le_of_ble_eq_true rfl), (Nat.le_of_ble_eq_true rfl), mw105, mw3, cy_X3_find⟩ mw102 mw103 mw104 (w_rec hw (c0 := 0) (i0 := 0) (hX 0 (by decide)) rfl rfl) rfl hl.1.1 rfl (Nat.le_of_ble_eq_true rfl) dX3_pokeDisk_2 ⟨Nat.le_of_ble_eq_true rfl, Nat.le_of_ble_eq_true rfl⟩ (fun X' Z' Y' v k n H locs hp hw => ?_)
  obtain ⟨rfl, rfl, rfl, rfl, rfl, hp⟩ := hp
  rcases hp with ⟨i, hi, rfl, h0, rfl⟩ | ⟨hn, rfl⟩
  · have hL := hCR.gl hS hi h0
    obtain ⟨hmd, hh1, hF6, hR⟩ := (hCR.2.2 i hi).2 h0
    have hG := hCX.2.2 i hi hmd
    have hy := fnd_y hi h0
    have ecl : (nI i).toNatClampNeg = i := nI_clamp (by omega)
    have hF : S.1 i ≤ 64 := (hS.1 i hi).1
    refine w_astore hx hb dX3_pokeDisk_5 hl (Nat.le_of_ble_eq_true rfl) (fun ls hl => ?_)
    refine lv_aload hx hb dX3_pokeDisk_7 (hl.at rfl) ?_
    refine lv_ifnonnull (tgt := 15) hx hb dX3_pokeDisk_9 (by decide) ?_
    refine lv_aload hx hb dX3_pokeDisk_15 (hl.at rfl) ?_
    refine w_getN C hN hw (c0 := 20) (i0 := i) rfl inA0 1 (by decide) mw640 rfl dX3_pokeDisk_17 (hG 20 (by decide) (by decide)) rfl rfl rfl ?_
    rw [hR.1.1]
    refine lv_if_eq (tgt := 25) hx hb dX3_pokeDisk_20 (by decide) (fun h20 => ?_) (fun h20 => ?_)
    · refine lv_iload_n hx hb dX3_pokeDisk_25 rfl (hl.at rfl) ?_
      refine lv_if_lt (tgt := 39) hx hb dX3_pokeDisk_26 (by decide) (fun h26 => ?_) (fun h26 => ?_)
      · refine lv_bipush (v := -2) hx hb dX3_pokeDisk_39 (by decide) ?_
        have eo : pdS S (nI i) x u = (S, -2) := by unfold pdS; rw [if_neg (by rw [hy]; decide), ecl, if_neg (fun q => q h20), if_pos (Or.inl h26)]
        exact w_iret C hw hr hlocks dX3_pokeDisk_41 (by rw [eo]; exact CPo_z hCX hCR (fun _ _ _ => rfl) rfl)
      · refine lv_iload_n hx hb dX3_pokeDisk_29 rfl (hl.at rfl) ?_
        refine lv_aload hx hb dX3_pokeDisk_30 (hl.at rfl) ?_
        refine w_getN C hN hw (c0 := 20) (i0 := i) rfl inA0 8 (by decide) mw650 rfl dX3_pokeDisk_32 (hG 20 (by decide) (by decide)) rfl rfl rfl ?_
        refine w_len C hw (c0 := 22) (i0 := i) (ty := 0) dX3_pokeDisk_35 (hG 22 (by decide) (by decide)) rfl (n := 1024) (v := 1024) rfl rfl rfl (by decide) ?_
        refine lv_icmp_lt (tgt := 42) hx hb dX3_pokeDisk_36 (by decide) (fun h36 => ?_) (fun h36 => ?_)
        · have hv : vp_in x 1024 := vpr (N := 1024) (by decide) h26 (fun q => Int32.not_lt.mpr q h36)
          refine lv_aload hx hb dX3_pokeDisk_42 (hl.at rfl) ?_
          refine w_getN C hN hw (c0 := 20) (i0 := i) rfl inA0 8 (by decide) mw650 rfl dX3_pokeDisk_44 (hG 20 (by decide) (by decide)) rfl rfl rfl ?_
          refine lv_iload_n hx hb dX3_pokeDisk_47 rfl (hl.at rfl) ?_
          refine lv_iload_n hx hb dX3_pokeDisk_48 rfl (hl.at rfl) ?_
          refine w_ist C hw (c0 := 22) (i0 := i) dX3_pokeDisk_49 (hG 22 (by decide) (by decide)) rfl (fun _ => rfl) hv rfl (fun H locs hw => ?_)
          refine lv_iconst (v := 0) hx hb dX3_pokeDisk_50 (by decide) ?_
          have eo : pdS S (nI i) x u = (setM S i (gu (S.2.1 i) 2 x.toNatClampNeg u), 0) := by unfold pdS; rw [if_neg (by rw [hy]; decide), ecl, if_neg (fun q => q h20), if_neg (fun q => q.elim h26 (fun q => q h36))]
          exact w_iret C hw hr hlocks dX3_pokeDisk_51 (by rw [eo]; exact CPo_S hCX hCR hS hi h0 (SFp.ofU hCR.1 (Or.inl ⟨rfl, by decide, by decide⟩)) (GR_22 (upd_eq hR.2.2.1) hR) rfl)
        · refine lv_bipush (v := -2) hx hb dX3_pokeDisk_39 (by decide) ?_
          have eo : pdS S (nI i) x u = (S, -2) := by unfold pdS; rw [if_neg (by rw [hy]; decide), ecl, if_neg (fun q => q h20), if_pos (Or.inr h36)]
          exact w_iret C hw hr hlocks dX3_pokeDisk_41 (by rw [eo]; exact CPo_z hCX hCR (fun _ _ _ => rfl) rfl)
    · refine lv_iconst (v := -1) hx hb dX3_pokeDisk_23 (by decide) ?_
      have eo : pdS S (nI i) x u = (S, -1) := by unfold pdS; rw [if_neg (by rw [hy]; decide), ecl, if_pos h20]
      exact w_iret C hw hr hlocks dX3_pokeDisk_24 (by rw [eo]; exact CPo_z hCX hCR (fun _ _ _ => rfl) rfl)
  · refine w_astoreN hx hb dX3_pokeDisk_5 hl (Nat.le_of_ble_eq_true rfl) (fun ls hl => ?_)
    refine lv_aloadN hx hb dX3_pokeDisk_7 (hl.at rfl) ?_
    refine lv_ifnonnullN hx hb dX3_pokeDisk_9 ?_
    refine lv_bipush (v := -14) hx hb dX3_pokeDisk_12 (by decide) ?_
    have eo : pdS S a x u = (S, -14) := by unfold pdS; rw [if_pos hn]
    exact w_iret C hw hr hlocks dX3_pokeDisk_14 (by rw [eo]; exact CPo_z hCX hCR (fun _ _ _ => rfl) rfl)

set_option maxHeartbeats 4000000 in
set_option maxRecDepth 100000 in
theorem c_X3_start (l : Launch) (sz0 : Nat) (D : va_G) (cs : Nat → ClassId) (X : Sh) (Z : ZT) (Y : va_W) (S : HS) (hS : HOK S) (hCX : CRx X) (h gp : Nat) (hCR : CR X Z S h gp) (a : Int32) (x : Int32)  : Ctr l yX3_start (wsM yX3_start cX3_start 4 (some .int)) ({ frames := 3, cells := 0, slots := 0, locals := 63 } : Room) sz0 D cs [.ref (X.1 0 0), .int a, .int x] X Z Y (CPo X Z Y gp (stS S a x).1 (stS S a x).2) := by
  refine Ctr.ofW (by decide +kernel) (by intro v hv; simp at hv; rcases hv with rfl | rfl | rfl <;> rfl) (Nat.le_of_ble_eq_true rfl) ?_
  intro p e s m below meth c ls C hr hlocks hname hl hN hw
  obtain ⟨hx, hb, hml, hown, hts⟩ := id C
  have hX := hCX.1
  have hU := hCX.2.1.1
  refine lv_aload_n hx hb dX3_start_0 rfl (hl.at rfl) ?_
  refine lv_iload_n hx hb dX3_start_1 rfl (hl.at rfl) ?_
  refine w_callV C hN hw (c_X3_find l sz0 D cs X _ Y S hS hCX h gp hCR a) ⟨(Nat.le_of_ble_eq_true rfl), (Nat.le_of_ble_eq_true rfl), mw105, mw3, cy_X3_find⟩ mw102 mw103 mw104 (w_rec hw (c0 := 0) (i0 := 0) (hX 0 (by decide)) rfl rfl) rfl hl.1.1 rfl (Nat.le_of_ble_eq_true rfl) dX3_start_2 ⟨Nat.le_of_ble_eq_true rfl, Nat.le_of_ble_eq_true rfl⟩ (fun X' Z' Y' v k n H locs hp hw => ?_)
  obtain ⟨rfl, rfl, rfl, rfl, rfl, hp⟩ := hp
  rcases hp with ⟨i, hi, rfl, h0, rfl⟩ | ⟨hn, rfl⟩
  · have hL := hCR.gl hS hi h0
    obtain ⟨hmd, hh1, hF6, hR⟩ := (hCR.2.2 i hi).2 h0
    have hG := hCX.2.2 i hi hmd
    have hy := fnd_y hi h0
    have ecl : (nI i).toNatClampNeg = i := nI_clamp (by omega)
    have hF : S.1 i ≤ 64 := (hS.1 i hi).1
    refine w_astore_n hx hb dX3_start_5 rfl hl (Nat.le_of_ble_eq_true rfl) (fun ls hl => ?_)
    refine lv_aload_n hx hb dX3_start_6 rfl (hl.at rfl) ?_
    refine lv_ifnonnull (tgt := 13) hx hb dX3_start_7 (by decide) ?_
    refine lv_aload_n hx hb dX3_start_13 rfl (hl.at rfl) ?_
    refine w_getN C hN hw (c0 := 20) (i0 := i) rfl inA0 1 (by decide) mw640 rfl dX3_start_14 (hG 20 (by decide) (by decide)) rfl rfl rfl ?_
    rw [hR.1.1]
    refine lv_if_eq (tgt := 22) hx hb dX3_start_17 (by decide) (fun h17 => ?_) (fun h17 => ?_)
    · refine lv_aload_n hx hb dX3_start_22 rfl (hl.at rfl) ?_
      refine w_callV C hN hw (c_X0_reset l sz0 D cs X _ Y i hG) ⟨(Nat.le_of_ble_eq_true rfl), (Nat.le_of_ble_eq_true rfl), mw135, mw111, cy_X0_reset⟩ mw264 mw133 mw134 (w_rec hw (c0 := 20) (i0 := i) (hG 20 (by decide) (by decide)) rfl rfl) rfl hl.1.1 rfl (Nat.le_of_ble_eq_true rfl) dX3_start_23 ⟨Nat.le_of_ble_eq_true rfl, Nat.le_of_ble_eq_true rfl⟩ (fun X' Z' Y' v k n H locs hp hw => ?_)
      obtain ⟨rfl, rfl, rfl, rfl, rfl, rfl⟩ := hp
      refine lv_aload_n hx hb dX3_start_26 rfl (hl.at rfl) ?_
      refine lv_iload_n hx hb dX3_start_27 rfl (hl.at rfl) ?_
      refine w_putN C hN hw (c0 := 20) (i0 := i) rfl inA0 tyX0_ok nmX0 2 (by decide) mw643 rfl rfl rfl dX3_start_28 (hG 20 (by decide) (by decide)) rfl rfl rfl rfl (Nat.le_of_ble_eq_true rfl) rfl (fun H locs hw => ?_)
      refine lv_aload_n hx hb dX3_start_31 rfl (hl.at rfl) ?_
      refine lv_iconst (v := 1) hx hb dX3_start_32 (by decide) ?_
      refine w_putN C hN hw (c0 := 20) (i0 := i) rfl inA0 tyX0_ok nmX0 3 (by decide) mw645 rfl rfl rfl dX3_start_33 (hG 20 (by decide) (by decide)) rfl rfl rfl rfl (Nat.le_of_ble_eq_true rfl) rfl (fun H locs hw => ?_)
      refine lv_aload_n hx hb dX3_start_36 rfl (hl.at rfl) ?_
      refine lv_iconst (v := 1) hx hb dX3_start_37 (by decide) ?_
      refine w_putN C hN hw (c0 := 20) (i0 := i) rfl inA0 tyX0_ok nmX0 1 (by decide) mw640 rfl rfl rfl dX3_start_38 (hG 20 (by decide) (by decide)) rfl rfl rfl rfl (Nat.le_of_ble_eq_true rfl) rfl (fun H locs hw => ?_)
      refine lv_iconst (v := 0) hx hb dX3_start_41 (by decide) ?_
      simp only [upr_uu, upr_s] at hw
      have s1 := SFp_reset (i := i) hCR.1
      have eo : stS S (nI i) x = (setM S i (resG (S.2.1 i) (S.1 i) x), 0) := by unfold stS; rw [if_neg (by rw [hy]; decide), ecl, if_neg (fun q => q h17)]
      exact w_iret C hw hr hlocks dX3_start_42 (by rw [eo]; exact CPo_S hCX hCR hS hi h0 (SFp.trans s1 (SFp.ofU s1.hI (Or.inr (Or.inr ⟨rfl, rfl, rfl, rfl⟩)))) (GR_start hR hF6) rfl)
    · refine lv_iconst (v := -1) hx hb dX3_start_20 (by decide) ?_
      have eo : stS S (nI i) x = (S, -1) := by unfold stS; rw [if_neg (by rw [hy]; decide), ecl, if_pos h17]
      exact w_iret C hw hr hlocks dX3_start_21 (by rw [eo]; exact CPo_z hCX hCR (fun _ _ _ => rfl) rfl)
  · refine w_astore_nN hx hb dX3_start_5 rfl hl (Nat.le_of_ble_eq_true rfl) (fun ls hl => ?_)
    refine lv_aload_nN hx hb dX3_start_6 rfl (hl.at rfl) ?_
    refine lv_ifnonnullN hx hb dX3_start_7 ?_
    refine lv_bipush (v := -14) hx hb dX3_start_10 (by decide) ?_
    have eo : stS S a x = (S, -14) := by unfold stS; rw [if_pos hn]
    exact w_iret C hw hr hlocks dX3_start_12 (by rw [eo]; exact CPo_z hCX hCR (fun _ _ _ => rfl) rfl)

set_option maxHeartbeats 4000000 in
set_option maxRecDepth 100000 in
theorem c_X3_stop (l : Launch) (sz0 : Nat) (D : va_G) (cs : Nat → ClassId) (X : Sh) (Z : ZT) (Y : va_W) (S : HS) (hS : HOK S) (hCX : CRx X) (h gp : Nat) (hCR : CR X Z S h gp) (a : Int32)  : Ctr l yX3_stop (wsM yX3_stop cX3_stop 3 (some .int)) ({ frames := 1, cells := 0, slots := 0, locals := 22 } : Room) sz0 D cs [.ref (X.1 0 0), .int a] X Z Y (CPo X Z Y gp (spS S a).1 (spS S a).2) := by
  refine Ctr.ofW (by decide +kernel) (by intro v hv; simp at hv; rcases hv with rfl | rfl <;> rfl) (Nat.le_of_ble_eq_true rfl) ?_
  intro p e s m below meth c ls C hr hlocks hname hl hN hw
  obtain ⟨hx, hb, hml, hown, hts⟩ := id C
  have hX := hCX.1
  have hU := hCX.2.1.1
  refine lv_aload_n hx hb dX3_stop_0 rfl (hl.at rfl) ?_
  refine lv_iload_n hx hb dX3_stop_1 rfl (hl.at rfl) ?_
  refine w_callV C hN hw (c_X3_find l sz0 D cs X _ Y S hS hCX h gp hCR a) ⟨(Nat.le_of_ble_eq_true rfl), (Nat.le_of_ble_eq_true rfl), mw105, mw3, cy_X3_find⟩ mw102 mw103 mw104 (w_rec hw (c0 := 0) (i0 := 0) (hX 0 (by decide)) rfl rfl) rfl hl.1.1 rfl (Nat.le_of_ble_eq_true rfl) dX3_stop_2 ⟨Nat.le_of_ble_eq_true rfl, Nat.le_of_ble_eq_true rfl⟩ (fun X' Z' Y' v k n H locs hp hw => ?_)
  obtain ⟨rfl, rfl, rfl, rfl, rfl, hp⟩ := hp
  rcases hp with ⟨i, hi, rfl, h0, rfl⟩ | ⟨hn, rfl⟩
  · have hL := hCR.gl hS hi h0
    obtain ⟨hmd, hh1, hF6, hR⟩ := (hCR.2.2 i hi).2 h0
    have hG := hCX.2.2 i hi hmd
    have hy := fnd_y hi h0
    have ecl : (nI i).toNatClampNeg = i := nI_clamp (by omega)
    have hF : S.1 i ≤ 64 := (hS.1 i hi).1
    refine w_astore_n hx hb dX3_stop_5 rfl hl (Nat.le_of_ble_eq_true rfl) (fun ls hl => ?_)
    refine lv_aload_n hx hb dX3_stop_6 rfl (hl.at rfl) ?_
    refine lv_ifnonnull (tgt := 13) hx hb dX3_stop_7 (by decide) ?_
    refine lv_aload_n hx hb dX3_stop_13 rfl (hl.at rfl) ?_
    refine lv_iconst (v := 0) hx hb dX3_stop_14 (by decide) ?_
    refine w_putN C hN hw (c0 := 20) (i0 := i) rfl inA0 tyX0_ok nmX0 1 (by decide) mw640 rfl rfl rfl dX3_stop_15 (hG 20 (by decide) (by decide)) rfl rfl rfl rfl (Nat.le_of_ble_eq_true rfl) rfl (fun H locs hw => ?_)
    refine lv_iconst (v := 0) hx hb dX3_stop_18 (by decide) ?_
    have eo : spS S (nI i) = (setM S i (gu (S.2.1 i) 0 1 0), 0) := by unfold spS; rw [if_neg (by rw [hy]; decide), ecl]
    exact w_iret C hw hr hlocks dX3_stop_19 (by rw [eo]; exact CPo_S hCX hCR hS hi h0 (SFp.ofU hCR.1 (Or.inr (Or.inr ⟨rfl, rfl, rfl, rfl⟩))) (GR_20 (by decide) hR) rfl)
  · refine w_astore_nN hx hb dX3_stop_5 rfl hl (Nat.le_of_ble_eq_true rfl) (fun ls hl => ?_)
    refine lv_aload_nN hx hb dX3_stop_6 rfl (hl.at rfl) ?_
    refine lv_ifnonnullN hx hb dX3_stop_7 ?_
    refine lv_bipush (v := -14) hx hb dX3_stop_10 (by decide) ?_
    have eo : spS S a = (S, -14) := by unfold spS; rw [if_pos hn]
    exact w_iret C hw hr hlocks dX3_stop_12 (by rw [eo]; exact CPo_z hCX hCR (fun _ _ _ => rfl) rfl)

set_option maxHeartbeats 4000000 in
set_option maxRecDepth 100000 in
theorem c_X3_input (l : Launch) (sz0 : Nat) (D : va_G) (cs : Nat → ClassId) (X : Sh) (Z : ZT) (Y : va_W) (S : HS) (hS : HOK S) (hCX : CRx X) (h gp : Nat) (hCR : CR X Z S h gp) (a : Int32) (u : Int32)  : Ctr l yX3_input (wsM yX3_input cX3_input 4 (some .int)) ({ frames := 1, cells := 0, slots := 0, locals := 22 } : Room) sz0 D cs [.ref (X.1 0 0), .int a, .int u] X Z Y (CPo X Z Y gp (ipS S a u).1 (ipS S a u).2) := by
  refine Ctr.ofW (by decide +kernel) (by intro v hv; simp at hv; rcases hv with rfl | rfl | rfl <;> rfl) (Nat.le_of_ble_eq_true rfl) ?_
  intro p e s m below meth c ls C hr hlocks hname hl hN hw
  obtain ⟨hx, hb, hml, hown, hts⟩ := id C
  have hX := hCX.1
  have hU := hCX.2.1.1
  refine lv_aload_n hx hb dX3_input_0 rfl (hl.at rfl) ?_
  refine lv_iload_n hx hb dX3_input_1 rfl (hl.at rfl) ?_
  refine w_callV C hN hw (c_X3_find l sz0 D cs X _ Y S hS hCX h gp hCR a) ⟨(Nat.le_of_ble_eq_true rfl), (Nat.le_of_ble_eq_true rfl), mw105, mw3, cy_X3_find⟩ mw102 mw103 mw104 (w_rec hw (c0 := 0) (i0 := 0) (hX 0 (by decide)) rfl rfl) rfl hl.1.1 rfl (Nat.le_of_ble_eq_true rfl) dX3_input_2 ⟨Nat.le_of_ble_eq_true rfl, Nat.le_of_ble_eq_true rfl⟩ (fun X' Z' Y' v k n H locs hp hw => ?_)
  obtain ⟨rfl, rfl, rfl, rfl, rfl, hp⟩ := hp
  rcases hp with ⟨i, hi, rfl, h0, rfl⟩ | ⟨hn, rfl⟩
  · have hL := hCR.gl hS hi h0
    obtain ⟨hmd, hh1, hF6, hR⟩ := (hCR.2.2 i hi).2 h0
    have hG := hCX.2.2 i hi hmd
    have hy := fnd_y hi h0
    have ecl : (nI i).toNatClampNeg = i := nI_clamp (by omega)
    have hF : S.1 i ≤ 64 := (hS.1 i hi).1
    refine w_astore_n hx hb dX3_input_5 rfl hl (Nat.le_of_ble_eq_true rfl) (fun ls hl => ?_)
    refine lv_aload_n hx hb dX3_input_6 rfl (hl.at rfl) ?_
    refine lv_ifnonnull (tgt := 13) hx hb dX3_input_7 (by decide) ?_
    refine lv_aload_n hx hb dX3_input_13 rfl (hl.at rfl) ?_
    refine lv_iload_n hx hb dX3_input_14 rfl (hl.at rfl) ?_
    refine w_callV C hN hw (c_X0_arrive l sz0 D cs X _ Y i hG u) ⟨(Nat.le_of_ble_eq_true rfl), (Nat.le_of_ble_eq_true rfl), mw285, mw111, cy_X0_arrive⟩ mw282 mw283 mw284 (w_rec hw (c0 := 20) (i0 := i) (hG 20 (by decide) (by decide)) rfl rfl) rfl hl.1.1 rfl (Nat.le_of_ble_eq_true rfl) dX3_input_15 ⟨Nat.le_of_ble_eq_true rfl, Nat.le_of_ble_eq_true rfl⟩ (fun X' Z' Y' v k n H locs hp hw => ?_)
    obtain ⟨rfl, rfl, rfl, rfl, hp⟩ := hp
    rcases hp with ⟨q14, rfl, rfl⟩ | ⟨q14, rfl, rfl⟩
    · refine lv_if_ne (tgt := 24) hx hb dX3_input_18 (by decide) (fun h18 => ?_) (fun h18 => ?_)
      · exact absurd rfl h18
      · refine lv_bipush (v := -12) hx hb dX3_input_21 (by decide) ?_
        have eo : ipS S (nI i) u = (S, -12) := by unfold ipS; rw [if_neg (by rw [hy]; decide), ecl, if_pos (by rw [← hR.1.2.2.2.2.2.1]; exact q14)]
        exact w_iret C hw hr hlocks dX3_input_23 (by rw [eo]; exact CPo_z hCX hCR (fun _ _ _ => rfl) rfl)
    · have hlt : S.2.1 i 0 14 < 64 := by rw [← hR.1.2.2.2.2.2.1]; exact q14
      refine lv_if_ne (tgt := 24) hx hb dX3_input_18 (by decide) (fun h18 => ?_) (fun h18 => ?_)
      · have hR1 := GR_ari (a := u) hR q14
        have s0 := SFp.ofU (i := i) (c := 26) (b := i) (f := upd (Z 26 i) ((Z 20 i 13 + Z 20 i 14) &&& 63).toNatClampNeg u) hCR.1 (Or.inl ⟨rfl, by decide, by decide⟩)
        have s1 := SFp.trans s0 (SFp.ofU (i := i) (c := 20) (b := i) (f := upd (Z 20 i) 14 (Z 20 i 14 + 1)) s0.hI (Or.inr (Or.inr ⟨rfl, rfl, by rw [upr_k (by decide)]; rfl, by rw [upr_k (by decide)]; rfl⟩)))
        refine lv_aload_n hx hb dX3_input_24 rfl (hl.at rfl) ?_
        refine w_getN C hN hw (c0 := 20) (i0 := i) rfl inA0 1 (by decide) mw640 rfl dX3_input_25 (hG 20 (by decide) (by decide)) rfl rfl rfl ?_
        rw [upr_s, upd_n (show (1 : Nat) ≠ 14 by decide), hR.1.1]
        refine lv_iconst (v := 2) hx hb dX3_input_28 (by decide) ?_
        refine lv_icmp_ne (tgt := 37) hx hb dX3_input_29 (by decide) (fun h29 => ?_) (fun h29 => ?_)
        · refine lv_iconst (v := 0) hx hb dX3_input_37 (by decide) ?_
          have eo : ipS S (nI i) u = (setM S i (ariS (S.2.1 i) u), 0) := by unfold ipS; rw [if_neg (by rw [hy]; decide), ecl, if_neg (fun q => q hlt), if_neg h29]
          exact w_iret C hw hr hlocks dX3_input_38 (by rw [eo]; exact CPo_S hCX hCR hS hi h0 (s1) (hR1) rfl)
        · refine lv_aload_n hx hb dX3_input_32 rfl (hl.at rfl) ?_
          refine lv_iconst (v := 1) hx hb dX3_input_33 (by decide) ?_
          refine w_putN C hN hw (c0 := 20) (i0 := i) rfl inA0 tyX0_ok nmX0 1 (by decide) mw640 rfl rfl rfl dX3_input_34 (hG 20 (by decide) (by decide)) rfl rfl rfl rfl (Nat.le_of_ble_eq_true rfl) rfl (fun H locs hw => ?_)
          refine lv_iconst (v := 0) hx hb dX3_input_37 (by decide) ?_
          have eo : ipS S (nI i) u = (setM S i (gu (ariS (S.2.1 i) u) 0 1 1), 0) := by unfold ipS; rw [if_neg (by rw [hy]; decide), ecl, if_neg (fun q => q hlt), if_pos h29]
          exact w_iret C hw hr hlocks dX3_input_38 (by rw [eo]; exact CPo_S hCX hCR hS hi h0 (SFp.trans s1 (SFp.ofU s1.hI (Or.inr (Or.inr ⟨rfl, rfl, rfl, rfl⟩)))) (GR_20 (by decide) hR1) rfl)
      · exact absurd h18 (by decide)
  · refine w_astore_nN hx hb dX3_input_5 rfl hl (Nat.le_of_ble_eq_true rfl) (fun ls hl => ?_)
    refine lv_aload_nN hx hb dX3_input_6 rfl (hl.at rfl) ?_
    refine lv_ifnonnullN hx hb dX3_input_7 ?_
    refine lv_bipush (v := -14) hx hb dX3_input_10 (by decide) ?_
    have eo : ipS S a u = (S, -14) := by unfold ipS; rw [if_pos hn]
    exact w_iret C hw hr hlocks dX3_input_12 (by rw [eo]; exact CPo_z hCX hCR (fun _ _ _ => rfl) rfl)

set_option maxHeartbeats 4000000 in
set_option maxRecDepth 100000 in
theorem c_X3_drop (l : Launch) (sz0 : Nat) (D : va_G) (cs : Nat → ClassId) (X : Sh) (Z : ZT) (Y : va_W) (S : HS) (hS : HOK S) (hCX : CRx X) (h gp : Nat) (hCR : CR X Z S h gp) (a : Int32)  : Ctr l yX3_drop (wsM yX3_drop cX3_drop 3 (some .int)) ({ frames := 2, cells := 0, slots := 0, locals := 45 } : Room) sz0 D cs [.ref (X.1 0 0), .int a] X Z Y (CPo X Z Y gp (drS S a).1 (drS S a).2) := by
  refine Ctr.ofW (by decide +kernel) (by intro v hv; simp at hv; rcases hv with rfl | rfl <;> rfl) (Nat.le_of_ble_eq_true rfl) ?_
  intro p e s m below meth c ls C hr hlocks hname hl hN hw
  obtain ⟨hx, hb, hml, hown, hts⟩ := id C
  have hX := hCX.1
  have hU := hCX.2.1.1
  refine lv_aload_n hx hb dX3_drop_0 rfl (hl.at rfl) ?_
  refine lv_iload_n hx hb dX3_drop_1 rfl (hl.at rfl) ?_
  refine w_callV C hN hw (c_X3_find l sz0 D cs X _ Y S hS hCX h gp hCR a) ⟨(Nat.le_of_ble_eq_true rfl), (Nat.le_of_ble_eq_true rfl), mw105, mw3, cy_X3_find⟩ mw102 mw103 mw104 (w_rec hw (c0 := 0) (i0 := 0) (hX 0 (by decide)) rfl rfl) rfl hl.1.1 rfl (Nat.le_of_ble_eq_true rfl) dX3_drop_2 ⟨Nat.le_of_ble_eq_true rfl, Nat.le_of_ble_eq_true rfl⟩ (fun X' Z' Y' v k n H locs hp hw => ?_)
  obtain ⟨rfl, rfl, rfl, rfl, rfl, hp⟩ := hp
  rcases hp with ⟨i, hi, rfl, h0, rfl⟩ | ⟨hn, rfl⟩
  · have hL := hCR.gl hS hi h0
    obtain ⟨hmd, hh1, hF6, hR⟩ := (hCR.2.2 i hi).2 h0
    have hG := hCX.2.2 i hi hmd
    have hy := fnd_y hi h0
    have ecl : (nI i).toNatClampNeg = i := nI_clamp (by omega)
    have hF : S.1 i ≤ 64 := (hS.1 i hi).1
    obtain ⟨o, hd, g3, g4, fc, hA, hB, hg⟩ := hCR.1
    refine w_astore_n hx hb dX3_drop_5 rfl hl (Nat.le_of_ble_eq_true rfl) (fun ls hl => ?_)
    refine lv_aload_n hx hb dX3_drop_6 rfl (hl.at rfl) ?_
    refine lv_ifnonnull (tgt := 13) hx hb dX3_drop_7 (by decide) ?_
    refine lv_aload_n hx hb dX3_drop_13 rfl (hl.at rfl) ?_
    refine w_get C hw (c0 := 0) (i0 := 0) rfl inA3 0 (by decide) mw16 rfl dX3_drop_14 (hX 0 (by decide)) rfl rfl rfl ?_
    refine lv_aload_n hx hb dX3_drop_17 rfl (hl.at rfl) ?_
    refine w_callV C hN hw (c_X1_release l sz0 D cs X _ Y hX i hG h o hd g3 g4 fc (S.1 i) hA hB hL) ⟨(Nat.le_of_ble_eq_true rfl), (Nat.le_of_ble_eq_true rfl), mw320, mw15, cy_X1_release⟩ mw317 mw318 mw319 (w_rec hw (c0 := 2) (i0 := 0) (hX 2 (by decide)) rfl rfl) rfl hl.1.1 rfl (Nat.le_of_ble_eq_true rfl) dX3_drop_18 ⟨Nat.le_of_ble_eq_true rfl, Nat.le_of_ble_eq_true rfl⟩ (fun X' Z' Y' v k n H locs hp hw => ?_)
    obtain ⟨rfl, rfl, rfl, rfl, rfl, hRL⟩ := hp
    refine lv_aload_n hx hb dX3_drop_21 rfl (hl.at rfl) ?_
    refine lv_iconst (v := 0) hx hb dX3_drop_22 (by decide) ?_
    refine w_putN C hN hw (c0 := 20) (i0 := i) rfl inA0 tyX0_ok nmX0 0 (by decide) mw638 rfl rfl rfl dX3_drop_23 (hG 20 (by decide) (by decide)) rfl (by decide) (by decide) rfl (Nat.le_of_ble_eq_true rfl) rfl (fun H locs hw => ?_)
    refine lv_iconst (v := 0) hx hb dX3_drop_26 (by decide) ?_
    have eo : drS S (nI i) = ((upn S.1 i 0, S.2.1, S.2.2), 0) := by unfold drS; rw [if_neg (by rw [hy]; decide), ecl]
    exact w_iret C hw hr hlocks dX3_drop_27 (by rw [eo]; exact CPo_z hCX (CR_drop hCR hS hi h0 hA hB hg hRL) (fun c j q => by rw [upr_k (by omega)]; exact hRL.2.2.2.1 c j (by omega)) rfl)
  · refine w_astore_nN hx hb dX3_drop_5 rfl hl (Nat.le_of_ble_eq_true rfl) (fun ls hl => ?_)
    refine lv_aload_nN hx hb dX3_drop_6 rfl (hl.at rfl) ?_
    refine lv_ifnonnullN hx hb dX3_drop_7 ?_
    refine lv_bipush (v := -14) hx hb dX3_drop_10 (by decide) ?_
    have eo : drS S a = (S, -14) := by unfold drS; rw [if_pos hn]
    exact w_iret C hw hr hlocks dX3_drop_12 (by rw [eo]; exact CPo_z hCX hCR (fun _ _ _ => rfl) rfl)
