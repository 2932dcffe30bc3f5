/-! ===== GuestHouse: what it finds ===== -/

set_option maxHeartbeats 4000000 in
set_option maxRecDepth 100000 in
theorem c_X3_find (l : Launch) (sz0 : Nat) (D : va_G) (cs : Nat → ClassId) (X : Sh) (Z : ZT) (Y : va_W) (S : HS) (hS : HOK S) (hCX : CRx X) (h gp : Nat) (hCR : CR X Z S h gp) (a : Int32) : Ctr l yX3_find (wsM yX3_find cX3_find 3 (some (.object "GuestHouse$Guest"))) ({ frames := 0, cells := 0, slots := 0, locals := 0 } : Room) sz0 D cs [.ref (X.1 0 0), .int a] X Z Y (Pz X Y (fun Z' v => Z = Z' ∧ ((∃ i, i < 8 ∧ a = nI i ∧ S.1 i ≠ 0 ∧ v = some (.ref (X.1 20 i))) ∨ (fnd S a = false ∧ v = some .null)))) := by
  refine Ctr.ofW (by decide +kernel) (by intro v hv; simp at hv; rcases hv with rfl | rfl <;> rfl) (Nat.le_of_ble_eq_true rfl) ?_
  intro p e s m below meth c ls C hr hlocks hname hl hN hw
  obtain ⟨hx, hb, hml, hown, hts⟩ := id C
  have hX := hCX.1
  have hU := hCX.2.1.1
  refine lv_iload_n hx hb dX3_find_0 rfl (hl.at rfl) ?_
  refine lv_if_lt (tgt := 10) hx hb dX3_find_1 (by decide) (fun h1 => ?_) (fun h1 => ?_)
  · refine lv_null hx hb dX3_find_10 ?_
    exact w_aret C hw hr (Or.inl ⟨_, rfl⟩) (Or.inl rfl) hlocks dX3_find_11 ⟨rfl, rfl, rfl, rfl, rfl, Or.inr ⟨fnd_n (fun q => q.1 h1), rfl⟩⟩
  · refine lv_iload_n hx hb dX3_find_4 rfl (hl.at rfl) ?_
    refine lv_bipush (v := 8) hx hb dX3_find_5 (by decide) ?_
    refine lv_icmp_lt (tgt := 12) hx hb dX3_find_7 (by decide) (fun h7 => ?_) (fun h7 => ?_)
    · obtain ⟨i, hi31, rfl⟩ := nI_of h1
      have hi : i < 8 := Nat.not_le.mp (fun q => Int32.not_lt.mpr (show nI 8 ≤ nI i from nI_le q hi31) h7)
      have hg := hCR.2.2 i hi
      refine lv_aload_n hx hb dX3_find_12 rfl (hl.at rfl) ?_
      refine w_get C hw (c0 := 0) (i0 := 0) rfl inA3 2 (by decide) mw22 rfl dX3_find_13 (hX 0 (by decide)) rfl rfl rfl ?_
      refine lv_iload_n hx hb dX3_find_16 rfl (hl.at rfl) ?_
      by_cases hm : X.2.2.1 i = true
      · have hG := hCX.2.2 i hi hm
        refine w_ald C hw (c0 := 1) (i0 := 0) (t := 2) dX3_find_17 (hX 1 (by decide)) rfl rfl rfl (vp_in_nI hi (by decide)) (nI_clamp (by omega)) ?_
        rw [arefG hm]
        refine w_astore_n hx hb dX3_find_18 rfl hl (Nat.le_of_ble_eq_true rfl) (fun ls hl => ?_)
        refine lv_aload_n hx hb dX3_find_19 rfl (hl.at rfl) ?_
        refine lv_ifnull hx hb dX3_find_20 ?_
        refine lv_aload_n hx hb dX3_find_23 rfl (hl.at rfl) ?_
        refine w_getN C hN hw (c0 := 20) (i0 := i) rfl inA0 0 (by decide) mw638 rfl dX3_find_24 (hG 20 (by decide) (by decide)) rfl rfl rfl ?_
        refine lv_if_eq (tgt := 34) hx hb dX3_find_27 (by decide) (fun h27 => ?_) (fun h27 => ?_)
        · refine lv_null hx hb dX3_find_34 ?_
          exact w_aret C hw hr (Or.inl ⟨_, rfl⟩) (Or.inl rfl) hlocks dX3_find_35 ⟨rfl, rfl, rfl, rfl, rfl, Or.inr ⟨fnd_n (fun q => absurd h27 (by rw [nI_clamp hi31] at q; rw [(hg.2 q.2.2).2.1]; decide)), rfl⟩⟩
        · refine lv_aload_n hx hb dX3_find_30 rfl (hl.at rfl) ?_
          refine lv_goto (tgt := 35) hx hb dX3_find_31 (by decide) ?_
          exact w_aret C hw hr (Or.inl ⟨_, rfl⟩) (Or.inr ⟨_, rfl⟩) hlocks dX3_find_35 ⟨rfl, rfl, rfl, rfl, rfl, Or.inl ⟨i, hi, rfl, fun q => hg.1 q ⟨hm, h27⟩, rfl⟩⟩
      · refine w_ald C hw (c0 := 1) (i0 := 0) (t := 2) dX3_find_17 (hX 1 (by decide)) rfl rfl rfl (vp_in_nI hi (by decide)) (nI_clamp (by omega)) ?_
        rw [arefN hm]
        refine w_astore_nN hx hb dX3_find_18 rfl hl (Nat.le_of_ble_eq_true rfl) (fun ls hl => ?_)
        refine lv_aload_nN hx hb dX3_find_19 rfl (hl.at rfl) ?_
        refine lv_ifnullN (tgt := 34) hx hb dX3_find_20 (by decide) ?_
        refine lv_null hx hb dX3_find_34 ?_
        exact w_aret C hw hr (Or.inl ⟨_, rfl⟩) (Or.inl rfl) hlocks dX3_find_35 ⟨rfl, rfl, rfl, rfl, rfl, Or.inr ⟨fnd_n (fun q => hm (by rw [nI_clamp hi31] at q; exact (hg.2 q.2.2).1)), rfl⟩⟩
    · refine lv_null hx hb dX3_find_10 ?_
      exact w_aret C hw hr (Or.inl ⟨_, rfl⟩) (Or.inl rfl) hlocks dX3_find_11 ⟨rfl, rfl, rfl, rfl, rfl, Or.inr ⟨fnd_n (fun q => q.2.1 (Int32.not_lt.mp h7)), rfl⟩⟩

set_option maxHeartbeats 4000000 in
set_option maxRecDepth 100000 in
theorem c_X3_leastFree (l : Launch) (sz0 : Nat) (D : va_G) (cs : Nat → ClassId) (X : Sh) (Z : ZT) (Y : va_W) (S : HS) (hS : HOK S) (hCX : CRx X) (h gp : Nat) (hCR : CR X Z S h gp) : Ctr l yX3_leastFree (wsM yX3_leastFree cX3_leastFree 2 (some .int)) ({ frames := 1, cells := 0, slots := 0, locals := 22 } : Room) sz0 D cs [.ref (X.1 0 0)] X Z Y (Pz X Y (fun Z' v => v = some (.int (if leastF S.1 = 8 then -1 else nI (leastF S.1))) ∧ Z = Z')) := by
  refine Ctr.ofW (by decide +kernel) (by intro v hv; simp at hv; rcases hv with rfl <;> rfl) (Nat.le_of_ble_eq_true rfl) ?_
  intro p e s m below meth c ls C hr hlocks hname hl hN hw
  obtain ⟨hx, hb, hml, hown, hts⟩ := id C
  have hX := hCX.1
  have hU := hCX.2.1.1
  refine lv_iconst (v := 0) hx hb dX3_leastFree_0 (by decide) ?_
  refine w_istore_n hx hb dX3_leastFree_1 rfl hl (Nat.le_of_ble_eq_true rfl) (fun ls hl => ?_)
  have loop : ∀ (d j : Nat), j + d = 8 → ∀ (H : Heap) (locs : List Loc) (ls : Array Slot), lo ls [some (.ref (X.1 0 0)), some (.int (nI j))] → leastF S.1 = lfF S.1 d j → Wd sz0 D cs s X Z Y H locs → W p l e ({ frames := 1, cells := 0, slots := 0, locals := 22 } : Room) s m ([.ref (X.1 0 0)] : List Value).toArray below meth c H locs 0 0 (xQ below (CQ sz0 D cs (Pz X Y (fun Z' v => v = some (.int (if leastF S.1 = 8 then -1 else nI (leastF S.1))) ∧ Z = Z'))) ([.ref (X.1 0 0)] : List Value).toArray s (Asz sz0)) (F0 m 2 ls []) := by
    intro d
    induction d with
    | zero =>
      intro j hj H locs ls hl hlf hw
      refine lv_iload_n hx hb dX3_leastFree_2 rfl (hl.at rfl) ?_
      refine lv_bipush (v := 8) hx hb dX3_leastFree_3 (by decide) ?_
      refine lv_icmp_ge (tgt := 24) hx hb dX3_leastFree_5 (by decide) (fun h5 => ?_) (fun h5 => ?_)
      · refine lv_iconst (v := -1) hx hb dX3_leastFree_24 (by decide) ?_
        exact w_iret C hw hr hlocks dX3_leastFree_25 ⟨rfl, rfl, rfl, rfl, by rw [if_pos (hlf.trans (by show j = 8; omega))], rfl⟩
      · exact absurd (nI_le (show 8 ≤ j by omega) (by omega)) h5
    | succ d ih =>
      intro j hj H locs ls hl hlf hw
      refine lv_iload_n hx hb dX3_leastFree_2 rfl (hl.at rfl) ?_
      refine lv_bipush (v := 8) hx hb dX3_leastFree_3 (by decide) ?_
      refine lv_icmp_ge (tgt := 24) hx hb dX3_leastFree_5 (by decide) (fun h5 => ?_) (fun h5 => ?_)
      · exact absurd (show nI 8 ≤ nI j from h5) (nI_ge (show j < 8 by omega) (by decide))
      · unfold lfF at hlf
        refine lv_aload_n hx hb dX3_leastFree_8 rfl (hl.at rfl) ?_
        refine lv_iload_n hx hb dX3_leastFree_9 rfl (hl.at rfl) ?_
        refine w_callV C hN hw (c_X3_find l sz0 D cs X _ Y S hS hCX h gp hCR (nI j)) ⟨(Nat.le_of_ble_eq_true rfl), (Nat.le_of_ble_eq_true rfl), mw105, mw3, cy_X3_find⟩ mw102 mw103 mw104 (w_rec hw (c0 := 0) (i0 := 0) (hX 0 (by decide)) rfl rfl) rfl hl.1.1 rfl (Nat.le_of_ble_eq_true rfl) dX3_leastFree_10 ⟨Nat.le_of_ble_eq_true rfl, Nat.le_of_ble_eq_true rfl⟩ (fun X' Z' Y' v k n H locs hp hw => ?_)
        obtain ⟨rfl, rfl, rfl, rfl, rfl, hp⟩ := hp
        rcases hp with ⟨i, hi, ei, h0, rfl⟩ | ⟨hn, rfl⟩
        · obtain rfl := nI_inj (by omega) (by omega) ei
          rw [if_neg h0] at hlf
          refine lv_ifnonnull (tgt := 18) hx hb dX3_leastFree_13 (by decide) ?_
          refine w_iinc hx hb dX3_leastFree_18 hl rfl rfl (fun ls hl => ?_)
          refine lv_goto (tgt := 2) hx hb dX3_leastFree_21 (by decide) ?_
          exact ih (j + 1) (by omega) _ _ _ (by rw [← nI_1]; exact hl) hlf hw
        · rw [if_pos (fnd_0 (by omega) hn)] at hlf
          refine lv_ifnonnullN hx hb dX3_leastFree_13 ?_
          refine lv_iload_n hx hb dX3_leastFree_16 rfl (hl.at rfl) ?_
          exact w_iret C hw hr hlocks dX3_leastFree_17 ⟨rfl, rfl, rfl, rfl, by rw [if_neg (by omega), hlf], rfl⟩
  exact loop 8 0 (by decide) _ _ _ hl rfl hw

set_option maxHeartbeats 4000000 in
set_option maxRecDepth 100000 in
theorem c_X3_countGuests (l : Launch) (sz0 : Nat) (D : va_G) (cs : Nat → ClassId) (X : Sh) (Z : ZT) (Y : va_W) (S : HS) (hS : HOK S) (hCX : CRx X) (h gp : Nat) (hCR : CR X Z S h gp) : Ctr l yX3_countGuests (wsM yX3_countGuests cX3_countGuests 3 (some .int)) ({ frames := 1, cells := 0, slots := 0, locals := 22 } : Room) sz0 D cs [.ref (X.1 0 0)] X Z Y (Pz X Y (fun Z' v => v = some (.int (nI (cntF S.1 8))) ∧ Z = Z')) := by
  refine Ctr.ofW (by decide +kernel) (by intro v hv; simp at hv; rcases hv with rfl <;> rfl) (Nat.le_of_ble_eq_true rfl) ?_
  intro p e s m below meth c ls C hr hlocks hname hl hN hw
  obtain ⟨hx, hb, hml, hown, hts⟩ := id C
  have hX := hCX.1
  have hU := hCX.2.1.1
  refine lv_iconst (v := 0) hx hb dX3_countGuests_0 (by decide) ?_
  refine w_istore_n hx hb dX3_countGuests_1 rfl hl (Nat.le_of_ble_eq_true rfl) (fun ls hl => ?_)
  refine lv_iconst (v := 0) hx hb dX3_countGuests_2 (by decide) ?_
  refine w_istore_n hx hb dX3_countGuests_3 rfl hl (Nat.le_of_ble_eq_true rfl) (fun ls hl => ?_)
  have loop : ∀ (d j : Nat), j + d = 8 → ∀ (H : Heap) (locs : List Loc) (ls : Array Slot), lo ls [some (.ref (X.1 0 0)), some (.int (nI (cntF S.1 j))), some (.int (nI j))] → Wd sz0 D cs s X Z Y H locs → W p l e ({ frames := 1, cells := 0, slots := 0, locals := 22 } : Room) s m ([.ref (X.1 0 0)] : List Value).toArray below meth c H locs 0 0 (xQ below (CQ sz0 D cs (Pz X Y (fun Z' v => v = some (.int (nI (cntF S.1 8))) ∧ Z = Z'))) ([.ref (X.1 0 0)] : List Value).toArray s (Asz sz0)) (F0 m 4 ls []) := by
    intro d
    induction d with
    | zero =>
      intro j hj H locs ls hl hw
      refine lv_iload_n hx hb dX3_countGuests_4 rfl (hl.at rfl) ?_
      refine lv_bipush (v := 8) hx hb dX3_countGuests_5 (by decide) ?_
      refine lv_icmp_ge (tgt := 32) hx hb dX3_countGuests_7 (by decide) (fun h7 => ?_) (fun h7 => ?_)
      · have hj8 : j = 8 := by omega
        subst hj8
        refine lv_iload_n hx hb dX3_countGuests_32 rfl (hl.at rfl) ?_
        exact w_iret C hw hr hlocks dX3_countGuests_33 ⟨rfl, rfl, rfl, rfl, rfl, rfl⟩
      · exact absurd (nI_le (show 8 ≤ j by omega) (by omega)) h7
    | succ d ih =>
      intro j hj H locs ls hl hw
      refine lv_iload_n hx hb dX3_countGuests_4 rfl (hl.at rfl) ?_
      refine lv_bipush (v := 8) hx hb dX3_countGuests_5 (by decide) ?_
      refine lv_icmp_ge (tgt := 32) hx hb dX3_countGuests_7 (by decide) (fun h7 => ?_) (fun h7 => ?_)
      · exact absurd (show nI 8 ≤ nI j from h7) (nI_ge (show j < 8 by omega) (by decide))
      · refine lv_iload_n hx hb dX3_countGuests_10 rfl (hl.at rfl) ?_
        refine lv_aload_n hx hb dX3_countGuests_11 rfl (hl.at rfl) ?_
        refine lv_iload_n hx hb dX3_countGuests_12 rfl (hl.at rfl) ?_
        refine w_callV C hN hw (c_X3_find l sz0 D cs X _ Y S hS hCX h gp hCR (nI j)) ⟨(Nat.le_of_ble_eq_true rfl), (Nat.le_of_ble_eq_true rfl), mw105, mw3, cy_X3_find⟩ mw102 mw103 mw104 (w_rec hw (c0 := 0) (i0 := 0) (hX 0 (by decide)) rfl rfl) rfl hl.1.1 rfl (Nat.le_of_ble_eq_true rfl) dX3_countGuests_13 ⟨Nat.le_of_ble_eq_true rfl, Nat.le_of_ble_eq_true rfl⟩ (fun X' Z' Y' v k n H locs hp hw => ?_)
        obtain ⟨rfl, rfl, rfl, rfl, rfl, hp⟩ := hp
        rcases hp with ⟨i, hi, ei, h0, rfl⟩ | ⟨hn, rfl⟩
        · obtain rfl := nI_inj (by omega) (by omega) ei
          refine lv_ifnonnull (tgt := 23) hx hb dX3_countGuests_16 (by decide) ?_
          refine lv_iconst (v := 1) hx hb dX3_countGuests_23 (by decide) ?_
          refine lv_iadd hx hb dX3_countGuests_24 ?_
          refine w_istore_n hx hb dX3_countGuests_25 rfl hl (Nat.le_of_ble_eq_true rfl) (fun ls hl => ?_)
          refine w_iinc hx hb dX3_countGuests_26 hl rfl rfl (fun ls hl => ?_)
          refine lv_goto (tgt := 4) hx hb dX3_countGuests_29 (by decide) ?_
          exact ih (j + 1) (by omega) _ _ _ (by rw [← nI_1 j, show cntF S.1 (j + 1) = cntF S.1 j + 1 from by unfold cntF; rw [sumN, if_neg h0], ← nI_1]; exact hl) hw
        · have c0 := fnd_0 (S := S) (j := j) (by omega) hn
          refine lv_ifnonnullN hx hb dX3_countGuests_16 ?_
          refine lv_iconst (v := 0) hx hb dX3_countGuests_19 (by decide) ?_
          refine lv_goto (tgt := 24) hx hb dX3_countGuests_20 (by decide) ?_
          refine lv_iadd hx hb dX3_countGuests_24 ?_
          refine w_istore_n hx hb dX3_countGuests_25 rfl hl (Nat.le_of_ble_eq_true rfl) (fun ls hl => ?_)
          refine w_iinc hx hb dX3_countGuests_26 hl rfl rfl (fun ls hl => ?_)
          refine lv_goto (tgt := 4) hx hb dX3_countGuests_29 (by decide) ?_
          rw [Int32.add_zero] at hl
          exact ih (j + 1) (by omega) _ _ _ (by rw [← nI_1 j, show cntF S.1 (j + 1) = cntF S.1 j from by unfold cntF; rw [sumN, if_pos c0]; rfl]; exact hl) hw
  exact loop 8 0 (by decide) _ _ _ hl hw

set_option maxHeartbeats 4000000 in
set_option maxRecDepth 100000 in
theorem c_X3_settle (l : Launch) (sz0 : Nat) (D : va_G) (cs : Nat → ClassId) (X : Sh) (Z : ZT) (Y : va_W) (hCX : CRx X) (gp hn : Nat) (b : Int32) (n : Nat → Int32) (gm : Nat → GS) (hP : RNp X Z gp) (hh : 4 ≤ hn ∧ hn ≤ 256) (hnum : b = n 0 ∧ 7 = n 1 ∧ 0 = n 2 ∧ 0 = n 3) : Ctr l yX3_settle (wsM yX3_settle cX3_settle 4 none) ({ frames := 2, cells := 0, slots := 0, locals := 45 } : Room) sz0 D cs [.ref (X.1 0 0), .int (nI hn), .int b] X Z Y (Pz X Y (fun Z' v => v = none ∧ CR X Z' (fun _ => 0, gm, n) hn gp ∧ ∀ c i, 30 ≤ c → Z' c i = Z c i)) := by
  refine Ctr.ofW (by decide +kernel) (by intro v hv; simp at hv; rcases hv with rfl | rfl | rfl <;> rfl) (Nat.le_of_ble_eq_true rfl) ?_
  intro p e s m below meth c ls C hr hlocks hname hl hN hw
  obtain ⟨hx, hb, hml, hown, hts⟩ := id C
  have hX := hCX.1
  have hU := hCX.2.1.1
  refine lv_aload_n hx hb dX3_settle_0 rfl (hl.at rfl) ?_
  refine w_get C hw (c0 := 0) (i0 := 0) rfl inA3 0 (by decide) mw16 rfl dX3_settle_1 (hX 0 (by decide)) rfl rfl rfl ?_
  refine lv_iload_n hx hb dX3_settle_4 rfl (hl.at rfl) ?_
  refine w_callV C hN hw (c_X1_renew l sz0 D cs X _ Y hX (nI hn)) ⟨(Nat.le_of_ble_eq_true rfl), (Nat.le_of_ble_eq_true rfl), mw53, mw15, cy_X1_renew⟩ mw50 mw51 mw52 (w_rec hw (c0 := 2) (i0 := 0) (hX 2 (by decide)) rfl rfl) rfl hl.1.1 rfl (Nat.le_of_ble_eq_true rfl) dX3_settle_5 ⟨Nat.le_of_ble_eq_true rfl, Nat.le_of_ble_eq_true rfl⟩ (fun X' Z' Y' v k n H locs hp hw => ?_)
  obtain ⟨rfl, rfl, rfl, rfl, rfl, hRN⟩ := hp
  refine lv_iconst (v := 0) hx hb dX3_settle_8 (by decide) ?_
  refine w_istore_n hx hb dX3_settle_9 rfl hl (Nat.le_of_ble_eq_true rfl) (fun ls hl => ?_)
  have loop : ∀ (d j : Nat), j + d = 8 → ∀ (Zj : ZT) (H : Heap) (locs : List Loc) (ls : Array Slot), (∀ c i, c ≠ 20 → Zj c i = Z' c i) → (∀ t, t < j → X.2.2.1 t = true → Zj 20 t 0 = 0) → lo ls [some (.ref (X.1 0 0)), some (.int (nI hn)), some (.int b), some (.int (nI j))] → Wd sz0 D cs s X Zj Y H locs → W p l e ({ frames := 2, cells := 0, slots := 0, locals := 45 } : Room) s m ([.ref (X.1 0 0), .int (nI hn), .int b] : List Value).toArray below meth c H locs 0 0 (xQ below (CQ sz0 D cs (Pz X Y (fun Z' v => v = none ∧ CR X Z' (fun _ => 0, gm, n) hn gp ∧ ∀ c i, 30 ≤ c → Z' c i = Z c i))) ([.ref (X.1 0 0), .int (nI hn), .int b] : List Value).toArray s (Asz sz0)) (F0 m 10 ls []) := by
    intro d
    induction d with
    | zero =>
      intro i hj Zj H locs ls hz hf hl hw
      refine lv_iload_n hx hb dX3_settle_10 rfl (hl.at rfl) ?_
      refine lv_bipush (v := 8) hx hb dX3_settle_11 (by decide) ?_
      refine lv_icmp_ge (tgt := 41) hx hb dX3_settle_13 (by decide) (fun h13 => ?_) (fun h13 => ?_)
      · refine lv_aload_n hx hb dX3_settle_41 rfl (hl.at rfl) ?_
        refine lv_iload_n hx hb dX3_settle_42 rfl (hl.at rfl) ?_
        refine w_put C hw (c0 := 0) (i0 := 0) rfl inA3 tyX3_ok nmX3 3 (by decide) mw46 rfl rfl rfl dX3_settle_43 (hX 0 (by decide)) rfl rfl rfl rfl (Nat.le_of_ble_eq_true rfl) rfl (fun H locs hw => ?_)
        refine lv_aload_n hx hb dX3_settle_46 rfl (hl.at rfl) ?_
        refine lv_bipush (v := 7) hx hb dX3_settle_47 (by decide) ?_
        refine w_put C hw (c0 := 0) (i0 := 0) rfl inA3 tyX3_ok nmX3 4 (by decide) mw47 rfl rfl rfl dX3_settle_49 (hX 0 (by decide)) rfl rfl rfl rfl (Nat.le_of_ble_eq_true rfl) rfl (fun H locs hw => ?_)
        refine lv_aload_n hx hb dX3_settle_52 rfl (hl.at rfl) ?_
        refine lv_iconst (v := 0) hx hb dX3_settle_53 (by decide) ?_
        refine w_put C hw (c0 := 0) (i0 := 0) rfl inA3 tyX3_ok nmX3 5 (by decide) mw48 rfl rfl rfl dX3_settle_54 (hX 0 (by decide)) rfl rfl rfl rfl (Nat.le_of_ble_eq_true rfl) rfl (fun H locs hw => ?_)
        refine lv_aload_n hx hb dX3_settle_57 rfl (hl.at rfl) ?_
        refine lv_iconst (v := 0) hx hb dX3_settle_58 (by decide) ?_
        refine w_put C hw (c0 := 0) (i0 := 0) rfl inA3 tyX3_ok nmX3 6 (by decide) mw49 rfl rfl rfl dX3_settle_59 (hX 0 (by decide)) rfl rfl rfl rfl (Nat.le_of_ble_eq_true rfl) rfl (fun H locs hw => ?_)
        simp only [upr_uu, upr_s] at hw
        exact w_vret C hw hr hlocks dX3_settle_62 ⟨rfl, rfl, rfl, rfl, rfl, CR_renew hP hh hRN (fun c q1 q2 => by rw [upr_k (by omega)]; exact hz c 0 (by omega)) (fun t ht q => by rw [upr_k (by decide)]; exact hf t (by omega) q) (by rw [upr_s]; exact hnum), fun c i q => by rw [upr_k (by omega), hz c i (by omega)]; exact hRN.2.2.2.2.2.2.2.2.2.2 c i (by omega)⟩
      · exact absurd (nI_le (show 8 ≤ i by omega) (by omega)) h13
    | succ d ih =>
      intro i hj Zj H locs ls hz hf hl hw
      refine lv_iload_n hx hb dX3_settle_10 rfl (hl.at rfl) ?_
      refine lv_bipush (v := 8) hx hb dX3_settle_11 (by decide) ?_
      refine lv_icmp_ge (tgt := 41) hx hb dX3_settle_13 (by decide) (fun h13 => ?_) (fun h13 => ?_)
      · exact absurd (show nI 8 ≤ nI i from h13) (nI_ge (show i < 8 by omega) (by decide))
      · have hi : i < 8 := by omega
        refine lv_aload_n hx hb dX3_settle_16 rfl (hl.at rfl) ?_
        refine w_get C hw (c0 := 0) (i0 := 0) rfl inA3 2 (by decide) mw22 rfl dX3_settle_17 (hX 0 (by decide)) rfl rfl rfl ?_
        refine lv_iload_n hx hb dX3_settle_20 rfl (hl.at rfl) ?_
        by_cases hm : X.2.2.1 i = true
        · have hG := hCX.2.2 i hi hm
          refine w_ald C hw (c0 := 1) (i0 := 0) (t := 2) dX3_settle_21 (hX 1 (by decide)) rfl rfl rfl (vp_in_nI hi (by decide)) (nI_clamp (by omega)) ?_
          rw [arefG hm]
          refine lv_ifnull hx hb dX3_settle_22 ?_
          refine lv_aload_n hx hb dX3_settle_25 rfl (hl.at rfl) ?_
          refine w_get C hw (c0 := 0) (i0 := 0) rfl inA3 2 (by decide) mw22 rfl dX3_settle_26 (hX 0 (by decide)) rfl rfl rfl ?_
          refine lv_iload_n hx hb dX3_settle_29 rfl (hl.at rfl) ?_
          refine w_ald C hw (c0 := 1) (i0 := 0) (t := 2) dX3_settle_30 (hX 1 (by decide)) rfl rfl rfl (vp_in_nI hi (by decide)) (nI_clamp (by omega)) ?_
          rw [arefG hm]
          refine lv_iconst (v := 0) hx hb dX3_settle_31 (by decide) ?_
          refine w_putN C hN hw (c0 := 20) (i0 := i) rfl inA0 tyX0_ok nmX0 0 (by decide) mw638 rfl rfl rfl dX3_settle_32 (hG 20 (by decide) (by decide)) rfl (by decide) (by decide) rfl (Nat.le_of_ble_eq_true rfl) rfl (fun H locs hw => ?_)
          refine w_iinc hx hb dX3_settle_35 hl rfl rfl (fun ls hl => ?_)
          refine lv_goto (tgt := 10) hx hb dX3_settle_38 (by decide) ?_
          refine ih (i + 1) (by omega) _ _ _ _ (fun c i' q => ?_) (fun t ht q => ?_) (by rw [← nI_1]; exact hl) hw
          · rw [upr_k q]; exact hz c i' q
          · by_cases e : t = i
            · subst e; rw [upr_s, upd_s]
            · rw [upr_i e]; exact hf t (by omega) q
        · refine w_ald C hw (c0 := 1) (i0 := 0) (t := 2) dX3_settle_21 (hX 1 (by decide)) rfl rfl rfl (vp_in_nI hi (by decide)) (nI_clamp (by omega)) ?_
          rw [arefN hm]
          refine lv_ifnullN (tgt := 35) hx hb dX3_settle_22 (by decide) ?_
          refine w_iinc hx hb dX3_settle_35 hl rfl rfl (fun ls hl => ?_)
          refine lv_goto (tgt := 10) hx hb dX3_settle_38 (by decide) ?_
          refine ih (i + 1) (by omega) _ _ _ _ hz (fun t ht q => ?_) (by rw [← nI_1]; exact hl) hw
          by_cases e : t = i
          · subst e; exact absurd q hm
          · exact hf t (by omega) q
  exact loop 8 0 (by decide) Z' _ _ _ (fun _ _ _ => rfl) (fun t ht => by omega) hl hw
