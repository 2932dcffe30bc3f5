/-! ===== GuestHouseModel: what it finds, what it shows ===== -/

set_option maxHeartbeats 4000000 in
set_option maxRecDepth 100000 in
theorem c_X5_of (l : Launch) (sz0 : Nat) (D : va_G) (cs : Nat → ClassId) (X : Sh) (Z : ZT) (Y : va_W) (S : HS) (hS : HOK S) (hMX : MRx X) (hMR : MR Z S) (a : Int32) : Ctr l yX5_of (wsM yX5_of cX5_of 2 (some (.object "GuestHouseModel$Bare"))) ({ frames := 0, cells := 0, slots := 0, locals := 0 } : Room) sz0 D cs [.ref (X.1 30 0), .int a] X Z Y (Pz X Y (fun Z' v => Z = Z' ∧ ((∃ i, i < 8 ∧ a = nI i ∧ S.1 i ≠ 0 ∧ v = some (.ref (X.1 40 i))) ∨ (fnd S a = false ∧ v = some .null)))) := by
  refine Ctr.ofW (by decide +kernel) (by intro v hv; simp at hv; rcases hv with rfl | rfl <;> rfl) (Nat.le_of_ble_eq_true rfl) ?_
  intro p e s m below meth c ls C hr hlocks hname hl hN hw
  obtain ⟨hx, hb, hml, hown, hts⟩ := id C
  have hM := hMX.1
  refine lv_iload_n hx hb dX5_of_0 rfl (hl.at rfl) ?_
  refine lv_if_lt (tgt := 31) hx hb dX5_of_1 (by decide) (fun h1 => ?_) (fun h1 => ?_)
  · refine lv_null hx hb dX5_of_31 ?_
    exact w_aret C hw hr (Or.inl ⟨_, rfl⟩) (Or.inl rfl) hlocks dX5_of_32 ⟨rfl, rfl, rfl, rfl, rfl, Or.inr ⟨fnd_n (fun q => q.1 h1), rfl⟩⟩
  · refine lv_iload_n hx hb dX5_of_4 rfl (hl.at rfl) ?_
    refine lv_bipush (v := 8) hx hb dX5_of_5 (by decide) ?_
    refine lv_icmp_ge (tgt := 31) hx hb dX5_of_7 (by decide) (fun h7 => ?_) (fun h7 => ?_)
    · refine lv_null hx hb dX5_of_31 ?_
      exact w_aret C hw hr (Or.inl ⟨_, rfl⟩) (Or.inl rfl) hlocks dX5_of_32 ⟨rfl, rfl, rfl, rfl, rfl, Or.inr ⟨fnd_n (fun q => q.2.1 h7), rfl⟩⟩
    · obtain ⟨i, hi31, rfl⟩ := nI_of h1
      have hi : i < 8 := Nat.not_le.mp (fun q => h7 (show nI 8 ≤ nI i from nI_le q hi31))
      have hB := hMX.2.1 i hi
      have hg := hMR.2 i hi
      refine lv_aload_n hx hb dX5_of_10 rfl (hl.at rfl) ?_
      refine w_get C hw (c0 := 30) (i0 := 0) rfl inA5 0 (by decide) mw67 rfl dX5_of_11 (hM 30 (by decide) (by decide)) rfl rfl rfl ?_
      refine lv_iload_n hx hb dX5_of_14 rfl (hl.at rfl) ?_
      refine w_ald C hw (c0 := 31) (i0 := 0) (t := 3) dX5_of_15 (hM 31 (by decide) (by decide)) rfl rfl rfl (vp_in_nI hi (by decide)) (nI_clamp (by omega)) ?_
      rw [arefM (hMX.2.2 i hi)]
      refine w_get C hw (c0 := 40) (i0 := i) rfl inA4 1 (by decide) mw91 rfl dX5_of_16 (hB 40 (by decide) (by decide)) rfl rfl rfl ?_
      refine lv_if_eq (tgt := 31) hx hb dX5_of_19 (by decide) (fun h19 => ?_) (fun h19 => ?_)
      · refine lv_null hx hb dX5_of_31 ?_
        exact w_aret C hw hr (Or.inl ⟨_, rfl⟩) (Or.inl rfl) hlocks dX5_of_32 ⟨rfl, rfl, rfl, rfl, rfl, Or.inr ⟨fnd_n (fun q => absurd h19 (by rw [nI_clamp hi31] at q; rw [(hg.2 q.2.2).1]; decide)), rfl⟩⟩
      · refine lv_aload_n hx hb dX5_of_22 rfl (hl.at rfl) ?_
        refine w_get C hw (c0 := 30) (i0 := 0) rfl inA5 0 (by decide) mw67 rfl dX5_of_23 (hM 30 (by decide) (by decide)) rfl rfl rfl ?_
        refine lv_iload_n hx hb dX5_of_26 rfl (hl.at rfl) ?_
        refine w_ald C hw (c0 := 31) (i0 := 0) (t := 3) dX5_of_27 (hM 31 (by decide) (by decide)) rfl rfl rfl (vp_in_nI hi (by decide)) (nI_clamp (by omega)) ?_
        rw [arefM (hMX.2.2 i hi)]
        refine lv_goto (tgt := 32) hx hb dX5_of_28 (by decide) ?_
        exact w_aret C hw hr (Or.inl ⟨_, rfl⟩) (Or.inr ⟨_, rfl⟩) hlocks dX5_of_32 ⟨rfl, rfl, rfl, rfl, rfl, Or.inl ⟨i, hi, rfl, fun q => h19 (hg.1 q), rfl⟩⟩

set_option maxHeartbeats 4000000 in
set_option maxRecDepth 100000 in
theorem c_X5_ofY (l : Launch) (sz0 : Nat) (D : va_G) (cs : Nat → ClassId) (X : Sh) (Z : ZT) (Y : va_W) (S : HS) (hS : HOK S) (hMX : MRx X) (hMR : MR Z S) (i : Nat) (hi : i < 8) (h0 : S.1 i ≠ 0) : Ctr l yX5_of (wsM yX5_of cX5_of 2 (some (.object "GuestHouseModel$Bare"))) ({ frames := 0, cells := 0, slots := 0, locals := 0 } : Room) sz0 D cs [.ref (X.1 30 0), .int (nI i)] X Z Y (Pz X Y (fun Z' v => Z = Z' ∧ v = some (.ref (X.1 40 i)))) := by
  refine Ctr.ofW (by decide +kernel) (by intro v hv; simp at hv; rcases hv with rfl | rfl <;> rfl) (Nat.le_of_ble_eq_true rfl) ?_
  intro p e s m below meth c ls C hr hlocks hname hl hN hw
  obtain ⟨hx, hb, hml, hown, hts⟩ := id C
  have hM := hMX.1
  have hB := hMX.2.1 i hi
  have hg := (hMR.2 i hi).2 h0
  refine lv_iload_n hx hb dX5_of_0 rfl (hl.at rfl) ?_
  refine lv_if_lt (tgt := 31) hx hb dX5_of_1 (by decide) (fun h1 => ?_) (fun h1 => ?_)
  · exact absurd h1 (nI_pos (by omega))
  · refine lv_iload_n hx hb dX5_of_4 rfl (hl.at rfl) ?_
    refine lv_bipush (v := 8) hx hb dX5_of_5 (by decide) ?_
    refine lv_icmp_ge (tgt := 31) hx hb dX5_of_7 (by decide) (fun h7 => ?_) (fun h7 => ?_)
    · exact absurd (show nI 8 ≤ nI i from h7) (nI_ge hi (by decide))
    · refine lv_aload_n hx hb dX5_of_10 rfl (hl.at rfl) ?_
      refine w_get C hw (c0 := 30) (i0 := 0) rfl inA5 0 (by decide) mw67 rfl dX5_of_11 (hM 30 (by decide) (by decide)) rfl rfl rfl ?_
      refine lv_iload_n hx hb dX5_of_14 rfl (hl.at rfl) ?_
      refine w_ald C hw (c0 := 31) (i0 := 0) (t := 3) dX5_of_15 (hM 31 (by decide) (by decide)) rfl rfl rfl (vp_in_nI hi (by decide)) (nI_clamp (by omega)) ?_
      rw [arefM (hMX.2.2 i hi)]
      refine w_get C hw (c0 := 40) (i0 := i) rfl inA4 1 (by decide) mw91 rfl dX5_of_16 (hB 40 (by decide) (by decide)) rfl rfl rfl ?_
      rw [hg.1]
      refine lv_if_eq (tgt := 31) hx hb dX5_of_19 (by decide) (fun h19 => ?_) (fun h19 => ?_)
      · exact absurd h19 (by decide)
      · refine lv_aload_n hx hb dX5_of_22 rfl (hl.at rfl) ?_
        refine w_get C hw (c0 := 30) (i0 := 0) rfl inA5 0 (by decide) mw67 rfl dX5_of_23 (hM 30 (by decide) (by decide)) rfl rfl rfl ?_
        refine lv_iload_n hx hb dX5_of_26 rfl (hl.at rfl) ?_
        refine w_ald C hw (c0 := 31) (i0 := 0) (t := 3) dX5_of_27 (hM 31 (by decide) (by decide)) rfl rfl rfl (vp_in_nI hi (by decide)) (nI_clamp (by omega)) ?_
        rw [arefM (hMX.2.2 i hi)]
        refine lv_goto (tgt := 32) hx hb dX5_of_28 (by decide) ?_
        exact w_aret C hw hr (Or.inl ⟨_, rfl⟩) (Or.inr ⟨_, rfl⟩) hlocks dX5_of_32 ⟨rfl, rfl, rfl, rfl, rfl, rfl⟩

set_option maxHeartbeats 4000000 in
set_option maxRecDepth 100000 in
theorem c_X5_free (l : Launch) (sz0 : Nat) (D : va_G) (cs : Nat → ClassId) (X : Sh) (Z : ZT) (Y : va_W) (S : HS) (hS : HOK S) (hMX : MRx X) (hMR : MR Z S) : Ctr l yX5_free (wsM yX5_free cX5_free 2 (some .int)) ({ frames := 0, cells := 0, slots := 0, locals := 0 } : Room) sz0 D cs [.ref (X.1 30 0)] X Z Y (Pz X Y (fun Z' v => v = some (.int (if leastF S.1 = 8 then -12 else nI (leastF S.1))) ∧ Z = Z')) := by
  refine Ctr.ofW (by decide +kernel) (by intro v hv; simp at hv; rcases hv with rfl <;> rfl) (Nat.le_of_ble_eq_true rfl) ?_
  intro p e s m below meth c ls C hr hlocks hname hl hN hw
  obtain ⟨hx, hb, hml, hown, hts⟩ := id C
  have hM := hMX.1
  refine lv_iconst (v := 0) hx hb dX5_free_0 (by decide) ?_
  refine w_istore_n hx hb dX5_free_1 rfl hl (Nat.le_of_ble_eq_true rfl) (fun ls hl => ?_)
  have k26 : ∀ (H : Heap) (locs : List Loc) (ls : Array Slot), lo ls [some (.ref (X.1 30 0)), some (.int (nI (leastF S.1)))] → Wd sz0 D cs s X Z Y H locs → W p l e ({ frames := 0, cells := 0, slots := 0, locals := 0 } : Room) s m ([.ref (X.1 30 0)] : List Value).toArray below meth c H locs 0 0 (xQ below (CQ sz0 D cs (Pz X Y (fun Z' v => v = some (.int (if leastF S.1 = 8 then -12 else nI (leastF S.1))) ∧ Z = Z'))) ([.ref (X.1 30 0)] : List Value).toArray s (Asz sz0)) (F0 m 26 ls []) := by
    intro H locs ls hl hw
    have hle := leastF_le (F := S.1)
    refine lv_iload_n hx hb dX5_free_26 rfl (hl.at rfl) ?_
    refine lv_bipush (v := 8) hx hb dX5_free_27 (by decide) ?_
    refine lv_icmp_ne (tgt := 37) hx hb dX5_free_29 (by decide) (fun h29 => ?_) (fun h29 => ?_)
    · refine lv_iload_n hx hb dX5_free_37 rfl (hl.at rfl) ?_
      exact w_iret C hw hr hlocks dX5_free_38 ⟨rfl, rfl, rfl, rfl, by rw [if_neg (fun q => h29 (by rw [q]; rfl))], rfl⟩
    · refine lv_bipush (v := -12) hx hb dX5_free_32 (by decide) ?_
      refine lv_goto (tgt := 38) hx hb dX5_free_34 (by decide) ?_
      exact w_iret C hw hr hlocks dX5_free_38 ⟨rfl, rfl, rfl, rfl, by rw [if_pos (nI_inj (by omega) (by decide) h29)], rfl⟩
  have loop : ∀ (d j : Nat), j + d = 8 → ∀ (H : Heap) (locs : List Loc) (ls : Array Slot), lo ls [some (.ref (X.1 30 0)), some (.int (nI j))] → leastF S.1 = lfF S.1 d j → Wd sz0 D cs s X Z Y H locs → W p l e ({ frames := 0, cells := 0, slots := 0, locals := 0 } : Room) s m ([.ref (X.1 30 0)] : List Value).toArray below meth c H locs 0 0 (xQ below (CQ sz0 D cs (Pz X Y (fun Z' v => v = some (.int (if leastF S.1 = 8 then -12 else nI (leastF S.1))) ∧ Z = Z'))) ([.ref (X.1 30 0)] : List Value).toArray s (Asz sz0)) (F0 m 2 ls []) := by
    intro d
    induction d with
    | zero =>
      intro i hj H locs ls hl hlf hw
      refine lv_iload_n hx hb dX5_free_2 rfl (hl.at rfl) ?_
      refine lv_bipush (v := 8) hx hb dX5_free_3 (by decide) ?_
      refine lv_icmp_ge (tgt := 26) hx hb dX5_free_5 (by decide) (fun h5 => ?_) (fun h5 => ?_)
      · refine k26 _ _ _ ?_ hw
        rw [hlf]
        exact hl
      · exact absurd (nI_le (show 8 ≤ i by omega) (by omega)) h5
    | succ d ih =>
      intro i hj H locs ls hl hlf hw
      refine lv_iload_n hx hb dX5_free_2 rfl (hl.at rfl) ?_
      refine lv_bipush (v := 8) hx hb dX5_free_3 (by decide) ?_
      refine lv_icmp_ge (tgt := 26) hx hb dX5_free_5 (by decide) (fun h5 => ?_) (fun h5 => ?_)
      · exact absurd (show nI 8 ≤ nI i from h5) (nI_ge (show i < 8 by omega) (by decide))
      · have hi : i < 8 := by omega
        have hB := hMX.2.1 i hi
        have hg := hMR.2 i hi
        unfold lfF at hlf
        refine lv_aload_n hx hb dX5_free_8 rfl (hl.at rfl) ?_
        refine w_get C hw (c0 := 30) (i0 := 0) rfl inA5 0 (by decide) mw67 rfl dX5_free_9 (hM 30 (by decide) (by decide)) rfl rfl rfl ?_
        refine lv_iload_n hx hb dX5_free_12 rfl (hl.at rfl) ?_
        refine w_ald C hw (c0 := 31) (i0 := 0) (t := 3) dX5_free_13 (hM 31 (by decide) (by decide)) rfl rfl rfl (vp_in_nI hi (by decide)) (nI_clamp (by omega)) ?_
        rw [arefM (hMX.2.2 i hi)]
        refine w_get C hw (c0 := 40) (i0 := i) rfl inA4 1 (by decide) mw91 rfl dX5_free_14 (hB 40 (by decide) (by decide)) rfl rfl rfl ?_
        refine lv_if_eq (tgt := 26) hx hb dX5_free_17 (by decide) (fun h17 => ?_) (fun h17 => ?_)
        · have c0 : S.1 i = 0 := Classical.not_not.mp (fun q => absurd h17 (by rw [(hg.2 q).1]; decide))
          rw [if_pos c0] at hlf
          refine k26 _ _ _ ?_ hw
          rw [hlf]
          exact hl
        · have c0 : ¬ S.1 i = 0 := fun q => h17 (hg.1 q)
          rw [if_neg c0] at hlf
          refine w_iinc hx hb dX5_free_20 hl rfl rfl (fun ls hl => ?_)
          refine lv_goto (tgt := 2) hx hb dX5_free_23 (by decide) ?_
          exact ih (i + 1) (by omega) _ _ _ (by rw [← nI_1]; exact hl) hlf hw
  exact loop 8 0 (by decide) _ _ _ hl rfl hw

set_option maxHeartbeats 4000000 in
set_option maxRecDepth 100000 in
theorem c_X5_state (l : Launch) (sz0 : Nat) (D : va_G) (cs : Nat → ClassId) (X : Sh) (Z : ZT) (Y : va_W) (S : HS) (hS : HOK S) (hMX : MRx X) (hMR : MR Z S) (a : Int32)  : Ctr l yX5_state (wsM yX5_state cX5_state 2 (some .int)) ({ frames := 1, cells := 0, slots := 0, locals := 21 } : Room) sz0 D cs [.ref (X.1 30 0), .int a] X Z Y (Pz X Y (fun Z' v => v = some (.int (staQ S a)) ∧ Z = Z')) := by
  refine Ctr.ofW (by decide +kernel) (by intro v hv; simp at hv; rcases hv with rfl | rfl <;> rfl) (Nat.le_of_ble_eq_true rfl) ?_
  intro p e s m below meth c ls C hr hlocks hname hl hN hw
  obtain ⟨hx, hb, hml, hown, hts⟩ := id C
  have hM := hMX.1
  refine lv_aload_n hx hb dX5_state_0 rfl (hl.at rfl) ?_
  refine lv_iload_n hx hb dX5_state_1 rfl (hl.at rfl) ?_
  refine w_callV C hN hw (c_X5_of l sz0 D cs X _ Y S hS hMX hMR a) ⟨(Nat.le_of_ble_eq_true rfl), (Nat.le_of_ble_eq_true rfl), mw243, mw6, cy_X5_of⟩ mw240 mw241 mw242 (w_rec hw (c0 := 30) (i0 := 0) (hM 30 (by decide) (by decide)) rfl rfl) rfl hl.1.1 rfl (Nat.le_of_ble_eq_true rfl) dX5_state_2 ⟨Nat.le_of_ble_eq_true rfl, Nat.le_of_ble_eq_true rfl⟩ (fun X' Z' Y' v k n H locs hp hw => ?_)
  obtain ⟨rfl, rfl, rfl, rfl, rfl, hp⟩ := hp
  rcases hp with ⟨i, hi, rfl, h0, rfl⟩ | ⟨hn, rfl⟩
  · have hB := hMX.2.1 i hi
    have hg := (hMR.2 i hi).2 h0
    have hR := hg.2
    have hy := fnd_y hi h0
    have ecl : (nI i).toNatClampNeg = i := nI_clamp (by omega)
    have hF : S.1 i ≤ 64 := (hS.1 i hi).1
    refine lv_ifnonnull (tgt := 13) hx hb dX5_state_5 (by decide) ?_
    refine lv_aload_n hx hb dX5_state_13 rfl (hl.at rfl) ?_
    refine lv_iload_n hx hb dX5_state_14 rfl (hl.at rfl) ?_
    refine w_callV C hN hw (c_X5_ofY l sz0 D cs X _ Y S hS hMX hMR i hi h0) ⟨(Nat.le_of_ble_eq_true rfl), (Nat.le_of_ble_eq_true rfl), mw243, mw6, cy_X5_of⟩ mw240 mw241 mw242 (w_rec hw (c0 := 30) (i0 := 0) (hM 30 (by decide) (by decide)) rfl rfl) rfl hl.1.1 rfl (Nat.le_of_ble_eq_true rfl) dX5_state_15 ⟨Nat.le_of_ble_eq_true rfl, Nat.le_of_ble_eq_true rfl⟩ (fun X' Z' Y' v k n H locs hp hw => ?_)
    obtain ⟨rfl, rfl, rfl, rfl, rfl, rfl⟩ := hp
    refine w_get C hw (c0 := 40) (i0 := i) rfl inA4 12 (by decide) mw238 rfl dX5_state_18 (hB 40 (by decide) (by decide)) rfl rfl rfl ?_
    exact w_iret C hw hr hlocks dX5_state_21 ⟨rfl, rfl, rfl, rfl, by unfold staQ; rw [if_neg (by rw [hy]; decide), ecl, ← hR.1.2.1], rfl⟩
  · refine lv_ifnonnullN hx hb dX5_state_5 ?_
    refine lv_bipush (v := -14) hx hb dX5_state_8 (by decide) ?_
    refine lv_goto (tgt := 21) hx hb dX5_state_10 (by decide) ?_
    exact w_iret C hw hr hlocks dX5_state_21 ⟨rfl, rfl, rfl, rfl, by unfold staQ; rw [if_pos hn], rfl⟩

set_option maxHeartbeats 4000000 in
set_option maxRecDepth 100000 in
theorem c_X5_peek (l : Launch) (sz0 : Nat) (D : va_G) (cs : Nat → ClassId) (X : Sh) (Z : ZT) (Y : va_W) (S : HS) (hS : HOK S) (hMX : MRx X) (hMR : MR Z S) (a : Int32) (x : Int32)  : Ctr l yX5_peek (wsM yX5_peek cX5_peek 3 (some .int)) ({ frames := 2, cells := 0, slots := 0, locals := 42 } : Room) sz0 D cs [.ref (X.1 30 0), .int a, .int x] X Z Y (Pz X Y (fun Z' v => v = some (.int (pekQ S a x)) ∧ Z = Z')) := by
  refine Ctr.ofW (by decide +kernel) (by intro v hv; simp at hv; rcases hv with rfl | rfl | rfl <;> rfl) (Nat.le_of_ble_eq_true rfl) ?_
  intro p e s m below meth c ls C hr hlocks hname hl hN hw
  obtain ⟨hx, hb, hml, hown, hts⟩ := id C
  have hM := hMX.1
  refine lv_aload_n hx hb dX5_peek_0 rfl (hl.at rfl) ?_
  refine lv_iload_n hx hb dX5_peek_1 rfl (hl.at rfl) ?_
  refine w_callV C hN hw (c_X5_of l sz0 D cs X _ Y S hS hMX hMR a) ⟨(Nat.le_of_ble_eq_true rfl), (Nat.le_of_ble_eq_true rfl), mw243, mw6, cy_X5_of⟩ mw240 mw241 mw242 (w_rec hw (c0 := 30) (i0 := 0) (hM 30 (by decide) (by decide)) rfl rfl) rfl hl.1.1 rfl (Nat.le_of_ble_eq_true rfl) dX5_peek_2 ⟨Nat.le_of_ble_eq_true rfl, Nat.le_of_ble_eq_true rfl⟩ (fun X' Z' Y' v k n H locs hp hw => ?_)
  obtain ⟨rfl, rfl, rfl, rfl, rfl, hp⟩ := hp
  rcases hp with ⟨i, hi, rfl, h0, rfl⟩ | ⟨hn, rfl⟩
  · have hB := hMX.2.1 i hi
    have hg := (hMR.2 i hi).2 h0
    have hR := hg.2
    have hy := fnd_y hi h0
    have ecl : (nI i).toNatClampNeg = i := nI_clamp (by omega)
    have hF : S.1 i ≤ 64 := (hS.1 i hi).1
    refine lv_ifnull hx hb dX5_peek_5 ?_
    refine lv_aload_n hx hb dX5_peek_8 rfl (hl.at rfl) ?_
    refine lv_iload_n hx hb dX5_peek_9 rfl (hl.at rfl) ?_
    refine w_callV C hN hw (c_X5_ofY l sz0 D cs X _ Y S hS hMX hMR i hi h0) ⟨(Nat.le_of_ble_eq_true rfl), (Nat.le_of_ble_eq_true rfl), mw243, mw6, cy_X5_of⟩ mw240 mw241 mw242 (w_rec hw (c0 := 30) (i0 := 0) (hM 30 (by decide) (by decide)) rfl rfl) rfl hl.1.1 rfl (Nat.le_of_ble_eq_true rfl) dX5_peek_10 ⟨Nat.le_of_ble_eq_true rfl, Nat.le_of_ble_eq_true rfl⟩ (fun X' Z' Y' v k n H locs hp hw => ?_)
    obtain ⟨rfl, rfl, rfl, rfl, rfl, rfl⟩ := hp
    refine lv_iload_n hx hb dX5_peek_13 rfl (hl.at rfl) ?_
    refine w_callV C hN hw (c_X4_isMemory l sz0 D cs X _ Y i hB x) ⟨(Nat.le_of_ble_eq_true rfl), (Nat.le_of_ble_eq_true rfl), mw247, mw71, cy_X4_isMemory⟩ mw244 mw245 mw246 (w_rec hw (c0 := 40) (i0 := i) (hB 40 (by decide) (by decide)) rfl rfl) rfl hl.1.1 rfl (Nat.le_of_ble_eq_true rfl) dX5_peek_14 ⟨Nat.le_of_ble_eq_true rfl, Nat.le_of_ble_eq_true rfl⟩ (fun X' Z' Y' v k n H locs hp hw => ?_)
    obtain ⟨rfl, rfl, rfl, rfl, rfl, rfl⟩ := hp
    rw [hR.1.1, bwv_has hF]
    refine lv_if_eq (tgt := 33) hx hb dX5_peek_17 (by decide) (fun h17 => ?_) (fun h17 => ?_)
    · refine lv_iconst (v := 0) hx hb dX5_peek_33 (by decide) ?_
      exact w_iret C hw hr hlocks dX5_peek_34 ⟨rfl, rfl, rfl, rfl, by unfold pekQ; rw [if_neg (by rw [hy]; decide), ecl, if_pos h17], rfl⟩
    · obtain ⟨xn, hxn, rfl⟩ := hasWv_in hF h17
      refine lv_aload_n hx hb dX5_peek_20 rfl (hl.at rfl) ?_
      refine lv_iload_n hx hb dX5_peek_21 rfl (hl.at rfl) ?_
      refine w_callV C hN hw (c_X5_ofY l sz0 D cs X _ Y S hS hMX hMR i hi h0) ⟨(Nat.le_of_ble_eq_true rfl), (Nat.le_of_ble_eq_true rfl), mw243, mw6, cy_X5_of⟩ mw240 mw241 mw242 (w_rec hw (c0 := 30) (i0 := 0) (hM 30 (by decide) (by decide)) rfl rfl) rfl hl.1.1 rfl (Nat.le_of_ble_eq_true rfl) dX5_peek_22 ⟨Nat.le_of_ble_eq_true rfl, Nat.le_of_ble_eq_true rfl⟩ (fun X' Z' Y' v k n H locs hp hw => ?_)
      obtain ⟨rfl, rfl, rfl, rfl, rfl, rfl⟩ := hp
      refine w_get C hw (c0 := 40) (i0 := i) rfl inA4 2 (by decide) mw239 rfl dX5_peek_25 (hB 40 (by decide) (by decide)) rfl rfl rfl ?_
      refine lv_iload_n hx hb dX5_peek_28 rfl (hl.at rfl) ?_
      refine w_ild C hw (c0 := 41) (i0 := i) dX5_peek_29 (hB 41 (by decide) (by decide)) rfl rfl (vp_in_nI (show xn < 4096 by omega) (by decide)) (nI_clamp (by omega)) ?_
      refine lv_goto (tgt := 34) hx hb dX5_peek_30 (by decide) ?_
      exact w_iret C hw hr hlocks dX5_peek_34 ⟨rfl, rfl, rfl, rfl, by unfold pekQ; rw [if_neg (by rw [hy]; decide), ecl, if_neg h17, nI_clamp (by omega), hR.m hxn], rfl⟩
  · refine lv_ifnullN (tgt := 33) hx hb dX5_peek_5 (by decide) ?_
    refine lv_iconst (v := 0) hx hb dX5_peek_33 (by decide) ?_
    exact w_iret C hw hr hlocks dX5_peek_34 ⟨rfl, rfl, rfl, rfl, by unfold pekQ; rw [if_pos hn], rfl⟩

set_option maxHeartbeats 4000000 in
set_option maxRecDepth 100000 in
theorem c_X5_disk (l : Launch) (sz0 : Nat) (D : va_G) (cs : Nat → ClassId) (X : Sh) (Z : ZT) (Y : va_W) (S : HS) (hS : HOK S) (hMX : MRx X) (hMR : MR Z S) (a : Int32) (x : Int32)  : Ctr l yX5_disk (wsM yX5_disk cX5_disk 3 (some .int)) ({ frames := 1, cells := 0, slots := 0, locals := 21 } : Room) sz0 D cs [.ref (X.1 30 0), .int a, .int x] X Z Y (Pz X Y (fun Z' v => v = some (.int (dskQ S a x)) ∧ Z = Z')) := by
  refine Ctr.ofW (by decide +kernel) (by intro v hv; simp at hv; rcases hv with rfl | rfl | rfl <;> rfl) (Nat.le_of_ble_eq_true rfl) ?_
  intro p e s m below meth c ls C hr hlocks hname hl hN hw
  obtain ⟨hx, hb, hml, hown, hts⟩ := id C
  have hM := hMX.1
  refine lv_aload_n hx hb dX5_disk_0 rfl (hl.at rfl) ?_
  refine lv_iload_n hx hb dX5_disk_1 rfl (hl.at rfl) ?_
  refine w_callV C hN hw (c_X5_of l sz0 D cs X _ Y S hS hMX hMR a) ⟨(Nat.le_of_ble_eq_true rfl), (Nat.le_of_ble_eq_true rfl), mw243, mw6, cy_X5_of⟩ mw240 mw241 mw242 (w_rec hw (c0 := 30) (i0 := 0) (hM 30 (by decide) (by decide)) rfl rfl) rfl hl.1.1 rfl (Nat.le_of_ble_eq_true rfl) dX5_disk_2 ⟨Nat.le_of_ble_eq_true rfl, Nat.le_of_ble_eq_true rfl⟩ (fun X' Z' Y' v k n H locs hp hw => ?_)
  obtain ⟨rfl, rfl, rfl, rfl, rfl, hp⟩ := hp
  rcases hp with ⟨i, hi, rfl, h0, rfl⟩ | ⟨hn, rfl⟩
  · have hB := hMX.2.1 i hi
    have hg := (hMR.2 i hi).2 h0
    have hR := hg.2
    have hy := fnd_y hi h0
    have ecl : (nI i).toNatClampNeg = i := nI_clamp (by omega)
    have hF : S.1 i ≤ 64 := (hS.1 i hi).1
    refine lv_ifnull hx hb dX5_disk_5 ?_
    refine lv_iload_n hx hb dX5_disk_8 rfl (hl.at rfl) ?_
    refine lv_if_lt (tgt := 32) hx hb dX5_disk_9 (by decide) (fun h9 => ?_) (fun h9 => ?_)
    · refine lv_iconst (v := 0) hx hb dX5_disk_32 (by decide) ?_
      exact w_iret C hw hr hlocks dX5_disk_33 ⟨rfl, rfl, rfl, rfl, by unfold dskQ; rw [if_neg (by rw [hy]; decide), ecl, if_pos (Or.inl h9)], rfl⟩
    · refine lv_iload_n hx hb dX5_disk_12 rfl (hl.at rfl) ?_
      refine lv_sipush (v := 1024) hx hb dX5_disk_13 (by decide) ?_
      refine lv_icmp_ge (tgt := 32) hx hb dX5_disk_16 (by decide) (fun h16 => ?_) (fun h16 => ?_)
      · refine lv_iconst (v := 0) hx hb dX5_disk_32 (by decide) ?_
        exact w_iret C hw hr hlocks dX5_disk_33 ⟨rfl, rfl, rfl, rfl, by unfold dskQ; rw [if_neg (by rw [hy]; decide), ecl, if_pos (Or.inr (Int32.not_lt.mpr h16))], rfl⟩
      · have hv : vp_in x 1024 := vpr (N := 1024) (by decide) h9 h16
        have hk : x.toNatClampNeg < 1024 := Nat.not_le.mp (fun q => hv (Or.inr q))
        refine lv_aload_n hx hb dX5_disk_19 rfl (hl.at rfl) ?_
        refine lv_iload_n hx hb dX5_disk_20 rfl (hl.at rfl) ?_
        refine w_callV C hN hw (c_X5_ofY l sz0 D cs X _ Y S hS hMX hMR i hi h0) ⟨(Nat.le_of_ble_eq_true rfl), (Nat.le_of_ble_eq_true rfl), mw243, mw6, cy_X5_of⟩ mw240 mw241 mw242 (w_rec hw (c0 := 30) (i0 := 0) (hM 30 (by decide) (by decide)) rfl rfl) rfl hl.1.1 rfl (Nat.le_of_ble_eq_true rfl) dX5_disk_21 ⟨Nat.le_of_ble_eq_true rfl, Nat.le_of_ble_eq_true rfl⟩ (fun X' Z' Y' v k n H locs hp hw => ?_)
        obtain ⟨rfl, rfl, rfl, rfl, rfl, rfl⟩ := hp
        refine w_get C hw (c0 := 40) (i0 := i) rfl inA4 3 (by decide) mw259 rfl dX5_disk_24 (hB 40 (by decide) (by decide)) rfl rfl rfl ?_
        refine lv_iload_n hx hb dX5_disk_27 rfl (hl.at rfl) ?_
        refine w_ild C hw (c0 := 42) (i0 := i) dX5_disk_28 (hB 42 (by decide) (by decide)) rfl rfl hv rfl ?_
        refine lv_goto (tgt := 33) hx hb dX5_disk_29 (by decide) ?_
        exact w_iret C hw hr hlocks dX5_disk_33 ⟨rfl, rfl, rfl, rfl, by unfold dskQ; rw [if_neg (by rw [hy]; decide), ecl, if_neg (fun q => q.elim h9 (fun q => q (Int32.not_le.mp h16))), hR.2.2.1 _ hk], rfl⟩
  · refine lv_ifnullN (tgt := 32) hx hb dX5_disk_5 (by decide) ?_
    refine lv_iconst (v := 0) hx hb dX5_disk_32 (by decide) ?_
    exact w_iret C hw hr hlocks dX5_disk_33 ⟨rfl, rfl, rfl, rfl, by unfold dskQ; rw [if_pos hn], rfl⟩

set_option maxHeartbeats 4000000 in
set_option maxRecDepth 100000 in
theorem c_X5_out (l : Launch) (sz0 : Nat) (D : va_G) (cs : Nat → ClassId) (X : Sh) (Z : ZT) (Y : va_W) (S : HS) (hS : HOK S) (hMX : MRx X) (hMR : MR Z S) (a : Int32) (x : Int32)  : Ctr l yX5_out (wsM yX5_out cX5_out 3 (some .int)) ({ frames := 1, cells := 0, slots := 0, locals := 21 } : Room) sz0 D cs [.ref (X.1 30 0), .int a, .int x] X Z Y (Pz X Y (fun Z' v => v = some (.int (outQ S a x)) ∧ Z = Z')) := by
  refine Ctr.ofW (by decide +kernel) (by intro v hv; simp at hv; rcases hv with rfl | rfl | rfl <;> rfl) (Nat.le_of_ble_eq_true rfl) ?_
  intro p e s m below meth c ls C hr hlocks hname hl hN hw
  obtain ⟨hx, hb, hml, hown, hts⟩ := id C
  have hM := hMX.1
  refine lv_aload_n hx hb dX5_out_0 rfl (hl.at rfl) ?_
  refine lv_iload_n hx hb dX5_out_1 rfl (hl.at rfl) ?_
  refine w_callV C hN hw (c_X5_of l sz0 D cs X _ Y S hS hMX hMR a) ⟨(Nat.le_of_ble_eq_true rfl), (Nat.le_of_ble_eq_true rfl), mw243, mw6, cy_X5_of⟩ mw240 mw241 mw242 (w_rec hw (c0 := 30) (i0 := 0) (hM 30 (by decide) (by decide)) rfl rfl) rfl hl.1.1 rfl (Nat.le_of_ble_eq_true rfl) dX5_out_2 ⟨Nat.le_of_ble_eq_true rfl, Nat.le_of_ble_eq_true rfl⟩ (fun X' Z' Y' v k n H locs hp hw => ?_)
  obtain ⟨rfl, rfl, rfl, rfl, rfl, hp⟩ := hp
  rcases hp with ⟨i, hi, rfl, h0, rfl⟩ | ⟨hn, rfl⟩
  · have hB := hMX.2.1 i hi
    have hg := (hMR.2 i hi).2 h0
    have hR := hg.2
    have hy := fnd_y hi h0
    have ecl : (nI i).toNatClampNeg = i := nI_clamp (by omega)
    have hF : S.1 i ≤ 64 := (hS.1 i hi).1
    refine lv_ifnull hx hb dX5_out_5 ?_
    refine lv_iload_n hx hb dX5_out_8 rfl (hl.at rfl) ?_
    refine lv_if_lt (tgt := 44) hx hb dX5_out_9 (by decide) (fun h9 => ?_) (fun h9 => ?_)
    · refine lv_iconst (v := 0) hx hb dX5_out_44 (by decide) ?_
      exact w_iret C hw hr hlocks dX5_out_45 ⟨rfl, rfl, rfl, rfl, by unfold outQ; rw [if_neg (by rw [hy]; decide), ecl, if_pos (Or.inl h9)], rfl⟩
    · refine lv_iload_n hx hb dX5_out_12 rfl (hl.at rfl) ?_
      refine lv_sipush (v := 1000) hx hb dX5_out_13 (by decide) ?_
      refine lv_icmp_ge (tgt := 44) hx hb dX5_out_16 (by decide) (fun h16 => ?_) (fun h16 => ?_)
      · refine lv_iconst (v := 0) hx hb dX5_out_44 (by decide) ?_
        exact w_iret C hw hr hlocks dX5_out_45 ⟨rfl, rfl, rfl, rfl, by unfold outQ; rw [if_neg (by rw [hy]; decide), ecl, if_pos (Or.inr (Or.inl (Int32.not_lt.mpr h16)))], rfl⟩
      · refine lv_iload_n hx hb dX5_out_19 rfl (hl.at rfl) ?_
        refine lv_aload_n hx hb dX5_out_20 rfl (hl.at rfl) ?_
        refine lv_iload_n hx hb dX5_out_21 rfl (hl.at rfl) ?_
        refine w_callV C hN hw (c_X5_ofY l sz0 D cs X _ Y S hS hMX hMR i hi h0) ⟨(Nat.le_of_ble_eq_true rfl), (Nat.le_of_ble_eq_true rfl), mw243, mw6, cy_X5_of⟩ mw240 mw241 mw242 (w_rec hw (c0 := 30) (i0 := 0) (hM 30 (by decide) (by decide)) rfl rfl) rfl hl.1.1 rfl (Nat.le_of_ble_eq_true rfl) dX5_out_22 ⟨Nat.le_of_ble_eq_true rfl, Nat.le_of_ble_eq_true rfl⟩ (fun X' Z' Y' v k n H locs hp hw => ?_)
        obtain ⟨rfl, rfl, rfl, rfl, rfl, rfl⟩ := hp
        refine w_get C hw (c0 := 40) (i0 := i) rfl inA4 15 (by decide) mw543 rfl dX5_out_25 (hB 40 (by decide) (by decide)) rfl rfl rfl ?_
        rw [hR.1.2.2.2.2.2.2.2]
        refine lv_icmp_ge (tgt := 44) hx hb dX5_out_28 (by decide) (fun h28 => ?_) (fun h28 => ?_)
        · refine lv_iconst (v := 0) hx hb dX5_out_44 (by decide) ?_
          exact w_iret C hw hr hlocks dX5_out_45 ⟨rfl, rfl, rfl, rfl, by unfold outQ; rw [if_neg (by rw [hy]; decide), ecl, if_pos (Or.inr (Or.inr (Int32.not_lt.mpr h28)))], rfl⟩
        · obtain ⟨xn, hxn, rfl⟩ := putN h9 h16
          refine lv_aload_n hx hb dX5_out_31 rfl (hl.at rfl) ?_
          refine lv_iload_n hx hb dX5_out_32 rfl (hl.at rfl) ?_
          refine w_callV C hN hw (c_X5_ofY l sz0 D cs X _ Y S hS hMX hMR i hi h0) ⟨(Nat.le_of_ble_eq_true rfl), (Nat.le_of_ble_eq_true rfl), mw243, mw6, cy_X5_of⟩ mw240 mw241 mw242 (w_rec hw (c0 := 30) (i0 := 0) (hM 30 (by decide) (by decide)) rfl rfl) rfl hl.1.1 rfl (Nat.le_of_ble_eq_true rfl) dX5_out_33 ⟨Nat.le_of_ble_eq_true rfl, Nat.le_of_ble_eq_true rfl⟩ (fun X' Z' Y' v k n H locs hp hw => ?_)
          obtain ⟨rfl, rfl, rfl, rfl, rfl, rfl⟩ := hp
          refine w_get C hw (c0 := 40) (i0 := i) rfl inA4 9 (by decide) mw576 rfl dX5_out_36 (hB 40 (by decide) (by decide)) rfl rfl rfl ?_
          refine lv_iload_n hx hb dX5_out_39 rfl (hl.at rfl) ?_
          refine w_ild C hw (c0 := 48) (i0 := i) dX5_out_40 (hB 48 (by decide) (by decide)) rfl rfl (vp_in_nI hxn (by decide)) (nI_clamp (by omega)) ?_
          refine lv_goto (tgt := 45) hx hb dX5_out_41 (by decide) ?_
          exact w_iret C hw hr hlocks dX5_out_45 ⟨rfl, rfl, rfl, rfl, by unfold outQ; rw [if_neg (by rw [hy]; decide), ecl, if_neg (fun q => q.elim h9 (fun q => q.elim (fun q => q (Int32.not_le.mp h16)) (fun q => q (Int32.not_le.mp h28)))), nI_clamp (by omega), hR.2.2.2.2.2.2.2 xn hxn (by rw [hR.1.2.2.2.2.2.2.2]; exact Int32.not_le.mp h28)], rfl⟩
  · refine lv_ifnullN (tgt := 44) hx hb dX5_out_5 (by decide) ?_
    refine lv_iconst (v := 0) hx hb dX5_out_44 (by decide) ?_
    exact w_iret C hw hr hlocks dX5_out_45 ⟨rfl, rfl, rfl, rfl, by unfold outQ; rw [if_pos hn], rfl⟩

set_option maxHeartbeats 4000000 in
set_option maxRecDepth 100000 in
theorem c_X5_cached (l : Launch) (sz0 : Nat) (D : va_G) (cs : Nat → ClassId) (X : Sh) (Z : ZT) (Y : va_W) (S : HS) (hS : HOK S) (hMX : MRx X) (hMR : MR Z S) (a : Int32) (x : Int32)  : Ctr l yX5_cached (wsM yX5_cached cX5_cached 3 (some .int)) ({ frames := 1, cells := 0, slots := 0, locals := 21 } : Room) sz0 D cs [.ref (X.1 30 0), .int a, .int x] X Z Y (Pz X Y (fun Z' v => v = some (.int (cacQ S a x)) ∧ Z = Z')) := by
  refine Ctr.ofW (by decide +kernel) (by intro v hv; simp at hv; rcases hv with rfl | rfl | rfl <;> rfl) (Nat.le_of_ble_eq_true rfl) ?_
  intro p e s m below meth c ls C hr hlocks hname hl hN hw
  obtain ⟨hx, hb, hml, hown, hts⟩ := id C
  have hM := hMX.1
  refine lv_aload_n hx hb dX5_cached_0 rfl (hl.at rfl) ?_
  refine lv_iload_n hx hb dX5_cached_1 rfl (hl.at rfl) ?_
  refine w_callV C hN hw (c_X5_of l sz0 D cs X _ Y S hS hMX hMR a) ⟨(Nat.le_of_ble_eq_true rfl), (Nat.le_of_ble_eq_true rfl), mw243, mw6, cy_X5_of⟩ mw240 mw241 mw242 (w_rec hw (c0 := 30) (i0 := 0) (hM 30 (by decide) (by decide)) rfl rfl) rfl hl.1.1 rfl (Nat.le_of_ble_eq_true rfl) dX5_cached_2 ⟨Nat.le_of_ble_eq_true rfl, Nat.le_of_ble_eq_true rfl⟩ (fun X' Z' Y' v k n H locs hp hw => ?_)
  obtain ⟨rfl, rfl, rfl, rfl, rfl, hp⟩ := hp
  rcases hp with ⟨i, hi, rfl, h0, rfl⟩ | ⟨hn, rfl⟩
  · have hB := hMX.2.1 i hi
    have hg := (hMR.2 i hi).2 h0
    have hR := hg.2
    have hy := fnd_y hi h0
    have ecl : (nI i).toNatClampNeg = i := nI_clamp (by omega)
    have hF : S.1 i ≤ 64 := (hS.1 i hi).1
    refine lv_ifnull hx hb dX5_cached_5 ?_
    refine lv_iload_n hx hb dX5_cached_8 rfl (hl.at rfl) ?_
    refine lv_if_lt (tgt := 32) hx hb dX5_cached_9 (by decide) (fun h9 => ?_) (fun h9 => ?_)
    · refine lv_iconst (v := -1) hx hb dX5_cached_32 (by decide) ?_
      exact w_iret C hw hr hlocks dX5_cached_33 ⟨rfl, rfl, rfl, rfl, by unfold cacQ; rw [if_neg (by rw [hy]; decide), ecl, if_pos (Or.inl h9)], rfl⟩
    · refine lv_iload_n hx hb dX5_cached_12 rfl (hl.at rfl) ?_
      refine lv_sipush (v := 256) hx hb dX5_cached_13 (by decide) ?_
      refine lv_icmp_ge (tgt := 32) hx hb dX5_cached_16 (by decide) (fun h16 => ?_) (fun h16 => ?_)
      · refine lv_iconst (v := -1) hx hb dX5_cached_32 (by decide) ?_
        exact w_iret C hw hr hlocks dX5_cached_33 ⟨rfl, rfl, rfl, rfl, by unfold cacQ; rw [if_neg (by rw [hy]; decide), ecl, if_pos (Or.inr (Int32.not_lt.mpr h16))], rfl⟩
      · have hv : vp_in x 256 := vpr (N := 256) (by decide) h9 h16
        have hk : x.toNatClampNeg < 256 := Nat.not_le.mp (fun q => hv (Or.inr q))
        have hC := hR.2.2.2.2.2.1 _ hk
        refine lv_aload_n hx hb dX5_cached_19 rfl (hl.at rfl) ?_
        refine lv_iload_n hx hb dX5_cached_20 rfl (hl.at rfl) ?_
        refine w_callV C hN hw (c_X5_ofY l sz0 D cs X _ Y S hS hMX hMR i hi h0) ⟨(Nat.le_of_ble_eq_true rfl), (Nat.le_of_ble_eq_true rfl), mw243, mw6, cy_X5_of⟩ mw240 mw241 mw242 (w_rec hw (c0 := 30) (i0 := 0) (hM 30 (by decide) (by decide)) rfl rfl) rfl hl.1.1 rfl (Nat.le_of_ble_eq_true rfl) dX5_cached_21 ⟨Nat.le_of_ble_eq_true rfl, Nat.le_of_ble_eq_true rfl⟩ (fun X' Z' Y' v k n H locs hp hw => ?_)
        obtain ⟨rfl, rfl, rfl, rfl, rfl, rfl⟩ := hp
        refine w_get C hw (c0 := 40) (i0 := i) rfl inA4 6 (by decide) mw585 rfl dX5_cached_24 (hB 40 (by decide) (by decide)) rfl rfl rfl ?_
        refine lv_iload_n hx hb dX5_cached_27 rfl (hl.at rfl) ?_
        refine w_ild C hw (c0 := 45) (i0 := i) dX5_cached_28 (hB 45 (by decide) (by decide)) rfl rfl hv rfl ?_
        refine lv_if_ge (tgt := 34) hx hb dX5_cached_29 (by decide) (fun h29 => ?_) (fun h29 => ?_)
        · rcases hC with ⟨q, -⟩ | ⟨fn, bn, hfn, hbn, e45, e46, e5p⟩
          · exact absurd q (Int32.not_lt.mpr h29)
          · refine lv_bipush (v := 8) hx hb dX5_cached_34 (by decide) ?_
            refine lv_aload_n hx hb dX5_cached_36 rfl (hl.at rfl) ?_
            refine lv_iload_n hx hb dX5_cached_37 rfl (hl.at rfl) ?_
            refine w_callV C hN hw (c_X5_ofY l sz0 D cs X _ Y S hS hMX hMR i hi h0) ⟨(Nat.le_of_ble_eq_true rfl), (Nat.le_of_ble_eq_true rfl), mw243, mw6, cy_X5_of⟩ mw240 mw241 mw242 (w_rec hw (c0 := 30) (i0 := 0) (hM 30 (by decide) (by decide)) rfl rfl) rfl hl.1.1 rfl (Nat.le_of_ble_eq_true rfl) dX5_cached_38 ⟨Nat.le_of_ble_eq_true rfl, Nat.le_of_ble_eq_true rfl⟩ (fun X' Z' Y' v k n H locs hp hw => ?_)
            obtain ⟨rfl, rfl, rfl, rfl, rfl, rfl⟩ := hp
            refine w_get C hw (c0 := 40) (i0 := i) rfl inA4 6 (by decide) mw585 rfl dX5_cached_41 (hB 40 (by decide) (by decide)) rfl rfl rfl ?_
            refine lv_iload_n hx hb dX5_cached_44 rfl (hl.at rfl) ?_
            refine w_ild C hw (c0 := 45) (i0 := i) dX5_cached_45 (hB 45 (by decide) (by decide)) rfl rfl hv rfl ?_
            rw [e45]
            refine lv_imul hx hb dX5_cached_46 ?_
            refine lv_aload_n hx hb dX5_cached_47 rfl (hl.at rfl) ?_
            refine lv_iload_n hx hb dX5_cached_48 rfl (hl.at rfl) ?_
            refine w_callV C hN hw (c_X5_ofY l sz0 D cs X _ Y S hS hMX hMR i hi h0) ⟨(Nat.le_of_ble_eq_true rfl), (Nat.le_of_ble_eq_true rfl), mw243, mw6, cy_X5_of⟩ mw240 mw241 mw242 (w_rec hw (c0 := 30) (i0 := 0) (hM 30 (by decide) (by decide)) rfl rfl) rfl hl.1.1 rfl (Nat.le_of_ble_eq_true rfl) dX5_cached_49 ⟨Nat.le_of_ble_eq_true rfl, Nat.le_of_ble_eq_true rfl⟩ (fun X' Z' Y' v k n H locs hp hw => ?_)
            obtain ⟨rfl, rfl, rfl, rfl, rfl, rfl⟩ := hp
            refine w_get C hw (c0 := 40) (i0 := i) rfl inA4 7 (by decide) mw586 rfl dX5_cached_52 (hB 40 (by decide) (by decide)) rfl rfl rfl ?_
            refine lv_iload_n hx hb dX5_cached_55 rfl (hl.at rfl) ?_
            refine w_ild C hw (c0 := 46) (i0 := i) dX5_cached_56 (hB 46 (by decide) (by decide)) rfl rfl hv rfl ?_
            rw [e46]
            refine lv_iadd hx hb dX5_cached_57 ?_
            exact w_iret C hw hr hlocks dX5_cached_58 ⟨rfl, rfl, rfl, rfl, by unfold cacQ; rw [if_neg (by rw [hy]; decide), ecl, if_neg (fun q => q.elim h9 (fun q => q (Int32.not_le.mp h16))), e5p, show 8 * nI fn = nI 8 * nI fn from rfl, pk_mul, nI_add], rfl⟩
        · rcases hC with ⟨-, e5⟩ | ⟨fn, bn, hfn, hbn, e45, e46, e5p⟩
          · refine lv_iconst (v := -1) hx hb dX5_cached_32 (by decide) ?_
            exact w_iret C hw hr hlocks dX5_cached_33 ⟨rfl, rfl, rfl, rfl, by unfold cacQ; rw [if_neg (by rw [hy]; decide), ecl, if_neg (fun q => q.elim h9 (fun q => q (Int32.not_le.mp h16))), e5], rfl⟩
          · exact absurd (by rw [e45]; exact nI_pos' (by omega)) h29
  · refine lv_ifnullN (tgt := 32) hx hb dX5_cached_5 (by decide) ?_
    refine lv_iconst (v := -1) hx hb dX5_cached_32 (by decide) ?_
    exact w_iret C hw hr hlocks dX5_cached_33 ⟨rfl, rfl, rfl, rfl, by unfold cacQ; rw [if_pos hn], rfl⟩

set_option maxHeartbeats 4000000 in
set_option maxRecDepth 100000 in
theorem c_X5_audit (l : Launch) (sz0 : Nat) (D : va_G) (cs : Nat → ClassId) (X : Sh) (Z : ZT) (Y : va_W) (S : HS) (hS : HOK S) (hMX : MRx X) (hMR : MR Z S)  : Ctr l yX5_audit (wsM yX5_audit cX5_audit 1 (some .int)) ({ frames := 0, cells := 0, slots := 0, locals := 0 } : Room) sz0 D cs [.ref (X.1 30 0)] X Z Y (Pz X Y (fun Z' v => v = some (.int (0)) ∧ Z = Z')) := by
  refine Ctr.ofW (by decide +kernel) (by intro v hv; simp at hv; rcases hv with rfl <;> rfl) (Nat.le_of_ble_eq_true rfl) ?_
  intro p e s m below meth c ls C hr hlocks hname hl hN hw
  obtain ⟨hx, hb, hml, hown, hts⟩ := id C
  have hM := hMX.1
  refine lv_iconst (v := 0) hx hb dX5_audit_0 (by decide) ?_
  exact w_iret C hw hr hlocks dX5_audit_1 ⟨rfl, rfl, rfl, rfl, rfl, rfl⟩

set_option maxHeartbeats 4000000 in
set_option maxRecDepth 100000 in
theorem c_X5_house (l : Launch) (sz0 : Nat) (D : va_G) (cs : Nat → ClassId) (X : Sh) (Z : ZT) (Y : va_W) (S : HS) (hS : HOK S) (hMX : MRx X) (hMR : MR Z S) (w : Int32)  : Ctr l yX5_house (wsM yX5_house cX5_house 4 (some .int)) ({ frames := 0, cells := 0, slots := 0, locals := 0 } : Room) sz0 D cs [.ref (X.1 30 0), .int w] X Z Y (Pz X Y (fun Z' v => v = some (.int (houQ S w)) ∧ Z = Z')) := by
  refine Ctr.ofW (by decide +kernel) (by intro v hv; simp at hv; rcases hv with rfl | rfl <;> rfl) (Nat.le_of_ble_eq_true rfl) ?_
  intro p e s m below meth c ls C hr hlocks hname hl hN hw
  obtain ⟨hx, hb, hml, hown, hts⟩ := id C
  have hM := hMX.1
  refine lv_iconst (v := 0) hx hb dX5_house_0 (by decide) ?_
  refine w_istore_n hx hb dX5_house_1 rfl hl (Nat.le_of_ble_eq_true rfl) (fun ls hl => ?_)
  refine lv_iconst (v := 0) hx hb dX5_house_2 (by decide) ?_
  refine w_istore_n hx hb dX5_house_3 rfl hl (Nat.le_of_ble_eq_true rfl) (fun ls hl => ?_)
  have k31 : ∀ (H : Heap) (locs : List Loc) (ls : Array Slot), lo ls [some (.ref (X.1 30 0)), some (.int w), some (.int (nI (cntF S.1 8))), some (.int (nI 8))] → Wd sz0 D cs s X Z Y H locs → W p l e ({ frames := 0, cells := 0, slots := 0, locals := 0 } : Room) s m ([.ref (X.1 30 0), .int w] : List Value).toArray below meth c H locs 0 0 (xQ below (CQ sz0 D cs (Pz X Y (fun Z' v => v = some (.int (houQ S w)) ∧ Z = Z'))) ([.ref (X.1 30 0), .int w] : List Value).toArray s (Asz sz0)) (F0 m 31 ls []) := by
    intro H locs ls hl hw
    refine lv_iload_n hx hb dX5_house_31 rfl (hl.at rfl) ?_
    refine lv_if_ne (tgt := 42) hx hb dX5_house_32 (by decide) (fun h32 => ?_) (fun h32 => ?_)
    · refine lv_iload_n hx hb dX5_house_42 rfl (hl.at rfl) ?_
      refine lv_iconst (v := 1) hx hb dX5_house_43 (by decide) ?_
      refine lv_icmp_ne (tgt := 54) hx hb dX5_house_44 (by decide) (fun h44 => ?_) (fun h44 => ?_)
      · refine lv_iload_n hx hb dX5_house_54 rfl (hl.at rfl) ?_
        refine lv_iconst (v := 2) hx hb dX5_house_55 (by decide) ?_
        refine lv_icmp_ne (tgt := 63) hx hb dX5_house_56 (by decide) (fun h56 => ?_) (fun h56 => ?_)
        · refine lv_iload_n hx hb dX5_house_63 rfl (hl.at rfl) ?_
          refine lv_iconst (v := 3) hx hb dX5_house_64 (by decide) ?_
          refine lv_icmp_ne (tgt := 75) hx hb dX5_house_65 (by decide) (fun h65 => ?_) (fun h65 => ?_)
          · refine lv_iconst (v := 0) hx hb dX5_house_75 (by decide) ?_
            exact w_iret C hw hr hlocks dX5_house_76 ⟨rfl, rfl, rfl, rfl, by unfold houQ; simp [hMR.1.1, hMR.1.2.1, hMR.1.2.2.1, hMR.1.2.2.2, *], rfl⟩
          · refine lv_aload_n hx hb dX5_house_68 rfl (hl.at rfl) ?_
            refine w_get C hw (c0 := 30) (i0 := 0) rfl inA5 4 (by decide) mw93 rfl dX5_house_69 (hM 30 (by decide) (by decide)) rfl rfl rfl ?_
            refine lv_goto (tgt := 76) hx hb dX5_house_72 (by decide) ?_
            exact w_iret C hw hr hlocks dX5_house_76 ⟨rfl, rfl, rfl, rfl, by unfold houQ; simp [hMR.1.1, hMR.1.2.1, hMR.1.2.2.1, hMR.1.2.2.2, *], rfl⟩
        · refine lv_iload_n hx hb dX5_house_59 rfl (hl.at rfl) ?_
          refine lv_goto (tgt := 76) hx hb dX5_house_60 (by decide) ?_
          exact w_iret C hw hr hlocks dX5_house_76 ⟨rfl, rfl, rfl, rfl, by unfold houQ; simp [hMR.1.1, hMR.1.2.1, hMR.1.2.2.1, hMR.1.2.2.2, *], rfl⟩
      · refine lv_aload_n hx hb dX5_house_47 rfl (hl.at rfl) ?_
        refine w_get C hw (c0 := 30) (i0 := 0) rfl inA5 3 (by decide) mw92 rfl dX5_house_48 (hM 30 (by decide) (by decide)) rfl rfl rfl ?_
        refine lv_goto (tgt := 76) hx hb dX5_house_51 (by decide) ?_
        exact w_iret C hw hr hlocks dX5_house_76 ⟨rfl, rfl, rfl, rfl, by unfold houQ; simp [hMR.1.1, hMR.1.2.1, hMR.1.2.2.1, hMR.1.2.2.2, *], rfl⟩
    · refine lv_aload_n hx hb dX5_house_35 rfl (hl.at rfl) ?_
      refine w_get C hw (c0 := 30) (i0 := 0) rfl inA5 2 (by decide) mw69 rfl dX5_house_36 (hM 30 (by decide) (by decide)) rfl rfl rfl ?_
      refine lv_goto (tgt := 76) hx hb dX5_house_39 (by decide) ?_
      exact w_iret C hw hr hlocks dX5_house_76 ⟨rfl, rfl, rfl, rfl, by unfold houQ; simp [hMR.1.1, hMR.1.2.1, hMR.1.2.2.1, hMR.1.2.2.2, *], rfl⟩
  have loop : ∀ (d j : Nat), j + d = 8 → ∀ (H : Heap) (locs : List Loc) (ls : Array Slot), lo ls [some (.ref (X.1 30 0)), some (.int w), some (.int (nI (cntF S.1 j))), some (.int (nI j))] → Wd sz0 D cs s X Z Y H locs → W p l e ({ frames := 0, cells := 0, slots := 0, locals := 0 } : Room) s m ([.ref (X.1 30 0), .int w] : List Value).toArray below meth c H locs 0 0 (xQ below (CQ sz0 D cs (Pz X Y (fun Z' v => v = some (.int (houQ S w)) ∧ Z = Z'))) ([.ref (X.1 30 0), .int w] : List Value).toArray s (Asz sz0)) (F0 m 4 ls []) := by
    intro d
    induction d with
    | zero =>
      intro i hj H locs ls hl hw
      refine lv_iload_n hx hb dX5_house_4 rfl (hl.at rfl) ?_
      refine lv_bipush (v := 8) hx hb dX5_house_5 (by decide) ?_
      refine lv_icmp_ge (tgt := 31) hx hb dX5_house_7 (by decide) (fun h7 => ?_) (fun h7 => ?_)
      · have hi8 : i = 8 := by omega
        subst hi8
        exact k31 _ _ _ hl hw
      · exact absurd (nI_le (show 8 ≤ i by omega) (by omega)) h7
    | succ d ih =>
      intro i hj H locs ls hl hw
      refine lv_iload_n hx hb dX5_house_4 rfl (hl.at rfl) ?_
      refine lv_bipush (v := 8) hx hb dX5_house_5 (by decide) ?_
      refine lv_icmp_ge (tgt := 31) hx hb dX5_house_7 (by decide) (fun h7 => ?_) (fun h7 => ?_)
      · exact absurd (show nI 8 ≤ nI i from h7) (nI_ge (show i < 8 by omega) (by decide))
      · have hi : i < 8 := by omega
        have hB := hMX.2.1 i hi
        have hg := hMR.2 i hi
        refine lv_aload_n hx hb dX5_house_10 rfl (hl.at rfl) ?_
        refine w_get C hw (c0 := 30) (i0 := 0) rfl inA5 0 (by decide) mw67 rfl dX5_house_11 (hM 30 (by decide) (by decide)) rfl rfl rfl ?_
        refine lv_iload_n hx hb dX5_house_14 rfl (hl.at rfl) ?_
        refine w_ald C hw (c0 := 31) (i0 := 0) (t := 3) dX5_house_15 (hM 31 (by decide) (by decide)) rfl rfl rfl (vp_in_nI hi (by decide)) (nI_clamp (by omega)) ?_
        rw [arefM (hMX.2.2 i hi)]
        refine w_get C hw (c0 := 40) (i0 := i) rfl inA4 1 (by decide) mw91 rfl dX5_house_16 (hB 40 (by decide) (by decide)) rfl rfl rfl ?_
        refine lv_if_eq (tgt := 25) hx hb dX5_house_19 (by decide) (fun h19 => ?_) (fun h19 => ?_)
        · have c0 : S.1 i = 0 := Classical.not_not.mp (fun q => absurd h19 (by rw [(hg.2 q).1]; decide))
          refine w_iinc hx hb dX5_house_25 hl rfl rfl (fun ls hl => ?_)
          refine lv_goto (tgt := 4) hx hb dX5_house_28 (by decide) ?_
          exact ih (i + 1) (by omega) _ _ _ (by rw [← nI_1 i, show cntF S.1 (i + 1) = cntF S.1 i from by unfold cntF; rw [sumN, if_pos c0]; rfl]; exact hl) hw
        · have c0 : ¬ S.1 i = 0 := fun q => h19 (hg.1 q)
          refine w_iinc hx hb dX5_house_22 hl rfl rfl (fun ls hl => ?_)
          refine w_iinc hx hb dX5_house_25 hl rfl rfl (fun ls hl => ?_)
          refine lv_goto (tgt := 4) hx hb dX5_house_28 (by decide) ?_
          exact ih (i + 1) (by omega) _ _ _ (by rw [← nI_1 i, show cntF S.1 (i + 1) = cntF S.1 i + 1 from by unfold cntF; rw [sumN, if_neg c0], ← nI_1]; exact hl) hw
  exact loop 8 0 (by decide) _ _ _ hl hw
