/-! ===== GuestHouse: new guests ===== -/

theorem hfs0 : ∀ j, j < 17 → defaultValue (tyX0 j) = vp_V [.int 0, .int 0, .int 0, .int 0, .int 0, .int 0, .int 0, .null, .null, .null, .null, .null, .null, .int 0, .int 0, .null, .int 0] j := fun j hj => by
  have h9 : j = 0 ∨ j = 1 ∨ j = 2 ∨ j = 3 ∨ j = 4 ∨ j = 5 ∨ j = 6 ∨ j = 7 ∨ j = 8 ∨ j = 9 ∨ j = 10 ∨ j = 11 ∨ j = 12 ∨ j = 13 ∨ j = 14 ∨ j = 15 ∨ j = 16 := by omega
  rcases h9 with rfl | rfl | rfl | rfl | rfl | rfl | rfl | rfl | rfl | rfl | rfl | rfl | rfl | rfl | rfl | rfl | rfl <;> rfl

theorem hfs1 : ∀ j, j < 13 → defaultValue (tyX1 j) = vp_V [.int 0, .int 0, .int 0, .int 0, .null, .null, .null, .null, .null, .null, .null, .null, .null] j := fun j hj => by
  have h9 : j = 0 ∨ j = 1 ∨ j = 2 ∨ j = 3 ∨ j = 4 ∨ j = 5 ∨ j = 6 ∨ j = 7 ∨ j = 8 ∨ j = 9 ∨ j = 10 ∨ j = 11 ∨ j = 12 := by omega
  rcases h9 with rfl | rfl | rfl | rfl | rfl | rfl | rfl | rfl | rfl | rfl | rfl | rfl | rfl <;> rfl

theorem hfs2 : ∀ j, j < 5 → defaultValue (tyX2 j) = vp_V [.null, .int 0, .int 0, .int 0, .int 0] j := fun j hj => by
  have h9 : j = 0 ∨ j = 1 ∨ j = 2 ∨ j = 3 ∨ j = 4 := by omega
  rcases h9 with rfl | rfl | rfl | rfl | rfl <;> rfl

theorem hfs3 : ∀ j, j < 7 → defaultValue (tyX3 j) = vp_V [.null, .null, .null, .int 0, .int 0, .int 0, .int 0] j := fun j hj => by
  have h9 : j = 0 ∨ j = 1 ∨ j = 2 ∨ j = 3 ∨ j = 4 ∨ j = 5 ∨ j = 6 := by omega
  rcases h9 with rfl | rfl | rfl | rfl | rfl | rfl | rfl <;> rfl

theorem hfs4 : ∀ j, j < 19 → defaultValue (tyX4 j) = vp_V [.int 0, .int 0, .null, .null, .null, .null, .null, .null, .null, .null, .int 0, .int 0, .int 0, .int 0, .int 0, .int 0, .int 0, .int 0, .int 0] j := fun j hj => by
  have h9 : j = 0 ∨ j = 1 ∨ j = 2 ∨ j = 3 ∨ j = 4 ∨ j = 5 ∨ j = 6 ∨ j = 7 ∨ j = 8 ∨ j = 9 ∨ j = 10 ∨ j = 11 ∨ j = 12 ∨ j = 13 ∨ j = 14 ∨ j = 15 ∨ j = 16 ∨ j = 17 ∨ j = 18 := by omega
  rcases h9 with rfl | rfl | rfl | rfl | rfl | rfl | rfl | rfl | rfl | rfl | rfl | rfl | rfl | rfl | rfl | rfl | rfl | rfl | rfl <;> rfl

theorem hfs5 : ∀ j, j < 5 → defaultValue (tyX5 j) = vp_V [.null, .int 0, .int 0, .int 0, .int 0] j := fun j hj => by
  have h9 : j = 0 ∨ j = 1 ∨ j = 2 ∨ j = 3 ∨ j = 4 := by omega
  rcases h9 with rfl | rfl | rfl | rfl | rfl <;> rfl

set_option maxHeartbeats 4000000 in
set_option maxRecDepth 100000 in
theorem c_X3_room (l : Launch) (sz0 : Nat) (D : va_G) (cs : Nat → ClassId) (X : Sh) (Z : ZT) (Y : va_W) (S : HS) (hS : HOK S) (hCX : CRx X) (h gp : Nat) (hCR : CR X Z S h gp) (i : Nat) (hi : i < 8) (h0 : S.1 i = 0) (kc ks : Nat) (hkc : 8 * unm X ≤ kc) (hks : 32832 * (8 * unm X) ≤ ks) : Ctr l yX3_room (wsM yX3_room cX3_room 4 (some (.object "GuestHouse$Guest"))) ({ frames := 2, cells := kc, slots := ks, locals := 40 } : Room) sz0 D cs [.ref (X.1 0 0), .int (nI i)] X Z [] (fun X' Z' Y' v k n => Y' = [] ∧ v = some (.ref (X'.1 20 i)) ∧ CRx X' ∧ CR X' Z' S h gp ∧ X'.2.2.1 i = true ∧ k + 8 * unm X' ≤ 8 * unm X ∧ n ≤ 32832 * k ∧ KX X X' ∧ (∀ c j, 30 ≤ c → Z' c j = Z c j) ∧ (∀ j, X.2.2.1 j = true → X'.1 20 j = X.1 20 j)) := by
  refine Ctr.ofW (by decide +kernel) (by intro v hv; simp at hv; rcases hv with rfl | rfl <;> rfl) (Nat.le_of_ble_eq_true rfl) ?_
  intro p e s m below meth c ls C hr hlocks hname hl hN hw
  obtain ⟨hx, hb, hml, hown, hts⟩ := id C
  have hX := hCX.1
  have hU := hCX.2.1.1
  refine lv_iload_n hx hb dX3_room_0 rfl (hl.at rfl) ?_
  refine lv_bipush (v := 7) hx hb dX3_room_1 (by decide) ?_
  refine lv_iand hx hb dX3_room_3 ?_
  refine lv_topi (fun y ey => ?_)
  obtain rfl : y = nI i := ey.trans (by rw [pk_andN (by omega) 3 (by decide), show 2 ^ 3 = 8 from rfl, Nat.mod_eq_of_lt hi])
  refine w_istore_n hx hb dX3_room_4 rfl hl (Nat.le_of_ble_eq_true rfl) (fun ls hl => ?_)
  refine lv_aload_n hx hb dX3_room_5 rfl (hl.at rfl) ?_
  refine w_get C hw (c0 := 0) (i0 := 0) rfl inA3 2 (by decide) mw22 rfl dX3_room_6 (hX 0 (by decide)) rfl rfl rfl ?_
  refine lv_iload_n hx hb dX3_room_9 rfl (hl.at rfl) ?_
  by_cases hm : X.2.2.1 i = true
  · refine w_ald C hw (c0 := 1) (i0 := 0) (t := 2) dX3_room_10 (hX 1 (by decide)) rfl rfl rfl (vp_in_nI hi (by decide)) (nI_clamp (by omega)) ?_
    rw [arefG hm]
    refine w_astore_n hx hb dX3_room_11 rfl hl (Nat.le_of_ble_eq_true rfl) (fun ls hl => ?_)
    refine lv_aload_n hx hb dX3_room_12 rfl (hl.at rfl) ?_
    refine lv_ifnonnull (tgt := 31) hx hb dX3_room_13 (by decide) ?_
    refine lv_aload_n hx hb dX3_room_31 rfl (hl.at rfl) ?_
    exact w_aret C hw hr (Or.inl ⟨_, rfl⟩) (Or.inr ⟨_, rfl⟩) hlocks dX3_room_32 ⟨rfl, rfl, hCX, hCR, hm, by omega, by omega, KX.refl, fun _ _ _ => rfl, fun _ _ => rfl⟩
  · have hu1 : 1 ≤ unm X := by
      have := sumN_ge (f := fun j => if X.2.2.1 j = true then 0 else 1) hi
      try dsimp only at this
      rw [if_neg hm] at this
      exact this
    refine w_ald C hw (c0 := 1) (i0 := 0) (t := 2) dX3_room_10 (hX 1 (by decide)) rfl rfl rfl (vp_in_nI hi (by decide)) (nI_clamp (by omega)) ?_
    rw [arefN hm]
    refine w_astore_nN hx hb dX3_room_11 rfl hl (Nat.le_of_ble_eq_true rfl) (fun ls hl => ?_)
    refine lv_aload_nN hx hb dX3_room_12 rfl (hl.at rfl) ?_
    refine lv_ifnonnullN hx hb dX3_room_13 ?_
    refine w_newL C (Y0 := []) (L := []) hw (ci := 0) (fs := [.int 0, .int 0, .int 0, .int 0, .int 0, .int 0, .int 0, .null, .null, .null, .null, .null, .null, .int 0, .int 0, .null, .int 0]) rfl inA0 tyX0_ok mw21 mw110 mw111 hfs0 (by show 0 + 1 ≤ kc; omega) (by show 0 + 17 ≤ ks; omega) dX3_room_16 (fun q H hw => ?_)
    refine lv_dup hx hb dX3_room_19 rfl ?_
    refine w_callIN C hN hw (c_X0_init l sz0 D cs X _ [] q) ⟨(Nat.le_of_ble_eq_true rfl), (Nat.le_of_ble_eq_true rfl), mw113, mw111, cy_X0_init⟩ mw637 mw112 rfl rfl hl.1.1 rfl (Nat.le_of_ble_eq_true rfl) dX3_room_20 ⟨by show 0 + 1 + 7 ≤ kc; omega, by show 0 + 17 + 2426 ≤ ks; omega⟩ (fun X' Z' Y' v k n H locs hp hw => ?_)
    obtain ⟨rfl, rfl, rfl, rfl, rfl, q1, q2, q3, q4, q5, q6, q7, rfl⟩ := hp
    have hw : Wd sz0 D cs s X Z (gL cs (fun k => [q, q1, q2, q3, q4, q5, q6, q7].getD k 0)) H locs := hw
    refine w_astore_n hx hb dX3_room_23 rfl hl (Nat.le_of_ble_eq_true rfl) (fun ls hl => ?_)
    refine lv_aload_n hx hb dX3_room_24 rfl (hl.at rfl) ?_
    refine w_get C hw (c0 := 0) (i0 := 0) rfl inA3 2 (by decide) mw22 rfl dX3_room_25 (hX 0 (by decide)) rfl rfl rfl ?_
    refine lv_iload_n hx hb dX3_room_28 rfl (hl.at rfl) ?_
    refine lv_aload_n hx hb dX3_room_29 rfl (hl.at rfl) ?_
    refine gX_ast (A := fun k => [q, q1, q2, q3, q4, q5, q6, q7].getD k 0) C hw (hX 1 (by decide)) hi (fun c q1 q2 q3 => hm (hCX.2.1.2 c i q1 q2 q3)) (fun j q => hU 1 j (by decide) q) dX3_room_30 (fun H locs hw => ?_)
    refine lv_aload_n hx hb dX3_room_31 rfl (hl.at rfl) ?_
    have hun := gX_unm (A := fun k => [q, q1, q2, q3, q4, q5, q6, q7].getD k 0) hi hm
    exact w_aret C hw hr (Or.inl ⟨_, rfl⟩) (Or.inr ⟨_, rfl⟩) hlocks dX3_room_32 ⟨rfl, by rw [gX_s (by decide)]; rfl, gX_CRx hi hCX, gX_CR hi hS h0 hCR, gX_f, by show 0 + 1 + 7 + _ ≤ _; omega, by show 0 + 17 + 2426 ≤ 32832 * (0 + 1 + 7); omega, gX_KX hi, fun c j q => gZ_n (by omega), fun j q => gX_n (fun w => hm (by rw [← w.1]; exact q))⟩

set_option maxHeartbeats 4000000 in
set_option maxRecDepth 100000 in
theorem c_X3_guest (l : Launch) (sz0 : Nat) (D : va_G) (cs : Nat → ClassId) (X : Sh) (Z : ZT) (Y : va_W) (S : HS) (hS : HOK S) (hCX : CRx X) (h gp : Nat) (hCR : CR X Z S h gp) (kc ks : Nat) (hkc : 8 * unm X ≤ kc) (hks : 32832 * (8 * unm X) ≤ ks) (u : Int32) : Ctr l yX3_guest (wsM yX3_guest cX3_guest 4 (some .int)) ({ frames := 4, cells := kc, slots := ks, locals := 84 } : Room) sz0 D cs [.ref (X.1 0 0), .int u] X Z [] (CPo X Z [] gp (gstS S u).1 (gstS S u).2) := by
  refine Ctr.ofW (by decide +kernel) (by intro v hv; simp at hv; rcases hv with rfl | rfl <;> rfl) (Nat.le_of_ble_eq_true rfl) ?_
  intro p e s m below meth c ls C hr hlocks hname hl hN hw
  obtain ⟨hx, hb, hml, hown, hts⟩ := id C
  have hX := hCX.1
  have hU := hCX.2.1.1
  refine lv_iload_n hx hb dX3_guest_0 rfl (hl.at rfl) ?_
  refine lv_iconst (v := 1) hx hb dX3_guest_1 (by decide) ?_
  refine lv_icmp_lt (tgt := 11) hx hb dX3_guest_2 (by decide) (fun h2 => ?_) (fun h2 => ?_)
  · refine lv_iconst (v := -1) hx hb dX3_guest_11 (by decide) ?_
    have eo : gstS S u = (S, -1) := by unfold gstS; rw [if_pos (Or.inl h2)]
    exact w_iret C hw hr hlocks dX3_guest_12 (by rw [eo]; exact CPo_z hCX hCR (fun _ _ _ => rfl) rfl)
  · refine lv_iload_n hx hb dX3_guest_5 rfl (hl.at rfl) ?_
    refine lv_bipush (v := 64) hx hb dX3_guest_6 (by decide) ?_
    refine lv_icmp_le (tgt := 13) hx hb dX3_guest_8 (by decide) (fun h8 => ?_) (fun h8 => ?_)
    · have hf : ¬ (u < 1 ∨ 64 < u) := fun q => q.elim h2 (fun q => Int32.not_lt.mpr h8 q)
      obtain ⟨n0, hn01, hn64, rfl⟩ := frm_of hf
      refine lv_aload_n hx hb dX3_guest_13 rfl (hl.at rfl) ?_
      refine w_callV C hN hw (c_X3_leastFree l sz0 D cs X _ [] S hS hCX h gp hCR) ⟨(Nat.le_of_ble_eq_true rfl), (Nat.le_of_ble_eq_true rfl), mw101, mw3, cy_X3_leastFree⟩ mw98 mw99 mw100 (w_rec hw (c0 := 0) (i0 := 0) (hX 0 (by decide)) rfl rfl) rfl hl.1.1 rfl (Nat.le_of_ble_eq_true rfl) dX3_guest_14 ⟨Nat.zero_le _, Nat.zero_le _⟩ (fun X' Z' Y' v k n H locs hp hw => ?_)
      obtain ⟨rfl, rfl, rfl, rfl, rfl, rfl⟩ := hp
      by_cases c8 : leastF S.1 = 8
      · rw [if_pos c8]
        refine w_istore_n hx hb dX3_guest_17 rfl hl (Nat.le_of_ble_eq_true rfl) (fun ls hl => ?_)
        refine lv_iload_n hx hb dX3_guest_18 rfl (hl.at rfl) ?_
        refine lv_iconst (v := -1) hx hb dX3_guest_19 (by decide) ?_
        refine lv_icmp_ne (tgt := 26) hx hb dX3_guest_20 (by decide) (fun h20 => ?_) (fun h20 => ?_)
        · exact absurd rfl h20
        · refine lv_bipush (v := -12) hx hb dX3_guest_23 (by decide) ?_
          have eo : gstS S (nI n0) = (S, -12) := by unfold gstS; rw [if_neg hf, if_pos c8]
          exact w_iret C hw hr hlocks dX3_guest_25 (by rw [eo]; exact CPo_z hCX hCR (fun _ _ _ => rfl) rfl)
      · have hi : leastF S.1 < 8 := Nat.lt_of_le_of_ne leastF_le c8
        have h0 := leastF_0 hi
        rw [if_neg c8]
        obtain ⟨i, ei⟩ : ∃ i, i = leastF S.1 := ⟨_, rfl⟩
        rw [← ei] at hi h0 ⊢
        refine w_istore_n hx hb dX3_guest_17 rfl hl (Nat.le_of_ble_eq_true rfl) (fun ls hl => ?_)
        refine lv_iload_n hx hb dX3_guest_18 rfl (hl.at rfl) ?_
        refine lv_iconst (v := -1) hx hb dX3_guest_19 (by decide) ?_
        refine lv_icmp_ne (tgt := 26) hx hb dX3_guest_20 (by decide) (fun h20 => ?_) (fun h20 => ?_)
        · refine lv_aload_n hx hb dX3_guest_26 rfl (hl.at rfl) ?_
          refine lv_iload_n hx hb dX3_guest_27 rfl (hl.at rfl) ?_
          refine w_callV C hN hw (c_X3_room l sz0 D cs X _ [] S hS hCX h gp hCR i hi h0 kc ks hkc hks) ⟨(Nat.le_of_ble_eq_true rfl), (Nat.le_of_ble_eq_true rfl), mw109, mw3, cy_X3_room⟩ mw106 mw107 mw108 (w_rec hw (c0 := 0) (i0 := 0) (hX 0 (by decide)) rfl rfl) rfl hl.1.1 rfl (Nat.le_of_ble_eq_true rfl) dX3_guest_28 ⟨by show 0 + kc ≤ kc; omega, by show 0 + ks ≤ ks; omega⟩ (fun X1 Z1 Y1 v1 k1 n1 H locs hp hw => ?_)
          obtain ⟨rfl, rfl, hCX1, hC1, hm1, hk1, hn1, hKX, h30, hkeep⟩ := hp
          have hX := hCX1.1
          have hG := hCX1.2.2 i hi hm1
          rw [← hKX.1 0 0 (Or.inl (by decide))] at hl
          refine w_astore_n hx hb dX3_guest_31 rfl hl (Nat.le_of_ble_eq_true rfl) (fun ls hl => ?_)
          refine lv_aload_n hx hb dX3_guest_32 rfl (hl.at rfl) ?_
          refine lv_iload_n hx hb dX3_guest_33 rfl (hl.at rfl) ?_
          refine w_callV C hN hw (c_X0_renew l sz0 D cs X1 _ [] i hG (nI n0)) ⟨(Nat.le_of_ble_eq_true rfl), (Nat.le_of_ble_eq_true rfl), mw125, mw111, cy_X0_renew⟩ mw122 mw123 mw124 (w_rec hw (c0 := 20) (i0 := i) (hG 20 (by decide) (by decide)) rfl rfl) rfl hl.1.1 rfl (Nat.le_of_ble_eq_true rfl) dX3_guest_34 ⟨by show 0 + k1 + 0 ≤ kc; omega, by show 0 + n1 + 0 ≤ ks; omega⟩ (fun X' Z' Y' v k n H locs hp hw => ?_)
          obtain ⟨rfl, rfl, rfl, rfl, rfl, rfl⟩ := hp
          refine lv_aload_n hx hb dX3_guest_37 rfl (hl.at rfl) ?_
          refine w_get C hw (c0 := 0) (i0 := 0) rfl inA3 0 (by decide) mw16 rfl dX3_guest_38 (hX 0 (by decide)) rfl rfl rfl ?_
          refine lv_aload_n hx hb dX3_guest_41 rfl (hl.at rfl) ?_
          refine w_callV C hN hw (c_X1_lendBlank l sz0 D cs X1 _ [] hX i hG n0 (by simp [zRenew, zRen2, zRen1, zReset, zRen0, upr, upd]) hn64) ⟨(Nat.le_of_ble_eq_true rfl), (Nat.le_of_ble_eq_true rfl), mw148, mw15, cy_X1_lendBlank⟩ mw145 mw146 mw147 (w_rec hw (c0 := 2) (i0 := 0) (hX 2 (by decide)) rfl rfl) rfl hl.1.1 rfl (Nat.le_of_ble_eq_true rfl) dX3_guest_42 ⟨by show 0 + k1 + 0 + 0 ≤ kc; omega, by show 0 + n1 + 0 + 0 ≤ ks; omega⟩ (fun X' Z' Y' v k n H locs hp hw => ?_)
          obtain ⟨rfl, rfl, rfl, rfl, rfl, rfl⟩ := hp
          refine lv_iload_n hx hb dX3_guest_45 rfl (hl.at rfl) ?_
          have eo : gstS S (nI n0) = ((upn S.1 i n0, upm S.2.1 i (newG n0), S.2.2), nI i) := by unfold gstS; rw [if_neg hf, if_neg c8, nI_clamp (show n0 < 2 ^ 31 by omega), ← ei]
          exact w_iret C hw hr hlocks dX3_guest_46 (by rw [eo]; exact ⟨rfl, rfl, h, gp, hCX1, CR_lend hC1 hS hi h0 hm1 hn01 hn64, by show 0 + k1 + 0 + 0 + gp + 8 * unm X1 ≤ gp + 8 * unm X; omega, by show 0 + n1 + 0 + 0 ≤ 32832 * (0 + k1 + 0 + 0); omega, hKX, fun c j q => by rw [← h30 c j q]; unfold lbZ zRenew zRen2 zRen1 zReset zRen0; rw [upr_k (by omega), upr_k (by omega), upr_k (by omega), upr_k (by omega), upr_k (by omega), upr_k (by omega), upr_k (by omega), upr_k (by omega), upr_k (by omega)]⟩)
        · exact absurd h20 (nI_ne_m1 (by omega))
    · refine lv_iconst (v := -1) hx hb dX3_guest_11 (by decide) ?_
      have eo : gstS S u = (S, -1) := by unfold gstS; rw [if_pos (Or.inr (Int32.not_le.mp h8))]
      exact w_iret C hw hr hlocks dX3_guest_12 (by rw [eo]; exact CPo_z hCX hCR (fun _ _ _ => rfl) rfl)

set_option maxHeartbeats 4000000 in
set_option maxRecDepth 100000 in
theorem c_X3_copy (l : Launch) (sz0 : Nat) (D : va_G) (cs : Nat → ClassId) (X : Sh) (Z : ZT) (Y : va_W) (S : HS) (hS : HOK S) (hCX : CRx X) (h gp : Nat) (hCR : CR X Z S h gp) (kc ks : Nat) (hkc : 8 * unm X ≤ kc) (hks : 32832 * (8 * unm X) ≤ ks) (a : Int32) : Ctr l yX3_copy (wsM yX3_copy cX3_copy 5 (some .int)) ({ frames := 3, cells := kc, slots := ks, locals := 63 } : Room) sz0 D cs [.ref (X.1 0 0), .int a] X Z [] (CPo X Z [] gp (cpS S a).1 (cpS S a).2) := by
  refine Ctr.ofW (by decide +kernel) (by intro v hv; simp at hv; rcases hv with rfl | rfl <;> rfl) (Nat.le_of_ble_eq_true rfl) ?_
  intro p e s m below meth c ls C hr hlocks hname hl hN hw
  obtain ⟨hx, hb, hml, hown, hts⟩ := id C
  have hX := hCX.1
  have hU := hCX.2.1.1
  refine lv_aload_n hx hb dX3_copy_0 rfl (hl.at rfl) ?_
  refine lv_iload_n hx hb dX3_copy_1 rfl (hl.at rfl) ?_
  refine w_callV C hN hw (c_X3_find l sz0 D cs X _ [] S hS hCX h gp hCR a) ⟨(Nat.le_of_ble_eq_true rfl), (Nat.le_of_ble_eq_true rfl), mw105, mw3, cy_X3_find⟩ mw102 mw103 mw104 (w_rec hw (c0 := 0) (i0 := 0) (hX 0 (by decide)) rfl rfl) rfl hl.1.1 rfl (Nat.le_of_ble_eq_true rfl) dX3_copy_2 ⟨Nat.zero_le _, Nat.zero_le _⟩ (fun X' Z' Y' v k n H locs hp hw => ?_)
  obtain ⟨rfl, rfl, rfl, rfl, rfl, hp⟩ := hp
  rcases hp with ⟨i, hi, rfl, h0, rfl⟩ | ⟨hn, rfl⟩
  · have hL := hCR.gl hS hi h0
    obtain ⟨hmd, hh1, hF6, hR⟩ := (hCR.2.2 i hi).2 h0
    have hG := hCX.2.2 i hi hmd
    have hy := fnd_y hi h0
    have ecl : (nI i).toNatClampNeg = i := nI_clamp (by omega)
    have hF : S.1 i ≤ 64 := (hS.1 i hi).1
    refine w_astore_n hx hb dX3_copy_5 rfl hl (Nat.le_of_ble_eq_true rfl) (fun ls hl => ?_)
    refine lv_aload_n hx hb dX3_copy_6 rfl (hl.at rfl) ?_
    refine lv_ifnonnull (tgt := 13) hx hb dX3_copy_7 (by decide) ?_
    refine lv_aload_n hx hb dX3_copy_13 rfl (hl.at rfl) ?_
    refine w_callV C hN hw (c_X3_leastFree l sz0 D cs X _ [] S hS hCX h gp hCR) ⟨(Nat.le_of_ble_eq_true rfl), (Nat.le_of_ble_eq_true rfl), mw101, mw3, cy_X3_leastFree⟩ mw98 mw99 mw100 (w_rec hw (c0 := 0) (i0 := 0) (hX 0 (by decide)) rfl rfl) rfl hl.1.1 rfl (Nat.le_of_ble_eq_true rfl) dX3_copy_14 ⟨Nat.zero_le _, Nat.zero_le _⟩ (fun X' Z' Y' v k n H locs hp hw => ?_)
    obtain ⟨rfl, rfl, rfl, rfl, rfl, rfl⟩ := hp
    by_cases c8 : leastF S.1 = 8
    · rw [if_pos c8]
      refine w_istore_n hx hb dX3_copy_17 rfl hl (Nat.le_of_ble_eq_true rfl) (fun ls hl => ?_)
      refine lv_iload_n hx hb dX3_copy_18 rfl (hl.at rfl) ?_
      refine lv_iconst (v := -1) hx hb dX3_copy_19 (by decide) ?_
      refine lv_icmp_ne (tgt := 26) hx hb dX3_copy_20 (by decide) (fun h20 => ?_) (fun h20 => ?_)
      · exact absurd rfl h20
      · refine lv_bipush (v := -12) hx hb dX3_copy_23 (by decide) ?_
        have eo : cpS S (nI i) = (S, -12) := by unfold cpS; rw [if_neg (by rw [hy]; decide), ecl, if_pos c8]
        exact w_iret C hw hr hlocks dX3_copy_25 (by rw [eo]; exact CPo_z hCX hCR (fun _ _ _ => rfl) rfl)
    · have hj : leastF S.1 < 8 := Nat.lt_of_le_of_ne leastF_le c8
      have hj0 := leastF_0 hj
      rw [if_neg c8]
      obtain ⟨j, ej⟩ : ∃ j, j = leastF S.1 := ⟨_, rfl⟩
      rw [← ej] at hj hj0 ⊢
      refine w_istore_n hx hb dX3_copy_17 rfl hl (Nat.le_of_ble_eq_true rfl) (fun ls hl => ?_)
      refine lv_iload_n hx hb dX3_copy_18 rfl (hl.at rfl) ?_
      refine lv_iconst (v := -1) hx hb dX3_copy_19 (by decide) ?_
      refine lv_icmp_ne (tgt := 26) hx hb dX3_copy_20 (by decide) (fun h20 => ?_) (fun h20 => ?_)
      · have hij : i ≠ j := fun q => h0 (by rw [q]; exact hj0)
        refine lv_aload_n hx hb dX3_copy_26 rfl (hl.at rfl) ?_
        refine lv_iload_n hx hb dX3_copy_27 rfl (hl.at rfl) ?_
        refine w_callV C hN hw (c_X3_room l sz0 D cs X _ [] S hS hCX h gp hCR j hj hj0 kc ks hkc hks) ⟨(Nat.le_of_ble_eq_true rfl), (Nat.le_of_ble_eq_true rfl), mw109, mw3, cy_X3_room⟩ mw106 mw107 mw108 (w_rec hw (c0 := 0) (i0 := 0) (hX 0 (by decide)) rfl rfl) rfl hl.1.1 rfl (Nat.le_of_ble_eq_true rfl) dX3_copy_28 ⟨by show 0 + kc ≤ kc; omega, by show 0 + ks ≤ ks; omega⟩ (fun X1 Z1 Y1 v1 k1 n1 H locs hp hw => ?_)
        obtain ⟨rfl, rfl, hCX1, hC1, hm1, hk1, hn1, hKX, h30, hkeep⟩ := hp
        have hX := hCX1.1
        have hG2 := hCX1.2.2 j hj hm1
        obtain ⟨hmd1, hh11, hF61, hR1⟩ := (hC1.2.2 i hi).2 h0
        have hG := hCX1.2.2 i hi hmd1
        rw [← hKX.1 0 0 (Or.inl (by decide)), ← hkeep i hmd] at hl
        refine w_astore hx hb dX3_copy_31 hl (Nat.le_of_ble_eq_true rfl) (fun ls hl => ?_)
        refine lv_aload hx hb dX3_copy_33 (hl.at rfl) ?_
        refine lv_aload_n hx hb dX3_copy_35 rfl (hl.at rfl) ?_
        refine w_callV C hN hw (c_X0_become l sz0 D cs X1 _ [] j i hij hG2 hG) ⟨(Nat.le_of_ble_eq_true rfl), (Nat.le_of_ble_eq_true rfl), mw299, mw111, cy_X0_become⟩ mw296 mw297 mw298 (w_rec hw (c0 := 20) (i0 := j) (hG2 20 (by decide) (by decide)) rfl rfl) rfl hl.1.1 rfl (Nat.le_of_ble_eq_true rfl) dX3_copy_36 ⟨by show 0 + k1 + 0 ≤ kc; omega, by show 0 + n1 + 0 ≤ ks; omega⟩ (fun X2 Z2 Y2 v2 k2 n2 H locs hp hw => ?_)
        obtain ⟨rfl, rfl, rfl, rfl, rfl, b1, b20, b22, b23, b24, b25, b26, b27⟩ := hp
        have hsv : ∀ k, k < S.1 i → ∃ s, s < 513 ∧ Z2 21 i k = nI s := fun k hk => by
          obtain ⟨o, hd, g3, g4, fc, hA, hB, hg⟩ := hC1.1
          rw [b1 21 i (by omega)]
          exact hB.2.1 i k hi (by rw [hC1.gf hS hi]; exact hk)
        refine lv_aload_n hx hb dX3_copy_39 rfl (hl.at rfl) ?_
        refine w_get C hw (c0 := 0) (i0 := 0) rfl inA3 0 (by decide) mw16 rfl dX3_copy_40 (hX 0 (by decide)) rfl rfl rfl ?_
        refine lv_aload_n hx hb dX3_copy_43 rfl (hl.at rfl) ?_
        refine lv_aload hx hb dX3_copy_44 (hl.at rfl) ?_
        refine w_callV C hN hw (c_X1_shareSheets l sz0 D cs X1 _ [] hX i j hij hG hG2 (S.1 i) (by rw [b1 20 i (by omega)]; exact hF61) hF hsv) ⟨(Nat.le_of_ble_eq_true rfl), (Nat.le_of_ble_eq_true rfl), mw304, mw15, cy_X1_shareSheets⟩ mw301 mw302 mw303 (w_rec hw (c0 := 2) (i0 := 0) (hX 2 (by decide)) rfl rfl) rfl hl.1.1 rfl (Nat.le_of_ble_eq_true rfl) dX3_copy_46 ⟨by show 0 + k1 + 0 + 0 ≤ kc; omega, by show 0 + n1 + 0 + 0 ≤ ks; omega⟩ (fun X' Z' Y' v k n H locs hp hw => ?_)
        obtain ⟨rfl, rfl, rfl, rfl, rfl, r, hr1, rfl⟩ := hp
        refine lv_iload_n hx hb dX3_copy_49 rfl (hl.at rfl) ?_
        have eo : cpS S (nI i) = ((upn S.1 j (S.1 i), upm S.2.1 j (S.2.1 i), S.2.2), nI j) := by unfold cpS; rw [if_neg (by rw [hy]; decide), ecl, if_neg c8, ← ej]
        exact w_iret C hw hr hlocks dX3_copy_50 (by rw [eo]; exact ⟨rfl, rfl, h, gp, hCX1, CR_twin hC1 hS hi hj h0 hj0 hm1 rfl b1 b20 b22 b23 b24 b25 b26 b27 hr1, by show 0 + k1 + 0 + 0 + gp + 8 * unm X1 ≤ gp + 8 * unm X; omega, by show 0 + n1 + 0 + 0 ≤ 32832 * (0 + k1 + 0 + 0); omega, hKX, fun c b q => by rw [ssZ_o (by omega) (by omega), b1 c b (by omega)]; exact h30 c b q⟩)
      · exact absurd h20 (nI_ne_m1 (by omega))
  · refine w_astore_nN hx hb dX3_copy_5 rfl hl (Nat.le_of_ble_eq_true rfl) (fun ls hl => ?_)
    refine lv_aload_nN hx hb dX3_copy_6 rfl (hl.at rfl) ?_
    refine lv_ifnonnullN hx hb dX3_copy_7 ?_
    refine lv_bipush (v := -14) hx hb dX3_copy_10 (by decide) ?_
    have eo : cpS S a = (S, -14) := by unfold cpS; rw [if_pos hn]
    exact w_iret C hw hr hlocks dX3_copy_12 (by rw [eo]; exact CPo_z hCX hCR (fun _ _ _ => rfl) rfl)
