/-- what an instruction leaves: the machine, or the trap's notes -/
def NTs (F : Nat) (Z : ZT) (i : Nat) (r : LR) (Z' : ZT) : Prop :=
  BRr Z' i F r.1 ∧ SB Z i Z' ∧ ((¬ r.2.1 = 0 ∧ Z' 40 i 17 = r.2.1 ∧ Z' 40 i 18 = r.2.2.1) ∨ (r.2.1 = 0 ∧ Z' 40 i 17 = 0))
def mvS (F : Nat) (g : GS) (o : Int32) (d : Nat) (ad b : Int32) : LR :=
  let r := locS F g ad (if o = 11 then 12 else 13)
  if ¬ r.2.1 = 0 then r
  else
    let g1 := if o = 11 then r.1 else gu r.1 1 r.2.2.2.toNatClampNeg b
    (if o = 12 then g1 else gu g1 3 d (r.1 1 r.2.2.2.toNatClampNeg), 0, 0, 0)
theorem mv_use {F : Nat} {g : GS} {w : Int32} : mvS F g (opc w) (fD w) (g 3 (fA w) + numS w) (g 3 (fB w)) = useS F g w := by
  unfold mvS useS
  dsimp only
  generalize locS F g (g 3 (fA w) + numS w) (if opc w = 11 then 12 else 13) = r
  by_cases c : ¬ r.2.1 = 0
  · rw [if_pos c, if_pos c]
  · rw [if_neg c, if_neg c]
    by_cases c11 : opc w = 11
    · simp only [if_pos c11]
    · simp only [if_neg c11]
      by_cases c12 : opc w = 12
      · simp only [if_pos c12]
      · simp only [if_neg c12]
        rw [gu_cm (by decide)]
theorem kind_ok {o : Int32} : (if o = 11 then (12 : Int32) else 13) = 11 ∨ (if o = 11 then (12 : Int32) else 13) = 12 ∨ (if o = 11 then (12 : Int32) else 13) = 13 := by
  split <;> simp

theorem locF_pos {g : GS} {p tab : Nat} {a kd e : Int32} (hk : kd = 11 ∨ kd = 12 ∨ kd = 13) (hc : ¬ (locF g p tab a kd e).2.1 = 0) : ¬ (locF g p tab a kd e).2.1 ≤ 0 := by
  unfold locF at hc ⊢
  split
  · show ¬ kd ≤ 0
    rcases hk with q | q | q <;> rw [q] <;> decide
  · rename_i c
    rw [if_neg c] at hc
    split
    · rename_i d; rw [if_pos d] at hc; exact absurd rfl hc
    · rename_i d; rw [if_neg d] at hc; exact absurd rfl hc
theorem locS_pos {F : Nat} {g : GS} {a kd : Int32} (hk : kd = 11 ∨ kd = 12 ∨ kd = 13) (hc : ¬ (locS F g a kd).2.1 = 0) : ¬ (locS F g a kd).2.1 ≤ 0 := by
  have k0 : ¬ kd ≤ 0 := by rcases hk with q | q | q <;> rw [q] <;> decide
  revert hc
  unfold locS
  split
  · split
    · intro _; show ¬ (5 : Int32) ≤ 0; decide
    · intro hc; exact absurd rfl hc
  · split
    · intro _; exact k0
    · split
      · split
        · intro _; show ¬ (5 : Int32) ≤ 0; decide
        · split
          · intro _; exact k0
          · exact locF_pos hk
      · exact locF_pos hk

set_option maxHeartbeats 4000000 in
set_option maxRecDepth 100000 in
theorem c_X4_moved (l : Launch) (sz0 : Nat) (D : va_G) (cs : Nat → ClassId) (X : Sh) (Z : ZT) (Y : va_W) (i : Nat) (hB : BI X i) (F : Nat) (g : GS) (hF : F ≤ 64) (hR : BRr Z i F g) (hC : CInv F g) (h17 : Z 40 i 17 = 0) (o : Int32) (d : Nat) (hd8 : d < 8) (ad b : Int32) : Ctr l yX4_moved (wsM yX4_moved cX4_moved 7 none) ({ frames := 4, cells := 0, slots := 0, locals := 91 } : Room) sz0 D cs [.ref (X.1 40 i), .int o, .int (nI d), .int ad, .int b] X Z Y (Pz X Y (fun Z' v => v = none ∧ NTs F Z i (mvS F g o d ad b) Z')) := by
  refine Ctr.ofW (by decide +kernel) (by intro v hv; simp at hv; rcases hv with rfl | rfl | rfl | rfl | rfl <;> rfl) (Nat.le_of_ble_eq_true rfl) ?_
  intro p e s m below meth c ls C hr hlocks hname hl hN hw
  obtain ⟨hx, hb, hml, hown, hts⟩ := id C
  obtain ⟨m1, m2, m3⟩ := locS_ok (F := F) (g := g) (a := ad) (kind := if o = 11 then 12 else 13) hF hC (by split <;> decide)
  have hpos : ∀ (kd : Int32), (kd = 11 ∨ kd = 12 ∨ kd = 13) → ¬ (locS F g ad kd).2.1 = 0 → ¬ (locS F g ad kd).2.1 ≤ 0 := fun kd hk hc => locS_pos hk hc
  unfold mvS
  dsimp only
  refine lv_aload_n hx hb dX4_moved_0 rfl (hl.at rfl) ?_
  refine lv_iload_n hx hb dX4_moved_1 rfl (hl.at rfl) ?_
  refine lv_iload_n hx hb dX4_moved_2 rfl (hl.at rfl) ?_
  refine lv_bipush (v := 11) hx hb dX4_moved_3 (by decide) ?_
  refine lv_icmp_ne (tgt := 13) hx hb dX4_moved_5 (by decide) (fun h5 => ?_) (fun h5 => ?_)
  · rw [if_neg h5] at m1 m2 m3 ⊢
    refine lv_bipush (v := 13) hx hb dX4_moved_13 (by decide) ?_
    refine w_callV C hN hw (c_X4_reach l sz0 D cs X _ Y i hB F g hF hR hC h17 ad 13 (by decide)) ⟨(Nat.le_of_ble_eq_true rfl), (Nat.le_of_ble_eq_true rfl), mw474, mw71, cy_X4_reach⟩ mw471 mw472 mw473 (w_rec hw (c0 := 40) (i0 := i) (hB 40 (by decide) (by decide)) rfl rfl) rfl hl.1.1 rfl (Nat.le_of_ble_eq_true rfl) dX4_moved_15 ⟨Nat.le_of_ble_eq_true rfl, Nat.le_of_ble_eq_true rfl⟩ (fun X' Z' Y' v k n H locs hp hw => ?_)
    obtain ⟨rfl, rfl, rfl, rfl, hp⟩ := hp
    have hpos : ¬ (locS F g ad 13).2.1 = 0 → ¬ (locS F g ad 13).2.1 ≤ 0 := hpos 13 (by decide)
    generalize locS F g ad 13 = r at hp m1 m2 m3 hpos ⊢
    obtain ⟨hR1, hS1, hp⟩ := hp
    rcases hp with ⟨hc, e17, e18, rfl⟩ | ⟨hc, e17, rfl⟩
    · refine w_istore hx hb dX4_moved_18 hl (Nat.le_of_ble_eq_true rfl) (fun ls hl => ?_)
      refine lv_aload_n hx hb dX4_moved_20 rfl (hl.at rfl) ?_
      refine w_get C hw (c0 := 40) (i0 := i) rfl inA4 17 (by decide) mw457 rfl dX4_moved_21 (hB 40 (by decide) (by decide)) rfl rfl rfl ?_
      rw [e17]
      refine lv_if_le (tgt := 28) hx hb dX4_moved_24 (by decide) (fun h24 => ?_) (fun h24 => ?_)
      · exact absurd h24 (hpos hc)
      · exact w_vret C hw hr hlocks dX4_moved_27 ⟨rfl, rfl, rfl, rfl, rfl, by rw [if_pos hc]; exact ⟨hR1, hS1, Or.inl ⟨hc, e17, e18⟩⟩⟩
    · refine w_istore hx hb dX4_moved_18 hl (Nat.le_of_ble_eq_true rfl) (fun ls hl => ?_)
      refine lv_aload_n hx hb dX4_moved_20 rfl (hl.at rfl) ?_
      refine w_get C hw (c0 := 40) (i0 := i) rfl inA4 17 (by decide) mw457 rfl dX4_moved_21 (hB 40 (by decide) (by decide)) rfl rfl rfl ?_
      rw [e17]
      refine lv_if_le (tgt := 28) hx hb dX4_moved_24 (by decide) (fun h24 => ?_) (fun h24 => ?_)
      · obtain ⟨n, hn, en⟩ := m3 hc
        have ecl : r.2.2.2.toNatClampNeg = n := by rw [en, nI_clamp (by omega)]
        rw [if_neg (fun q => q hc), ecl]
        rw [en] at hl
        refine lv_aload_n hx hb dX4_moved_28 rfl (hl.at rfl) ?_
        refine w_get C hw (c0 := 40) (i0 := i) rfl inA4 2 (by decide) mw75 rfl dX4_moved_29 (hB 40 (by decide) (by decide)) rfl rfl rfl ?_
        refine lv_iload hx hb dX4_moved_32 (hl.at rfl) ?_
        refine w_ild C hw (c0 := 41) (i0 := i) dX4_moved_34 (hB 41 (by decide) (by decide)) rfl rfl (vp_in_nI (show n < 4096 by omega) (by decide)) (nI_clamp (by omega)) ?_
        rw [hR1.m hn]
        refine w_istore hx hb dX4_moved_35 hl (Nat.le_of_ble_eq_true rfl) (fun ls hl => ?_)
        refine lv_iload_n hx hb dX4_moved_37 rfl (hl.at rfl) ?_
        refine lv_bipush (v := 11) hx hb dX4_moved_38 (by decide) ?_
        refine lv_icmp_eq (tgt := 52) hx hb dX4_moved_40 (by decide) (fun h40 => ?_) (fun h40 => ?_)
        · exact absurd h40 h5
        · refine lv_aload_n hx hb dX4_moved_43 rfl (hl.at rfl) ?_
          refine w_get C hw (c0 := 40) (i0 := i) rfl inA4 2 (by decide) mw75 rfl dX4_moved_44 (hB 40 (by decide) (by decide)) rfl rfl rfl ?_
          refine lv_iload hx hb dX4_moved_47 (hl.at rfl) ?_
          refine lv_iload hx hb dX4_moved_49 (hl.at rfl) ?_
          refine w_ist C hw (c0 := 41) (i0 := i) dX4_moved_51 (hB 41 (by decide) (by decide)) rfl (fun _ => rfl) (vp_in_nI (show n < 4096 by omega) (by decide)) (nI_clamp (by omega)) (fun H locs hw => ?_)
          refine lv_iload_n hx hb dX4_moved_52 rfl (hl.at rfl) ?_
          refine lv_bipush (v := 12) hx hb dX4_moved_53 (by decide) ?_
          refine lv_icmp_eq (tgt := 66) hx hb dX4_moved_55 (by decide) (fun h55 => ?_) (fun h55 => ?_)
          · exact w_vret C hw hr hlocks dX4_moved_66 ⟨rfl, rfl, rfl, rfl, rfl, by rw [if_neg h5, if_pos h55]; exact ⟨BR_41 hR1, hS1.up (by decide) (by decide), Or.inr ⟨rfl, by rw [upr_k (by decide)]; exact e17⟩⟩⟩
          · refine lv_aload_n hx hb dX4_moved_58 rfl (hl.at rfl) ?_
            refine w_get C hw (c0 := 40) (i0 := i) rfl inA4 4 (by decide) mw77 rfl dX4_moved_59 (hB 40 (by decide) (by decide)) rfl rfl rfl ?_
            refine lv_iload_n hx hb dX4_moved_62 rfl (hl.at rfl) ?_
            refine lv_iload hx hb dX4_moved_63 (hl.at rfl) ?_
            refine w_ist C hw (c0 := 43) (i0 := i) dX4_moved_65 (hB 43 (by decide) (by decide)) rfl (fun _ => rfl) (vp_in_nI hd8 (by decide)) (nI_clamp (by omega)) (fun H locs hw => ?_)
            exact w_vret C hw hr hlocks dX4_moved_66 ⟨rfl, rfl, rfl, rfl, rfl, by rw [if_neg h5, if_neg h55]; exact ⟨BR_43 (BR_41 hR1), (hS1.up (by decide) (by decide)).up (by decide) (by decide), Or.inr ⟨rfl, by rw [upr_k (by decide), upr_k (by decide)]; exact e17⟩⟩⟩
      · exact absurd (by decide : (0 : Int32) ≤ 0) h24
  · rw [if_pos h5] at m1 m2 m3 ⊢
    refine lv_bipush (v := 12) hx hb dX4_moved_8 (by decide) ?_
    refine lv_goto (tgt := 15) hx hb dX4_moved_10 (by decide) ?_
    refine w_callV C hN hw (c_X4_reach l sz0 D cs X _ Y i hB F g hF hR hC h17 ad 12 (by decide)) ⟨(Nat.le_of_ble_eq_true rfl), (Nat.le_of_ble_eq_true rfl), mw474, mw71, cy_X4_reach⟩ mw471 mw472 mw473 (w_rec hw (c0 := 40) (i0 := i) (hB 40 (by decide) (by decide)) rfl rfl) rfl hl.1.1 rfl (Nat.le_of_ble_eq_true rfl) dX4_moved_15 ⟨Nat.le_of_ble_eq_true rfl, Nat.le_of_ble_eq_true rfl⟩ (fun X' Z' Y' v k n H locs hp hw => ?_)
    obtain ⟨rfl, rfl, rfl, rfl, hp⟩ := hp
    have hpos : ¬ (locS F g ad 12).2.1 = 0 → ¬ (locS F g ad 12).2.1 ≤ 0 := hpos 12 (by decide)
    generalize locS F g ad 12 = r at hp m1 m2 m3 hpos ⊢
    obtain ⟨hR1, hS1, hp⟩ := hp
    rcases hp with ⟨hc, e17, e18, rfl⟩ | ⟨hc, e17, rfl⟩
    · refine w_istore hx hb dX4_moved_18 hl (Nat.le_of_ble_eq_true rfl) (fun ls hl => ?_)
      refine lv_aload_n hx hb dX4_moved_20 rfl (hl.at rfl) ?_
      refine w_get C hw (c0 := 40) (i0 := i) rfl inA4 17 (by decide) mw457 rfl dX4_moved_21 (hB 40 (by decide) (by decide)) rfl rfl rfl ?_
      rw [e17]
      refine lv_if_le (tgt := 28) hx hb dX4_moved_24 (by decide) (fun h24 => ?_) (fun h24 => ?_)
      · exact absurd h24 (hpos hc)
      · exact w_vret C hw hr hlocks dX4_moved_27 ⟨rfl, rfl, rfl, rfl, rfl, by rw [if_pos hc]; exact ⟨hR1, hS1, Or.inl ⟨hc, e17, e18⟩⟩⟩
    · refine w_istore hx hb dX4_moved_18 hl (Nat.le_of_ble_eq_true rfl) (fun ls hl => ?_)
      refine lv_aload_n hx hb dX4_moved_20 rfl (hl.at rfl) ?_
      refine w_get C hw (c0 := 40) (i0 := i) rfl inA4 17 (by decide) mw457 rfl dX4_moved_21 (hB 40 (by decide) (by decide)) rfl rfl rfl ?_
      rw [e17]
      refine lv_if_le (tgt := 28) hx hb dX4_moved_24 (by decide) (fun h24 => ?_) (fun h24 => ?_)
      · obtain ⟨n, hn, en⟩ := m3 hc
        have ecl : r.2.2.2.toNatClampNeg = n := by rw [en, nI_clamp (by omega)]
        rw [if_neg (fun q => q hc), ecl]
        rw [en] at hl
        refine lv_aload_n hx hb dX4_moved_28 rfl (hl.at rfl) ?_
        refine w_get C hw (c0 := 40) (i0 := i) rfl inA4 2 (by decide) mw75 rfl dX4_moved_29 (hB 40 (by decide) (by decide)) rfl rfl rfl ?_
        refine lv_iload hx hb dX4_moved_32 (hl.at rfl) ?_
        refine w_ild C hw (c0 := 41) (i0 := i) dX4_moved_34 (hB 41 (by decide) (by decide)) rfl rfl (vp_in_nI (show n < 4096 by omega) (by decide)) (nI_clamp (by omega)) ?_
        rw [hR1.m hn]
        refine w_istore hx hb dX4_moved_35 hl (Nat.le_of_ble_eq_true rfl) (fun ls hl => ?_)
        refine lv_iload_n hx hb dX4_moved_37 rfl (hl.at rfl) ?_
        refine lv_bipush (v := 11) hx hb dX4_moved_38 (by decide) ?_
        refine lv_icmp_eq (tgt := 52) hx hb dX4_moved_40 (by decide) (fun h40 => ?_) (fun h40 => ?_)
        · refine lv_iload_n hx hb dX4_moved_52 rfl (hl.at rfl) ?_
          refine lv_bipush (v := 12) hx hb dX4_moved_53 (by decide) ?_
          refine lv_icmp_eq (tgt := 66) hx hb dX4_moved_55 (by decide) (fun h55 => ?_) (fun h55 => ?_)
          · exact absurd (h5.symm.trans h55) (by decide)
          · refine lv_aload_n hx hb dX4_moved_58 rfl (hl.at rfl) ?_
            refine w_get C hw (c0 := 40) (i0 := i) rfl inA4 4 (by decide) mw77 rfl dX4_moved_59 (hB 40 (by decide) (by decide)) rfl rfl rfl ?_
            refine lv_iload_n hx hb dX4_moved_62 rfl (hl.at rfl) ?_
            refine lv_iload hx hb dX4_moved_63 (hl.at rfl) ?_
            refine w_ist C hw (c0 := 43) (i0 := i) dX4_moved_65 (hB 43 (by decide) (by decide)) rfl (fun _ => rfl) (vp_in_nI hd8 (by decide)) (nI_clamp (by omega)) (fun H locs hw => ?_)
            exact w_vret C hw hr hlocks dX4_moved_66 ⟨rfl, rfl, rfl, rfl, rfl, by rw [if_pos h5, if_neg h55]; exact ⟨BR_43 hR1, hS1.up (by decide) (by decide), Or.inr ⟨rfl, by rw [upr_k (by decide)]; exact e17⟩⟩⟩
        · exact absurd h5 h40
      · exact absurd (by decide : (0 : Int32) ≤ 0) h24

theorem BR_fg {Z : ZT} {i F : Nat} {g : GS} (H : BRr Z i F g) : BRr (upr Z 45 i (fillR 256 (-1) (Z 45 i))) i F (fillC g) :=
  BR_45 H (fun k hk => Or.inl ⟨by unfold fillR; rw [if_pos hk]; decide, by unfold fillR; rw [if_pos hk]⟩)
theorem BR_f1 {Z : ZT} {i F d : Nat} {g : GS} (H : BRr Z i F g) : BRr (upr Z 45 i (upd (Z 45 i) d (-1))) i F (gu g 5 d (-1)) :=
  BR_45 H (fun k hk => by
    by_cases q : k = d
    · subst q; rw [upd_s, upd_s]; exact Or.inl ⟨by decide, rfl⟩
    · rw [upd_n q, upd_n q]; exact H.2.2.2.2.2.1 k hk)

set_option maxHeartbeats 4000000 in
set_option maxRecDepth 100000 in
theorem c_X4_own (l : Launch) (sz0 : Nat) (D : va_G) (cs : Nat → ClassId) (X : Sh) (Z : ZT) (Y : va_W) (i : Nat) (hB : BI X i) (F : Nat) (g : GS) (hF : F ≤ 64) (hR : BRr Z i F g) (hV : GInv F g) (o : Int32) (d : Nat) (hd8 : d < 8) (a n : Int32) (h21 : o = 21 → ¬ n < 0 ∧ n ≤ 9) (h22 : o = 22 → ¬ n < 0 ∧ n ≤ 8) : Ctr l yX4_own (wsM yX4_own cX4_own 5 none) ({ frames := 2, cells := 0, slots := 0, locals := 46 } : Room) sz0 D cs [.ref (X.1 40 i), .int o, .int (nI d), .int a, .int n] X Z Y (Pz X Y (fun Z' v => v = none ∧ BRr Z' i F (ownS F g o d a n) ∧ SB Z i Z' ∧ Z' 40 i 17 = Z 40 i 17)) := by
  refine Ctr.ofW (by decide +kernel) (by intro v hv; simp at hv; rcases hv with rfl | rfl | rfl | rfl | rfl <;> rfl) (Nat.le_of_ble_eq_true rfl) ?_
  intro p e s m below meth c ls C hr hlocks hname hl hN hw
  obtain ⟨hx, hb, hml, hown, hts⟩ := id C
  have e0 : Z 40 i 0 = nI F := hR.1.1
  have e40 : Z 44 i 0 = g 4 0 := hR.k (by decide)
  have e46 : Z 44 i 6 = g 4 6 := hR.k (by decide)
  have e48 : Z 44 i 8 = g 4 8 := hR.k (by decide)
  have e14 : Z 40 i 14 = g 0 14 := hR.1.2.2.2.2.2.2.1
  have e15 : Z 40 i 15 = g 0 16 := hR.1.2.2.2.2.2.2.2
  have e13 : Z 40 i 13 = g 0 4 := hR.1.2.2.2.2.1
  refine lv_iload_n hx hb dX4_own_0 rfl (hl.at rfl) ?_
  refine lv_topi (fun x1 e1 => ?_)
  by_cases q1_21 : x1 = 21
  · subst q1_21
    refine lv_tableIn (off := 47) (tgt := 48) hx hb dX4_own_1 (by decide) (by decide) (by decide) (by decide) ?_
    obtain ⟨n0, n9⟩ := h21 e1.symm
    refine lv_aload_n hx hb dX4_own_48 rfl (hl.at rfl) ?_
    refine w_get C hw (c0 := 40) (i0 := i) rfl inA4 4 (by decide) mw77 rfl dX4_own_49 (hB 40 (by decide) (by decide)) rfl rfl rfl ?_
    refine lv_iload_n hx hb dX4_own_52 rfl (hl.at rfl) ?_
    refine lv_iload hx hb dX4_own_53 (hl.at rfl) ?_
    refine lv_bipush (v := 9) hx hb dX4_own_55 (by decide) ?_
    refine lv_icmp_ne (tgt := 67) hx hb dX4_own_57 (by decide) (fun h57 => ?_) (fun h57 => ?_)
    · have hv : vp_in n 9 := vpr (N := 9) (by decide) n0 (fun q => h57 (Int32.le_antisymm n9 q))
      have hk : n.toNatClampNeg < 9 := Nat.not_le.mp (fun q => hv (Or.inr q))
      refine lv_aload_n hx hb dX4_own_67 rfl (hl.at rfl) ?_
      refine w_get C hw (c0 := 40) (i0 := i) rfl inA4 5 (by decide) mw78 rfl dX4_own_68 (hB 40 (by decide) (by decide)) rfl rfl rfl ?_
      refine lv_iload hx hb dX4_own_71 (hl.at rfl) ?_
      refine w_ild C hw (c0 := 44) (i0 := i) dX4_own_73 (hB 44 (by decide) (by decide)) rfl rfl hv rfl ?_
      rw [hR.k hk]
      refine w_ist C hw (c0 := 43) (i0 := i) dX4_own_74 (hB 43 (by decide) (by decide)) rfl (fun _ => rfl) (vp_in_nI hd8 (by decide)) (nI_clamp (by omega)) (fun H locs hw => ?_)
      refine lv_goto (tgt := 286) hx hb dX4_own_75 (by decide) ?_
      have eO : ownS F g o d a n = gu g 3 d (g 4 n.toNatClampNeg) := by subst e1; unfold ownS; rw [if_pos rfl, if_neg h57]
      exact w_vret C hw hr hlocks dX4_own_286 ⟨rfl, rfl, rfl, rfl, rfl, by rw [eO]; exact BR_43 hR, SB.refl.up (by decide) (by decide), by rw [upr_k (by decide)]⟩
    · refine lv_aload_n hx hb dX4_own_60 rfl (hl.at rfl) ?_
      refine w_get C hw (c0 := 40) (i0 := i) rfl inA4 0 (by decide) mw161 rfl dX4_own_61 (hB 40 (by decide) (by decide)) rfl rfl rfl ?_
      rw [e0]
      refine lv_goto (tgt := 74) hx hb dX4_own_64 (by decide) ?_
      refine w_ist C hw (c0 := 43) (i0 := i) dX4_own_74 (hB 43 (by decide) (by decide)) rfl (fun _ => rfl) (vp_in_nI hd8 (by decide)) (nI_clamp (by omega)) (fun H locs hw => ?_)
      refine lv_goto (tgt := 286) hx hb dX4_own_75 (by decide) ?_
      have eO : ownS F g o d a n = gu g 3 d (nI F) := by subst e1; unfold ownS; rw [if_pos rfl, if_pos h57]
      exact w_vret C hw hr hlocks dX4_own_286 ⟨rfl, rfl, rfl, rfl, rfl, by rw [eO]; exact BR_43 hR, SB.refl.up (by decide) (by decide), by rw [upr_k (by decide)]⟩
  by_cases q1_22 : x1 = 22
  · subst q1_22
    refine lv_tableIn (off := 77) (tgt := 78) hx hb dX4_own_1 (by decide) (by decide) (by decide) (by decide) ?_
    obtain ⟨n0, n8⟩ := h22 e1.symm
    have hv : vp_in n 9 := vpr (N := 9) (by decide) n0 (fun q => absurd (Int32.le_trans q n8) (by decide))
    refine lv_aload_n hx hb dX4_own_78 rfl (hl.at rfl) ?_
    refine w_get C hw (c0 := 40) (i0 := i) rfl inA4 5 (by decide) mw78 rfl dX4_own_79 (hB 40 (by decide) (by decide)) rfl rfl rfl ?_
    refine lv_iload hx hb dX4_own_82 (hl.at rfl) ?_
    refine lv_iload hx hb dX4_own_84 (hl.at rfl) ?_
    refine lv_if_ne (tgt := 97) hx hb dX4_own_86 (by decide) (fun h86 => ?_) (fun h86 => ?_)
    · refine lv_iload_n hx hb dX4_own_97 rfl (hl.at rfl) ?_
      refine w_ist C hw (c0 := 44) (i0 := i) dX4_own_98 (hB 44 (by decide) (by decide)) rfl (fun _ => rfl) hv rfl (fun H locs hw => ?_)
      refine lv_iload hx hb dX4_own_99 (hl.at rfl) ?_
      refine lv_iconst (v := 5) hx hb dX4_own_101 (by decide) ?_
      refine lv_icmp_ne (tgt := 286) hx hb dX4_own_102 (by decide) (fun h102 => ?_) (fun h102 => ?_)
      · have eO : ownS F g o d a n = gu g 4 n.toNatClampNeg a := by subst e1; unfold ownS; rw [if_neg (show ¬ (22 : Int32) = 21 by decide), if_pos rfl, if_neg h102, if_neg h86]
        exact w_vret C hw hr hlocks dX4_own_286 ⟨rfl, rfl, rfl, rfl, rfl, by rw [eO]; exact BR_44 hR, SB.refl.up (by decide) (by decide), by rw [upr_k (by decide)]⟩
      · refine lv_aload_n hx hb dX4_own_105 rfl (hl.at rfl) ?_
        refine w_callV C hN hw (c_X4_forget l sz0 D cs X _ Y i hB) ⟨(Nat.le_of_ble_eq_true rfl), (Nat.le_of_ble_eq_true rfl), mw177, mw71, cy_X4_forget⟩ mw174 mw175 mw176 (w_rec hw (c0 := 40) (i0 := i) (hB 40 (by decide) (by decide)) rfl rfl) rfl hl.1.1 rfl (Nat.le_of_ble_eq_true rfl) dX4_own_106 ⟨Nat.le_of_ble_eq_true rfl, Nat.le_of_ble_eq_true rfl⟩ (fun X' Z' Y' v k n H locs hp hw => ?_)
        obtain ⟨rfl, rfl, rfl, rfl, rfl, rfl⟩ := hp
        refine lv_goto (tgt := 286) hx hb dX4_own_109 (by decide) ?_
        have eO : ownS F g o d a n = fillC (gu g 4 n.toNatClampNeg a) := by subst e1; unfold ownS; rw [if_neg (show ¬ (22 : Int32) = 21 by decide), if_pos rfl, if_pos h102, if_neg h86]
        exact w_vret C hw hr hlocks dX4_own_286 ⟨rfl, rfl, rfl, rfl, rfl, by rw [eO]; exact BR_fg (BR_44 hR), (SB.refl.up (by decide) (by decide)).up (by decide) (by decide), by rw [upr_k (by decide), upr_k (by decide)]⟩
    · refine lv_iload_n hx hb dX4_own_89 rfl (hl.at rfl) ?_
      refine lv_sipush (v := 1799) hx hb dX4_own_90 (by decide) ?_
      refine lv_iand hx hb dX4_own_93 ?_
      refine lv_goto (tgt := 98) hx hb dX4_own_94 (by decide) ?_
      refine w_ist C hw (c0 := 44) (i0 := i) dX4_own_98 (hB 44 (by decide) (by decide)) rfl (fun _ => rfl) hv rfl (fun H locs hw => ?_)
      refine lv_iload hx hb dX4_own_99 (hl.at rfl) ?_
      refine lv_iconst (v := 5) hx hb dX4_own_101 (by decide) ?_
      refine lv_icmp_ne (tgt := 286) hx hb dX4_own_102 (by decide) (fun h102 => ?_) (fun h102 => ?_)
      · have eO : ownS F g o d a n = gu g 4 n.toNatClampNeg (a &&& 1799) := by subst e1; unfold ownS; rw [if_neg (show ¬ (22 : Int32) = 21 by decide), if_pos rfl, if_neg h102, if_pos h86]
        exact w_vret C hw hr hlocks dX4_own_286 ⟨rfl, rfl, rfl, rfl, rfl, by rw [eO]; exact BR_44 hR, SB.refl.up (by decide) (by decide), by rw [upr_k (by decide)]⟩
      · refine lv_aload_n hx hb dX4_own_105 rfl (hl.at rfl) ?_
        refine w_callV C hN hw (c_X4_forget l sz0 D cs X _ Y i hB) ⟨(Nat.le_of_ble_eq_true rfl), (Nat.le_of_ble_eq_true rfl), mw177, mw71, cy_X4_forget⟩ mw174 mw175 mw176 (w_rec hw (c0 := 40) (i0 := i) (hB 40 (by decide) (by decide)) rfl rfl) rfl hl.1.1 rfl (Nat.le_of_ble_eq_true rfl) dX4_own_106 ⟨Nat.le_of_ble_eq_true rfl, Nat.le_of_ble_eq_true rfl⟩ (fun X' Z' Y' v k n H locs hp hw => ?_)
        obtain ⟨rfl, rfl, rfl, rfl, rfl, rfl⟩ := hp
        refine lv_goto (tgt := 286) hx hb dX4_own_109 (by decide) ?_
        have eO : ownS F g o d a n = fillC (gu g 4 n.toNatClampNeg (a &&& 1799)) := by subst e1; unfold ownS; rw [if_neg (show ¬ (22 : Int32) = 21 by decide), if_pos rfl, if_pos h102, if_pos h86]
        exact w_vret C hw hr hlocks dX4_own_286 ⟨rfl, rfl, rfl, rfl, rfl, by rw [eO]; exact BR_fg (BR_44 hR), (SB.refl.up (by decide) (by decide)).up (by decide) (by decide), by rw [upr_k (by decide), upr_k (by decide)]⟩
  by_cases q1_23 : x1 = 23
  · subst q1_23
    refine lv_tableIn (off := 111) (tgt := 112) hx hb dX4_own_1 (by decide) (by decide) (by decide) (by decide) ?_
    refine lv_aload_n hx hb dX4_own_112 rfl (hl.at rfl) ?_
    refine lv_aload_n hx hb dX4_own_113 rfl (hl.at rfl) ?_
    refine w_get C hw (c0 := 40) (i0 := i) rfl inA4 5 (by decide) mw78 rfl dX4_own_114 (hB 40 (by decide) (by decide)) rfl rfl rfl ?_
    refine lv_iconst (v := 0) hx hb dX4_own_117 (by decide) ?_
    refine w_ild C hw (c0 := 44) (i0 := i) dX4_own_118 (hB 44 (by decide) (by decide)) rfl rfl (vpk (by decide)) (j := 0) (by decide) ?_
    rw [e40]
    refine lv_iconst (v := 2) hx hb dX4_own_119 (by decide) ?_
    refine lv_ishr hx hb dX4_own_120 ?_
    refine lv_iconst (v := 1) hx hb dX4_own_121 (by decide) ?_
    refine lv_iand hx hb dX4_own_122 ?_
    refine w_put C hw (c0 := 40) (i0 := i) rfl inA4 tyX4_ok nmX4 11 (by decide) mw165 rfl rfl rfl dX4_own_123 (hB 40 (by decide) (by decide)) rfl rfl rfl rfl (Nat.le_of_ble_eq_true rfl) rfl (fun H locs hw => ?_)
    refine lv_aload_n hx hb dX4_own_126 rfl (hl.at rfl) ?_
    refine w_get C hw (c0 := 40) (i0 := i) rfl inA4 5 (by decide) mw78 rfl dX4_own_127 (hB 40 (by decide) (by decide)) rfl rfl rfl ?_
    refine lv_iconst (v := 0) hx hb dX4_own_130 (by decide) ?_
    refine lv_aload_n hx hb dX4_own_131 rfl (hl.at rfl) ?_
    refine w_get C hw (c0 := 40) (i0 := i) rfl inA4 5 (by decide) mw78 rfl dX4_own_132 (hB 40 (by decide) (by decide)) rfl rfl rfl ?_
    refine lv_iconst (v := 0) hx hb dX4_own_135 (by decide) ?_
    refine w_ild C hw (c0 := 44) (i0 := i) dX4_own_136 (hB 44 (by decide) (by decide)) rfl rfl (vpk (by decide)) (j := 0) (by decide) ?_
    rw [upr_k (show (44 : Nat) ≠ 40 by decide), e40]
    refine lv_bipush (v := -8) hx hb dX4_own_137 (by decide) ?_
    refine lv_iand hx hb dX4_own_139 ?_
    refine lv_aload_n hx hb dX4_own_140 rfl (hl.at rfl) ?_
    refine w_get C hw (c0 := 40) (i0 := i) rfl inA4 5 (by decide) mw78 rfl dX4_own_141 (hB 40 (by decide) (by decide)) rfl rfl rfl ?_
    refine lv_iconst (v := 0) hx hb dX4_own_144 (by decide) ?_
    refine w_ild C hw (c0 := 44) (i0 := i) dX4_own_145 (hB 44 (by decide) (by decide)) rfl rfl (vpk (by decide)) (j := 0) (by decide) ?_
    rw [upr_k (show (44 : Nat) ≠ 40 by decide), e40]
    refine lv_iconst (v := 1) hx hb dX4_own_146 (by decide) ?_
    refine lv_ishr hx hb dX4_own_147 ?_
    refine lv_iconst (v := 1) hx hb dX4_own_148 (by decide) ?_
    refine lv_iand hx hb dX4_own_149 ?_
    refine lv_ior hx hb dX4_own_150 ?_
    refine lv_iconst (v := 2) hx hb dX4_own_151 (by decide) ?_
    refine lv_ior hx hb dX4_own_152 ?_
    refine w_ist C hw (c0 := 44) (i0 := i) dX4_own_153 (hB 44 (by decide) (by decide)) rfl (fun _ => rfl) (vpk (by decide)) (j := 0) (by decide) (fun H locs hw => ?_)
    refine lv_goto (tgt := 286) hx hb dX4_own_154 (by decide) ?_
    rw [show (g 4 0 >>> ((2 : Int32) &&& 31)) &&& 1 = if g 4 0 &&& 4 = 0 then 0 else 1 from hasSt (k := 2) (by decide) k_2 (by decide), st_leave hV.1] at hw
    have hRx := BR_n (d := 11) (d' := 3) (x := if g 4 0 &&& 4 = 0 then 0 else 1) hR rfl
    have hRy := BR_44 (d := 0) (x := ((g 4 0 &&& 1792) ||| 2) ||| (if g 4 0 &&& 2 = 0 then 0 else 1)) hRx
    rw [gu_cm (by decide)] at hRy
    have eO : ownS F g o d a n = leaveS g := by subst e1; unfold ownS; rw [if_neg (show ¬ (23 : Int32) = 21 by decide), if_neg (show ¬ (23 : Int32) = 22 by decide), if_pos rfl]
    exact w_vret C hw hr hlocks dX4_own_286 ⟨rfl, rfl, rfl, rfl, rfl, by rw [eO]; exact hRy, (SB.refl.u40 (by decide)).up (by decide) (by decide), by rw [upr_k (by decide), upr_s, upd_n (by decide)]⟩
  by_cases q1_24 : x1 = 24
  · subst q1_24
    refine lv_tableIn (off := 156) (tgt := 157) hx hb dX4_own_1 (by decide) (by decide) (by decide) (by decide) ?_
    refine lv_aload_n hx hb dX4_own_157 rfl (hl.at rfl) ?_
    refine w_callV C hN hw (c_X4_forget l sz0 D cs X _ Y i hB) ⟨(Nat.le_of_ble_eq_true rfl), (Nat.le_of_ble_eq_true rfl), mw177, mw71, cy_X4_forget⟩ mw174 mw175 mw176 (w_rec hw (c0 := 40) (i0 := i) (hB 40 (by decide) (by decide)) rfl rfl) rfl hl.1.1 rfl (Nat.le_of_ble_eq_true rfl) dX4_own_158 ⟨Nat.le_of_ble_eq_true rfl, Nat.le_of_ble_eq_true rfl⟩ (fun X' Z' Y' v k n H locs hp hw => ?_)
    obtain ⟨rfl, rfl, rfl, rfl, rfl, rfl⟩ := hp
    refine lv_goto (tgt := 286) hx hb dX4_own_161 (by decide) ?_
    have eO : ownS F g o d a n = fillC g := by subst e1; unfold ownS; rw [if_neg (show ¬ (24 : Int32) = 21 by decide), if_neg (show ¬ (24 : Int32) = 22 by decide), if_neg (show ¬ (24 : Int32) = 23 by decide), if_pos rfl]
    exact w_vret C hw hr hlocks dX4_own_286 ⟨rfl, rfl, rfl, rfl, rfl, by rw [eO]; exact BR_fg hR, SB.refl.up (by decide) (by decide), by rw [upr_k (by decide)]⟩
  by_cases q1_25 : x1 = 25
  · subst q1_25
    refine lv_tableIn (off := 163) (tgt := 164) hx hb dX4_own_1 (by decide) (by decide) (by decide) (by decide) ?_
    refine lv_aload_n hx hb dX4_own_164 rfl (hl.at rfl) ?_
    refine w_get C hw (c0 := 40) (i0 := i) rfl inA4 6 (by decide) mw79 rfl dX4_own_165 (hB 40 (by decide) (by decide)) rfl rfl rfl ?_
    refine lv_iload_n hx hb dX4_own_168 rfl (hl.at rfl) ?_
    refine lv_sipush (v := 255) hx hb dX4_own_169 (by decide) ?_
    refine lv_iand hx hb dX4_own_172 ?_
    refine lv_iconst (v := -1) hx hb dX4_own_173 (by decide) ?_
    refine w_ist C hw (c0 := 45) (i0 := i) dX4_own_174 (hB 45 (by decide) (by decide)) rfl (fun _ => rfl) (vp255 _) rfl (fun H locs hw => ?_)
    refine lv_goto (tgt := 286) hx hb dX4_own_175 (by decide) ?_
    have eO : ownS F g o d a n = gu g 5 (a &&& 255).toNatClampNeg (-1) := by subst e1; unfold ownS; rw [if_neg (show ¬ (25 : Int32) = 21 by decide), if_neg (show ¬ (25 : Int32) = 22 by decide), if_neg (show ¬ (25 : Int32) = 23 by decide), if_neg (show ¬ (25 : Int32) = 24 by decide), if_pos rfl]
    exact w_vret C hw hr hlocks dX4_own_286 ⟨rfl, rfl, rfl, rfl, rfl, by rw [eO]; exact BR_f1 hR, SB.refl.up (by decide) (by decide), by rw [upr_k (by decide)]⟩
  by_cases q1_26 : x1 = 26
  · subst q1_26
    refine lv_tableIn (off := 177) (tgt := 178) hx hb dX4_own_1 (by decide) (by decide) (by decide) (by decide) ?_
    refine lv_aload_n hx hb dX4_own_178 rfl (hl.at rfl) ?_
    refine w_callV C hN hw (c_X4_isTimeUp l sz0 D cs X _ Y i hB) ⟨(Nat.le_of_ble_eq_true rfl), (Nat.le_of_ble_eq_true rfl), mw466, mw71, cy_X4_isTimeUp⟩ mw463 mw464 mw465 (w_rec hw (c0 := 40) (i0 := i) (hB 40 (by decide) (by decide)) rfl rfl) rfl hl.1.1 rfl (Nat.le_of_ble_eq_true rfl) dX4_own_179 ⟨Nat.le_of_ble_eq_true rfl, Nat.le_of_ble_eq_true rfl⟩ (fun X' Z' Y' v k n H locs hp hw => ?_)
    obtain ⟨rfl, rfl, rfl, rfl, rfl, rfl⟩ := hp
    rw [e46, e48]
    refine lv_if_ne (tgt := 286) hx hb dX4_own_182 (by decide) (fun h182 => ?_) (fun h182 => ?_)
    · have eO : ownS F g o d a n = g := by subst e1; unfold ownS; rw [if_neg (show ¬ (26 : Int32) = 21 by decide), if_neg (show ¬ (26 : Int32) = 22 by decide), if_neg (show ¬ (26 : Int32) = 23 by decide), if_neg (show ¬ (26 : Int32) = 24 by decide), if_neg (show ¬ (26 : Int32) = 25 by decide), if_pos rfl, if_neg (fun q => h182 q.1)]
      exact w_vret C hw hr hlocks dX4_own_286 ⟨rfl, rfl, rfl, rfl, rfl, by rw [eO]; exact hR, SB.refl, rfl⟩
    · refine lv_aload_n hx hb dX4_own_185 rfl (hl.at rfl) ?_
      refine w_get C hw (c0 := 40) (i0 := i) rfl inA4 14 (by decide) mw163 rfl dX4_own_186 (hB 40 (by decide) (by decide)) rfl rfl rfl ?_
      rw [e14]
      refine lv_if_ne (tgt := 286) hx hb dX4_own_189 (by decide) (fun h189 => ?_) (fun h189 => ?_)
      · have eO : ownS F g o d a n = g := by subst e1; unfold ownS; rw [if_neg (show ¬ (26 : Int32) = 21 by decide), if_neg (show ¬ (26 : Int32) = 22 by decide), if_neg (show ¬ (26 : Int32) = 23 by decide), if_neg (show ¬ (26 : Int32) = 24 by decide), if_neg (show ¬ (26 : Int32) = 25 by decide), if_pos rfl, if_neg (fun q => h189 q.2.1)]
        exact w_vret C hw hr hlocks dX4_own_286 ⟨rfl, rfl, rfl, rfl, rfl, by rw [eO]; exact hR, SB.refl, rfl⟩
      · refine lv_aload_n hx hb dX4_own_192 rfl (hl.at rfl) ?_
        refine w_get C hw (c0 := 40) (i0 := i) rfl inA4 5 (by decide) mw78 rfl dX4_own_193 (hB 40 (by decide) (by decide)) rfl rfl rfl ?_
        refine lv_bipush (v := 6) hx hb dX4_own_196 (by decide) ?_
        refine w_ild C hw (c0 := 44) (i0 := i) dX4_own_198 (hB 44 (by decide) (by decide)) rfl rfl (vpk (by decide)) (j := 6) (by decide) ?_
        rw [e46]
        refine lv_if_ne (tgt := 286) hx hb dX4_own_199 (by decide) (fun h199 => ?_) (fun h199 => ?_)
        · have eO : ownS F g o d a n = g := by subst e1; unfold ownS; rw [if_neg (show ¬ (26 : Int32) = 21 by decide), if_neg (show ¬ (26 : Int32) = 22 by decide), if_neg (show ¬ (26 : Int32) = 23 by decide), if_neg (show ¬ (26 : Int32) = 24 by decide), if_neg (show ¬ (26 : Int32) = 25 by decide), if_pos rfl, if_neg (fun q => h199 q.2.2)]
          exact w_vret C hw hr hlocks dX4_own_286 ⟨rfl, rfl, rfl, rfl, rfl, by rw [eO]; exact hR, SB.refl, rfl⟩
        · refine lv_aload_n hx hb dX4_own_202 rfl (hl.at rfl) ?_
          refine lv_iconst (v := 2) hx hb dX4_own_203 (by decide) ?_
          refine w_put C hw (c0 := 40) (i0 := i) rfl inA4 tyX4_ok nmX4 12 (by decide) mw166 rfl rfl rfl dX4_own_204 (hB 40 (by decide) (by decide)) rfl rfl rfl rfl (Nat.le_of_ble_eq_true rfl) rfl (fun H locs hw => ?_)
          refine lv_goto (tgt := 286) hx hb dX4_own_207 (by decide) ?_
          have eO : ownS F g o d a n = gu g 0 1 2 := by subst e1; unfold ownS; rw [if_neg (show ¬ (26 : Int32) = 21 by decide), if_neg (show ¬ (26 : Int32) = 22 by decide), if_neg (show ¬ (26 : Int32) = 23 by decide), if_neg (show ¬ (26 : Int32) = 24 by decide), if_neg (show ¬ (26 : Int32) = 25 by decide), if_pos rfl, if_pos ⟨h182, h189, h199⟩]
          exact w_vret C hw hr hlocks dX4_own_286 ⟨rfl, rfl, rfl, rfl, rfl, by rw [eO]; exact BR_n hR rfl, SB.refl.u40 (by decide), by rw [upr_s, upd_n (by decide)]⟩
  by_cases q1_27 : x1 = 27
  · subst q1_27
    refine lv_tableIn (off := 209) (tgt := 210) hx hb dX4_own_1 (by decide) (by decide) (by decide) (by decide) ?_
    refine lv_aload_n hx hb dX4_own_210 rfl (hl.at rfl) ?_
    refine lv_iconst (v := 3) hx hb dX4_own_211 (by decide) ?_
    refine w_put C hw (c0 := 40) (i0 := i) rfl inA4 tyX4_ok nmX4 12 (by decide) mw166 rfl rfl rfl dX4_own_212 (hB 40 (by decide) (by decide)) rfl rfl rfl rfl (Nat.le_of_ble_eq_true rfl) rfl (fun H locs hw => ?_)
    refine lv_goto (tgt := 286) hx hb dX4_own_215 (by decide) ?_
    have eO : ownS F g o d a n = gu g 0 1 3 := by subst e1; unfold ownS; rw [if_neg (show ¬ (27 : Int32) = 21 by decide), if_neg (show ¬ (27 : Int32) = 22 by decide), if_neg (show ¬ (27 : Int32) = 23 by decide), if_neg (show ¬ (27 : Int32) = 24 by decide), if_neg (show ¬ (27 : Int32) = 25 by decide), if_neg (show ¬ (27 : Int32) = 26 by decide), if_pos rfl]
    exact w_vret C hw hr hlocks dX4_own_286 ⟨rfl, rfl, rfl, rfl, rfl, by rw [eO]; exact BR_n hR rfl, SB.refl.u40 (by decide), by rw [upr_s, upd_n (by decide)]⟩
  by_cases q1_28 : x1 = 28
  · subst q1_28
    refine lv_tableIn (off := 217) (tgt := 218) hx hb dX4_own_1 (by decide) (by decide) (by decide) (by decide) ?_
    refine lv_aload_n hx hb dX4_own_218 rfl (hl.at rfl) ?_
    refine w_get C hw (c0 := 40) (i0 := i) rfl inA4 4 (by decide) mw77 rfl dX4_own_219 (hB 40 (by decide) (by decide)) rfl rfl rfl ?_
    refine lv_iload_n hx hb dX4_own_222 rfl (hl.at rfl) ?_
    refine lv_iload hx hb dX4_own_223 (hl.at rfl) ?_
    refine lv_if_ne (tgt := 235) hx hb dX4_own_225 (by decide) (fun h225 => ?_) (fun h225 => ?_)
    · refine lv_iload hx hb dX4_own_235 (hl.at rfl) ?_
      refine lv_iconst (v := 1) hx hb dX4_own_237 (by decide) ?_
      refine lv_icmp_ne (tgt := 248) hx hb dX4_own_238 (by decide) (fun h238 => ?_) (fun h238 => ?_)
      · refine lv_iload hx hb dX4_own_248 (hl.at rfl) ?_
        refine lv_iconst (v := 2) hx hb dX4_own_250 (by decide) ?_
        refine lv_icmp_ne (tgt := 261) hx hb dX4_own_251 (by decide) (fun h251 => ?_) (fun h251 => ?_)
        · refine lv_iload hx hb dX4_own_261 (hl.at rfl) ?_
          refine lv_iconst (v := 3) hx hb dX4_own_263 (by decide) ?_
          refine lv_icmp_ne (tgt := 274) hx hb dX4_own_264 (by decide) (fun h264 => ?_) (fun h264 => ?_)
          · refine lv_iconst (v := 0) hx hb dX4_own_274 (by decide) ?_
            refine w_ist C hw (c0 := 43) (i0 := i) dX4_own_275 (hB 43 (by decide) (by decide)) rfl (fun _ => rfl) (vp_in_nI hd8 (by decide)) (nI_clamp (by omega)) (fun H locs hw => ?_)
            refine lv_goto (tgt := 286) hx hb dX4_own_276 (by decide) ?_
            have eO : ownS F g o d a n = gu g 3 d 0 := by subst e1; unfold ownS; rw [if_neg (show ¬ (28 : Int32) = 21 by decide), if_neg (show ¬ (28 : Int32) = 22 by decide), if_neg (show ¬ (28 : Int32) = 23 by decide), if_neg (show ¬ (28 : Int32) = 24 by decide), if_neg (show ¬ (28 : Int32) = 25 by decide), if_neg (show ¬ (28 : Int32) = 26 by decide), if_neg (show ¬ (28 : Int32) = 27 by decide), if_pos rfl]; unfold inS; rw [if_neg h225, if_neg h238, if_neg h251, if_neg h264]
            exact w_vret C hw hr hlocks dX4_own_286 ⟨rfl, rfl, rfl, rfl, rfl, by rw [eO]; exact BR_43 hR, SB.refl.up (by decide) (by decide), by rw [upr_k (by decide)]⟩
          · refine lv_aload_n hx hb dX4_own_267 rfl (hl.at rfl) ?_
            refine w_get C hw (c0 := 40) (i0 := i) rfl inA4 13 (by decide) mw171 rfl dX4_own_268 (hB 40 (by decide) (by decide)) rfl rfl rfl ?_
            rw [e13]
            refine lv_goto (tgt := 275) hx hb dX4_own_271 (by decide) ?_
            refine w_ist C hw (c0 := 43) (i0 := i) dX4_own_275 (hB 43 (by decide) (by decide)) rfl (fun _ => rfl) (vp_in_nI hd8 (by decide)) (nI_clamp (by omega)) (fun H locs hw => ?_)
            refine lv_goto (tgt := 286) hx hb dX4_own_276 (by decide) ?_
            have eO : ownS F g o d a n = gu g 3 d (g 0 4) := by subst e1; unfold ownS; rw [if_neg (show ¬ (28 : Int32) = 21 by decide), if_neg (show ¬ (28 : Int32) = 22 by decide), if_neg (show ¬ (28 : Int32) = 23 by decide), if_neg (show ¬ (28 : Int32) = 24 by decide), if_neg (show ¬ (28 : Int32) = 25 by decide), if_neg (show ¬ (28 : Int32) = 26 by decide), if_neg (show ¬ (28 : Int32) = 27 by decide), if_pos rfl]; unfold inS; rw [if_neg h225, if_neg h238, if_neg h251, if_pos h264]
            exact w_vret C hw hr hlocks dX4_own_286 ⟨rfl, rfl, rfl, rfl, rfl, by rw [eO]; exact BR_43 hR, SB.refl.up (by decide) (by decide), by rw [upr_k (by decide)]⟩
        · refine lv_aload_n hx hb dX4_own_254 rfl (hl.at rfl) ?_
          refine w_get C hw (c0 := 40) (i0 := i) rfl inA4 15 (by decide) mw164 rfl dX4_own_255 (hB 40 (by decide) (by decide)) rfl rfl rfl ?_
          rw [e15]
          refine lv_goto (tgt := 275) hx hb dX4_own_258 (by decide) ?_
          refine w_ist C hw (c0 := 43) (i0 := i) dX4_own_275 (hB 43 (by decide) (by decide)) rfl (fun _ => rfl) (vp_in_nI hd8 (by decide)) (nI_clamp (by omega)) (fun H locs hw => ?_)
          refine lv_goto (tgt := 286) hx hb dX4_own_276 (by decide) ?_
          have eO : ownS F g o d a n = gu g 3 d (g 0 16) := by subst e1; unfold ownS; rw [if_neg (show ¬ (28 : Int32) = 21 by decide), if_neg (show ¬ (28 : Int32) = 22 by decide), if_neg (show ¬ (28 : Int32) = 23 by decide), if_neg (show ¬ (28 : Int32) = 24 by decide), if_neg (show ¬ (28 : Int32) = 25 by decide), if_neg (show ¬ (28 : Int32) = 26 by decide), if_neg (show ¬ (28 : Int32) = 27 by decide), if_pos rfl]; unfold inS; rw [if_neg h225, if_neg h238, if_pos h251]
          exact w_vret C hw hr hlocks dX4_own_286 ⟨rfl, rfl, rfl, rfl, rfl, by rw [eO]; exact BR_43 hR, SB.refl.up (by decide) (by decide), by rw [upr_k (by decide)]⟩
      · refine lv_aload_n hx hb dX4_own_241 rfl (hl.at rfl) ?_
        refine w_get C hw (c0 := 40) (i0 := i) rfl inA4 14 (by decide) mw163 rfl dX4_own_242 (hB 40 (by decide) (by decide)) rfl rfl rfl ?_
        rw [e14]
        refine lv_goto (tgt := 275) hx hb dX4_own_245 (by decide) ?_
        refine w_ist C hw (c0 := 43) (i0 := i) dX4_own_275 (hB 43 (by decide) (by decide)) rfl (fun _ => rfl) (vp_in_nI hd8 (by decide)) (nI_clamp (by omega)) (fun H locs hw => ?_)
        refine lv_goto (tgt := 286) hx hb dX4_own_276 (by decide) ?_
        have eO : ownS F g o d a n = gu g 3 d (g 0 14) := by subst e1; unfold ownS; rw [if_neg (show ¬ (28 : Int32) = 21 by decide), if_neg (show ¬ (28 : Int32) = 22 by decide), if_neg (show ¬ (28 : Int32) = 23 by decide), if_neg (show ¬ (28 : Int32) = 24 by decide), if_neg (show ¬ (28 : Int32) = 25 by decide), if_neg (show ¬ (28 : Int32) = 26 by decide), if_neg (show ¬ (28 : Int32) = 27 by decide), if_pos rfl]; unfold inS; rw [if_neg h225, if_pos h238]
        exact w_vret C hw hr hlocks dX4_own_286 ⟨rfl, rfl, rfl, rfl, rfl, by rw [eO]; exact BR_43 hR, SB.refl.up (by decide) (by decide), by rw [upr_k (by decide)]⟩
    · refine lv_aload_n hx hb dX4_own_228 rfl (hl.at rfl) ?_
      refine w_callV C hN hw (c_X4_taken l sz0 D cs X _ Y i hB F g hF hR) ⟨(Nat.le_of_ble_eq_true rfl), (Nat.le_of_ble_eq_true rfl), mw505, mw71, cy_X4_taken⟩ mw502 mw503 mw504 (w_rec hw (c0 := 40) (i0 := i) (hB 40 (by decide) (by decide)) rfl rfl) rfl hl.1.1 rfl (Nat.le_of_ble_eq_true rfl) dX4_own_229 ⟨Nat.le_of_ble_eq_true rfl, Nat.le_of_ble_eq_true rfl⟩ (fun X' Z' Y' v k n H locs hp hw => ?_)
      obtain ⟨rfl, rfl, rfl, rfl, rfl, hR1, hS1, h171⟩ := hp
      refine lv_goto (tgt := 275) hx hb dX4_own_232 (by decide) ?_
      refine w_ist C hw (c0 := 43) (i0 := i) dX4_own_275 (hB 43 (by decide) (by decide)) rfl (fun _ => rfl) (vp_in_nI hd8 (by decide)) (nI_clamp (by omega)) (fun H locs hw => ?_)
      refine lv_goto (tgt := 286) hx hb dX4_own_276 (by decide) ?_
      have eO : ownS F g o d a n = gu (popS g).1 3 d (popS g).2 := by subst e1; unfold ownS; rw [if_neg (show ¬ (28 : Int32) = 21 by decide), if_neg (show ¬ (28 : Int32) = 22 by decide), if_neg (show ¬ (28 : Int32) = 23 by decide), if_neg (show ¬ (28 : Int32) = 24 by decide), if_neg (show ¬ (28 : Int32) = 25 by decide), if_neg (show ¬ (28 : Int32) = 26 by decide), if_neg (show ¬ (28 : Int32) = 27 by decide), if_pos rfl]; unfold inS; rw [if_pos h225]
      exact w_vret C hw hr hlocks dX4_own_286 ⟨rfl, rfl, rfl, rfl, rfl, by rw [eO]; exact BR_43 hR1, hS1.up (by decide) (by decide), by rw [upr_k (by decide)]; exact h171⟩
  refine lv_tableOut (tgt := 279) hx hb dX4_own_1 (by have := lv_neT q1_21 (by decide : (21 : Int32).toInt = 21); have := lv_neT q1_22 (by decide : (22 : Int32).toInt = 22); have := lv_neT q1_23 (by decide : (23 : Int32).toInt = 23); have := lv_neT q1_24 (by decide : (24 : Int32).toInt = 24); have := lv_neT q1_25 (by decide : (25 : Int32).toInt = 25); have := lv_neT q1_26 (by decide : (26 : Int32).toInt = 26); have := lv_neT q1_27 (by decide : (27 : Int32).toInt = 27); have := lv_neT q1_28 (by decide : (28 : Int32).toInt = 28); omega) (by decide) ?_
  refine lv_aload_n hx hb dX4_own_279 rfl (hl.at rfl) ?_
  refine lv_iload_n hx hb dX4_own_280 rfl (hl.at rfl) ?_
  refine lv_iload hx hb dX4_own_281 (hl.at rfl) ?_
  refine w_callV C hN hw (c_X4_put l sz0 D cs X _ Y i hB F g hF hR a n) ⟨(Nat.le_of_ble_eq_true rfl), (Nat.le_of_ble_eq_true rfl), mw509, mw71, cy_X4_put⟩ mw506 mw507 mw508 (w_rec hw (c0 := 40) (i0 := i) (hB 40 (by decide) (by decide)) rfl rfl) rfl hl.1.1 rfl (Nat.le_of_ble_eq_true rfl) dX4_own_283 ⟨Nat.le_of_ble_eq_true rfl, Nat.le_of_ble_eq_true rfl⟩ (fun X' Z' Y' v k n H locs hp hw => ?_)
  obtain ⟨rfl, rfl, rfl, rfl, rfl, hR1, hS1, h171⟩ := hp
  have eO : ownS F g o d a n = outS F g a n := by subst e1; unfold ownS; rw [if_neg q1_21, if_neg q1_22, if_neg q1_23, if_neg q1_24, if_neg q1_25, if_neg q1_26, if_neg q1_27, if_neg q1_28]
  exact w_vret C hw hr hlocks dX4_own_286 ⟨rfl, rfl, rfl, rfl, rfl, by rw [eO]; exact hR1, hS1, h171⟩
