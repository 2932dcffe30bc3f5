/-- filling an entry of the cache -/
def FLs (F : Nat) (Z : ZT) (i : Nat) (g : GS) (pn : Nat) (a kd : Int32) (Z' : ZT) : Prop :=
  (hasWv (nI F) (64 * (g 4 5 &&& 63) + nI pn) = 0 ∧ Z' = upr Z 40 i (upd (upd (Z 40 i) 17 5) 18 a)) ∨
  (¬ hasWv (nI F) (64 * (g 4 5 &&& 63) + nI pn) = 0 ∧ (g 1 (64 * (g 4 5 &&& 63) + nI pn).toNatClampNeg &&& 1 = 0 ∨ ¬ ((g 1 (64 * (g 4 5 &&& 63) + nI pn).toNatClampNeg >>> ((8 : Int32) &&& 31)) &&& 63) < nI F) ∧ Z' = upr Z 40 i (upd (upd (Z 40 i) 17 kd) 18 a)) ∨
  (¬ hasWv (nI F) (64 * (g 4 5 &&& 63) + nI pn) = 0 ∧ ¬ (g 1 (64 * (g 4 5 &&& 63) + nI pn).toNatClampNeg &&& 1 = 0 ∨ ¬ ((g 1 (64 * (g 4 5 &&& 63) + nI pn).toNatClampNeg >>> ((8 : Int32) &&& 31)) &&& 63) < nI F) ∧ Z' = upr (upr (upr Z 41 i (upd (Z 41 i) (64 * (g 4 5 &&& 63) + nI pn).toNatClampNeg (g 1 (64 * (g 4 5 &&& 63) + nI pn).toNatClampNeg ||| 8))) 45 i (upd (Z 45 i) pn ((g 1 (64 * (g 4 5 &&& 63) + nI pn).toNatClampNeg >>> ((8 : Int32) &&& 31)) &&& 63))) 46 i (upd (Z 46 i) pn (((g 1 (64 * (g 4 5 &&& 63) + nI pn).toNatClampNeg >>> ((1 : Int32) &&& 31)) &&& 3) ||| ((g 1 (64 * (g 4 5 &&& 63) + nI pn).toNatClampNeg >>> ((2 : Int32) &&& 31)) &&& 4))))

set_option maxHeartbeats 4000000 in
set_option maxRecDepth 100000 in
theorem c_X4_fill (l : Launch) (sz0 : Nat) (D : va_G) (cs : Nat → ClassId) (X : Sh) (Z : ZT) (Y : va_W) (i : Nat) (hB : BI X i) (F : Nat) (g : GS) (hF : F ≤ 64) (hR : BRr Z i F g) (pn : Nat) (hpn : pn < 256) (a kd : Int32) : Ctr l yX4_fill (wsM yX4_fill cX4_fill 7 none) ({ frames := 2, cells := 0, slots := 0, locals := 42 } : Room) sz0 D cs [.ref (X.1 40 i), .int (nI pn), .int a, .int kd] X Z Y (Pz X Y (fun Z' v => v = none ∧ FLs F Z i g pn a kd Z')) := by
  refine Ctr.ofW (by decide +kernel) (by intro v hv; simp at hv; rcases hv with rfl | rfl | rfl | rfl <;> rfl) (Nat.le_of_ble_eq_true rfl) ?_
  intro p e s m below meth c ls C hr hlocks hname hl hN hw
  obtain ⟨hx, hb, hml, hown, hts⟩ := id C
  have e0 : Z 40 i 0 = nI F := hR.1.1
  have e5 : Z 44 i 5 = g 4 5 := hR.k (by decide)
  unfold FLs
  refine lv_aload_n hx hb dX4_fill_0 rfl (hl.at rfl) ?_
  refine lv_iload_n hx hb dX4_fill_1 rfl (hl.at rfl) ?_
  refine w_callV C hN hw (c_X4_tableWord l sz0 D cs X _ Y i hB _) ⟨(Nat.le_of_ble_eq_true rfl), (Nat.le_of_ble_eq_true rfl), mw483, mw71, cy_X4_tableWord⟩ mw480 mw481 mw482 (w_rec hw (c0 := 40) (i0 := i) (hB 40 (by decide) (by decide)) rfl rfl) rfl hl.1.1 rfl (Nat.le_of_ble_eq_true rfl) dX4_fill_2 ⟨Nat.le_of_ble_eq_true rfl, Nat.le_of_ble_eq_true rfl⟩ (fun X' Z' Y' v k n H locs hp hw => ?_)
  obtain ⟨rfl, rfl, rfl, rfl, rfl, rfl⟩ := hp
  rw [e5]
  obtain ⟨t, et0⟩ : ∃ t, t = (64 * (g 4 5 &&& 63) + nI pn) := ⟨_, rfl⟩
  rw [← et0]
  refine w_istore hx hb dX4_fill_5 hl (Nat.le_of_ble_eq_true rfl) (fun ls hl => ?_)
  refine lv_aload_n hx hb dX4_fill_7 rfl (hl.at rfl) ?_
  refine lv_iload hx hb dX4_fill_8 (hl.at rfl) ?_
  refine w_callV C hN hw (c_X4_isMemory l sz0 D cs X _ Y i hB _) ⟨(Nat.le_of_ble_eq_true rfl), (Nat.le_of_ble_eq_true rfl), mw247, mw71, cy_X4_isMemory⟩ mw475 mw245 mw246 (w_rec hw (c0 := 40) (i0 := i) (hB 40 (by decide) (by decide)) rfl rfl) rfl hl.1.1 rfl (Nat.le_of_ble_eq_true rfl) dX4_fill_10 ⟨Nat.le_of_ble_eq_true rfl, Nat.le_of_ble_eq_true rfl⟩ (fun X' Z' Y' v k n H locs hp hw => ?_)
  obtain ⟨rfl, rfl, rfl, rfl, rfl, rfl⟩ := hp
  rw [e0, bwv_has hF]
  refine lv_if_ne (tgt := 23) hx hb dX4_fill_13 (by decide) (fun h13 => ?_) (fun h13 => ?_)
  · obtain ⟨tn, htn, et⟩ := hasWv_in hF h13
    refine lv_aload_n hx hb dX4_fill_23 rfl (hl.at rfl) ?_
    refine w_get C hw (c0 := 40) (i0 := i) rfl inA4 2 (by decide) mw75 rfl dX4_fill_24 (hB 40 (by decide) (by decide)) rfl rfl rfl ?_
    refine lv_iload hx hb dX4_fill_27 (hl.at rfl) ?_
    refine w_ild C hw (c0 := 41) (i0 := i) dX4_fill_29 (hB 41 (by decide) (by decide)) rfl rfl (by rw [et]; exact vp_in_nI (show tn < 4096 by omega) (by decide)) rfl ?_
    rw [hR.m (show t.toNatClampNeg < 64 * F by rw [et, nI_clamp (by omega)]; exact htn)]
    obtain ⟨w, ew⟩ : ∃ w, w = g 1 t.toNatClampNeg := ⟨_, rfl⟩
    rw [← ew]
    refine w_istore hx hb dX4_fill_30 hl (Nat.le_of_ble_eq_true rfl) (fun ls hl => ?_)
    refine lv_iload hx hb dX4_fill_32 (hl.at rfl) ?_
    refine lv_bipush (v := 8) hx hb dX4_fill_34 (by decide) ?_
    refine lv_ishr hx hb dX4_fill_36 ?_
    refine lv_bipush (v := 63) hx hb dX4_fill_37 (by decide) ?_
    refine lv_iand hx hb dX4_fill_39 ?_
    refine w_istore hx hb dX4_fill_40 hl (Nat.le_of_ble_eq_true rfl) (fun ls hl => ?_)
    refine lv_iload hx hb dX4_fill_42 (hl.at rfl) ?_
    refine lv_iconst (v := 1) hx hb dX4_fill_44 (by decide) ?_
    refine lv_iand hx hb dX4_fill_45 ?_
    refine lv_if_eq (tgt := 58) hx hb dX4_fill_46 (by decide) (fun h46 => ?_) (fun h46 => ?_)
    · refine lv_aload_n hx hb dX4_fill_58 rfl (hl.at rfl) ?_
      refine lv_iload_n hx hb dX4_fill_59 rfl (hl.at rfl) ?_
      refine lv_iload_n hx hb dX4_fill_60 rfl (hl.at rfl) ?_
      refine w_callV C hN hw (c_X4_fail l sz0 D cs X _ Y i hB _ _) ⟨(Nat.le_of_ble_eq_true rfl), (Nat.le_of_ble_eq_true rfl), mw470, mw71, cy_X4_fail⟩ mw467 mw468 mw469 (w_rec hw (c0 := 40) (i0 := i) (hB 40 (by decide) (by decide)) rfl rfl) rfl hl.1.1 rfl (Nat.le_of_ble_eq_true rfl) dX4_fill_61 ⟨Nat.le_of_ble_eq_true rfl, Nat.le_of_ble_eq_true rfl⟩ (fun X' Z' Y' v k n H locs hp hw => ?_)
      obtain ⟨rfl, rfl, rfl, rfl, rfl, rfl⟩ := hp
      exact w_vret C hw hr hlocks dX4_fill_64 ⟨rfl, rfl, rfl, rfl, rfl, Or.inr (Or.inl ⟨h13, Or.inl h46, rfl⟩)⟩
    · refine lv_iload hx hb dX4_fill_49 (hl.at rfl) ?_
      refine lv_aload_n hx hb dX4_fill_51 rfl (hl.at rfl) ?_
      refine w_get C hw (c0 := 40) (i0 := i) rfl inA4 0 (by decide) mw161 rfl dX4_fill_52 (hB 40 (by decide) (by decide)) rfl rfl rfl ?_
      rw [e0]
      refine lv_icmp_lt (tgt := 65) hx hb dX4_fill_55 (by decide) (fun h55 => ?_) (fun h55 => ?_)
      · refine lv_aload_n hx hb dX4_fill_65 rfl (hl.at rfl) ?_
        refine w_get C hw (c0 := 40) (i0 := i) rfl inA4 2 (by decide) mw75 rfl dX4_fill_66 (hB 40 (by decide) (by decide)) rfl rfl rfl ?_
        refine lv_iload hx hb dX4_fill_69 (hl.at rfl) ?_
        refine lv_iload hx hb dX4_fill_71 (hl.at rfl) ?_
        refine lv_bipush (v := 8) hx hb dX4_fill_73 (by decide) ?_
        refine lv_ior hx hb dX4_fill_75 ?_
        refine w_ist C hw (c0 := 41) (i0 := i) dX4_fill_76 (hB 41 (by decide) (by decide)) rfl (fun _ => rfl) (by rw [et]; exact vp_in_nI (show tn < 4096 by omega) (by decide)) rfl (fun H locs hw => ?_)
        refine lv_aload_n hx hb dX4_fill_77 rfl (hl.at rfl) ?_
        refine w_get C hw (c0 := 40) (i0 := i) rfl inA4 6 (by decide) mw79 rfl dX4_fill_78 (hB 40 (by decide) (by decide)) rfl rfl rfl ?_
        refine lv_iload_n hx hb dX4_fill_81 rfl (hl.at rfl) ?_
        refine lv_iload hx hb dX4_fill_82 (hl.at rfl) ?_
        refine w_ist C hw (c0 := 45) (i0 := i) dX4_fill_84 (hB 45 (by decide) (by decide)) rfl (fun _ => rfl) (vp_in_nI hpn (by decide)) (nI_clamp (by omega)) (fun H locs hw => ?_)
        refine lv_aload_n hx hb dX4_fill_85 rfl (hl.at rfl) ?_
        refine w_get C hw (c0 := 40) (i0 := i) rfl inA4 7 (by decide) mw80 rfl dX4_fill_86 (hB 40 (by decide) (by decide)) rfl rfl rfl ?_
        refine lv_iload_n hx hb dX4_fill_89 rfl (hl.at rfl) ?_
        refine lv_iload hx hb dX4_fill_90 (hl.at rfl) ?_
        refine lv_iconst (v := 1) hx hb dX4_fill_92 (by decide) ?_
        refine lv_ishr hx hb dX4_fill_93 ?_
        refine lv_iconst (v := 3) hx hb dX4_fill_94 (by decide) ?_
        refine lv_iand hx hb dX4_fill_95 ?_
        refine lv_iload hx hb dX4_fill_96 (hl.at rfl) ?_
        refine lv_iconst (v := 2) hx hb dX4_fill_98 (by decide) ?_
        refine lv_ishr hx hb dX4_fill_99 ?_
        refine lv_iconst (v := 4) hx hb dX4_fill_100 (by decide) ?_
        refine lv_iand hx hb dX4_fill_101 ?_
        refine lv_ior hx hb dX4_fill_102 ?_
        refine w_ist C hw (c0 := 46) (i0 := i) dX4_fill_103 (hB 46 (by decide) (by decide)) rfl (fun _ => rfl) (vp_in_nI hpn (by decide)) (nI_clamp (by omega)) (fun H locs hw => ?_)
        exact w_vret C hw hr hlocks dX4_fill_104 ⟨rfl, rfl, rfl, rfl, rfl, Or.inr (Or.inr ⟨h13, fun q => q.elim h46 (fun q => q h55), by rw [upr_k (show (45 : Nat) ≠ 41 by decide), upr_k (show (46 : Nat) ≠ 45 by decide), upr_k (show (46 : Nat) ≠ 41 by decide)]⟩)⟩
      · refine lv_aload_n hx hb dX4_fill_58 rfl (hl.at rfl) ?_
        refine lv_iload_n hx hb dX4_fill_59 rfl (hl.at rfl) ?_
        refine lv_iload_n hx hb dX4_fill_60 rfl (hl.at rfl) ?_
        refine w_callV C hN hw (c_X4_fail l sz0 D cs X _ Y i hB _ _) ⟨(Nat.le_of_ble_eq_true rfl), (Nat.le_of_ble_eq_true rfl), mw470, mw71, cy_X4_fail⟩ mw467 mw468 mw469 (w_rec hw (c0 := 40) (i0 := i) (hB 40 (by decide) (by decide)) rfl rfl) rfl hl.1.1 rfl (Nat.le_of_ble_eq_true rfl) dX4_fill_61 ⟨Nat.le_of_ble_eq_true rfl, Nat.le_of_ble_eq_true rfl⟩ (fun X' Z' Y' v k n H locs hp hw => ?_)
        obtain ⟨rfl, rfl, rfl, rfl, rfl, rfl⟩ := hp
        exact w_vret C hw hr hlocks dX4_fill_64 ⟨rfl, rfl, rfl, rfl, rfl, Or.inr (Or.inl ⟨h13, Or.inr h55, rfl⟩)⟩
  · refine lv_aload_n hx hb dX4_fill_16 rfl (hl.at rfl) ?_
    refine lv_iconst (v := 5) hx hb dX4_fill_17 (by decide) ?_
    refine lv_iload_n hx hb dX4_fill_18 rfl (hl.at rfl) ?_
    refine w_callV C hN hw (c_X4_fail l sz0 D cs X _ Y i hB _ _) ⟨(Nat.le_of_ble_eq_true rfl), (Nat.le_of_ble_eq_true rfl), mw470, mw71, cy_X4_fail⟩ mw467 mw468 mw469 (w_rec hw (c0 := 40) (i0 := i) (hB 40 (by decide) (by decide)) rfl rfl) rfl hl.1.1 rfl (Nat.le_of_ble_eq_true rfl) dX4_fill_19 ⟨Nat.le_of_ble_eq_true rfl, Nat.le_of_ble_eq_true rfl⟩ (fun X' Z' Y' v k n H locs hp hw => ?_)
    obtain ⟨rfl, rfl, rfl, rfl, rfl, rfl⟩ := hp
    exact w_vret C hw hr hlocks dX4_fill_22 ⟨rfl, rfl, rfl, rfl, rfl, Or.inl ⟨h13, rfl⟩⟩

/-- what reaching an address leaves -/
def RCs (F : Nat) (Z : ZT) (i : Nat) (r : LR) (Z' : ZT) (v : Option Value) : Prop :=
  BRr Z' i F r.1 ∧ SB Z i Z' ∧ ((¬ r.2.1 = 0 ∧ Z' 40 i 17 = r.2.1 ∧ Z' 40 i 18 = r.2.2.1 ∧ v = some (.int 0)) ∨ (r.2.1 = 0 ∧ Z' 40 i 17 = 0 ∧ v = some (.int r.2.2.2)))
theorem RCs_fail {F : Nat} {Z Z1 : ZT} {i : Nat} {g : GS} {c a x : Int32} {r : LR} (hr : r = (g, c, a, x)) (H : BRr Z1 i F g) (S : SB Z i Z1) (hc : ¬ c = 0) : RCs F Z i r (upr Z1 40 i (upd (upd (Z1 40 i) 17 c) 18 a)) (some (.int 0)) := by
  subst hr
  have q1 := BR_nt (d := 17) (x := c) H (by decide)
  have q2 := BR_nt (d := 18) (x := a) q1 (by decide)
  rw [upr_uu, upr_s] at q2
  refine ⟨q2, ?_, Or.inl ⟨hc, by rw [upr_s, upd_n (by decide), upd_s], by rw [upr_s, upd_s], rfl⟩⟩
  have s1 := SB.u40 (k := 18) (x := a) (SB.u40 (k := 17) (x := c) S (by decide)) (by decide)
  rw [upr_uu, upr_s] at s1
  exact s1

set_option maxHeartbeats 4000000 in
set_option maxRecDepth 100000 in
theorem c_X4_reach (l : Launch) (sz0 : Nat) (D : va_G) (cs : Nat → ClassId) (X : Sh) (Z : ZT) (Y : va_W) (i : Nat) (hB : BI X i) (F : Nat) (g : GS) (hF : F ≤ 64) (hR : BRr Z i F g) (hC : CInv F g) (h17 : Z 40 i 17 = 0) (a kd : Int32) (hk : kd = 11 ∨ kd = 12 ∨ kd = 13) : Ctr l yX4_reach (wsM yX4_reach cX4_reach 4 (some .int)) ({ frames := 3, cells := 0, slots := 0, locals := 68 } : Room) sz0 D cs [.ref (X.1 40 i), .int a, .int kd] X Z Y (Pz X Y (fun Z' v => RCs F Z i (locS F g a kd) Z' v)) := by
  refine Ctr.ofW (by decide +kernel) (by intro v hv; simp at hv; rcases hv with rfl | rfl | rfl <;> rfl) (Nat.le_of_ble_eq_true rfl) ?_
  intro p e s m below meth c ls C hr hlocks hname hl hN hw
  obtain ⟨hx, hb, hml, hown, hts⟩ := id C
  have e0 : Z 40 i 0 = nI F := hR.1.1
  have e5 : Z 44 i 5 = g 4 5 := hR.k (by decide)
  have hk0 : ¬ kd = 0 := by rcases hk with q | q | q <;> rw [q] <;> decide
  have hkp : ¬ kd ≤ 0 := by rcases hk with q | q | q <;> rw [q] <;> decide
  refine lv_aload_n hx hb dX4_reach_0 rfl (hl.at rfl) ?_
  refine w_get C hw (c0 := 40) (i0 := i) rfl inA4 5 (by decide) mw78 rfl dX4_reach_1 (hB 40 (by decide) (by decide)) rfl rfl rfl ?_
  refine lv_iconst (v := 5) hx hb dX4_reach_4 (by decide) ?_
  refine w_ild C hw (c0 := 44) (i0 := i) dX4_reach_5 (hB 44 (by decide) (by decide)) rfl rfl (vpk (by decide)) (j := 5) (by decide) ?_
  rw [e5]
  refine lv_if_lt (tgt := 27) hx hb dX4_reach_6 (by decide) (fun h6 => ?_) (fun h6 => ?_)
  · refine lv_iload_n hx hb dX4_reach_27 rfl (hl.at rfl) ?_
    refine lv_sipush (v := 16384) hx hb dX4_reach_28 (by decide) ?_
    refine w_callSN C hN hw (c_X5_isBelow l sz0 D cs X _ Y _ _) ⟨(Nat.le_of_ble_eq_true rfl), (Nat.le_of_ble_eq_true rfl), mw249, mw6, cy_X5_isBelow⟩ mw660 mw248 rfl hl.1.1 rfl (Nat.le_of_ble_eq_true rfl) dX4_reach_31 ⟨Nat.le_of_ble_eq_true rfl, Nat.le_of_ble_eq_true rfl⟩ (fun X' Z' Y' v k n H locs hp hw => ?_)
    obtain ⟨rfl, rfl, rfl, rfl, rfl, rfl⟩ := hp
    rw [bwv_in (show ¬ (16384 : Int32) < 0 by decide)]
    by_cases ca : a < 0 ∨ ¬ a < 16384
    · have ez : (if a < 0 then (0 : Int32) else if 16384 ≤ a then 0 else 1) = 0 := by
        rcases ca with q | q
        · rw [if_pos q]
        · rw [if_pos (Int32.not_lt.mp q)]; split <;> rfl
      rw [ez]
      refine lv_if_ne (tgt := 45) hx hb dX4_reach_34 (by decide) (fun h34 => ?_) (fun h34 => ?_)
      · exact absurd rfl h34
      · refine lv_aload_n hx hb dX4_reach_37 rfl (hl.at rfl) ?_
        refine lv_iload_n hx hb dX4_reach_38 rfl (hl.at rfl) ?_
        refine lv_iload_n hx hb dX4_reach_39 rfl (hl.at rfl) ?_
        refine w_callV C hN hw (c_X4_fail l sz0 D cs X _ Y i hB _ _) ⟨(Nat.le_of_ble_eq_true rfl), (Nat.le_of_ble_eq_true rfl), mw470, mw71, cy_X4_fail⟩ mw467 mw468 mw469 (w_rec hw (c0 := 40) (i0 := i) (hB 40 (by decide) (by decide)) rfl rfl) rfl hl.1.1 rfl (Nat.le_of_ble_eq_true rfl) dX4_reach_40 ⟨Nat.le_of_ble_eq_true rfl, Nat.le_of_ble_eq_true rfl⟩ (fun X' Z' Y' v k n H locs hp hw => ?_)
        obtain ⟨rfl, rfl, rfl, rfl, rfl, rfl⟩ := hp
        refine lv_iconst (v := 0) hx hb dX4_reach_43 (by decide) ?_
        exact w_iret C hw hr hlocks dX4_reach_44 ⟨rfl, rfl, rfl, rfl, RCs_fail (by unfold locS; rw [if_neg (fun q => q h6), if_pos ca]) hR SB.refl hk0⟩
    · have ca1 : ¬ a < 0 := fun q => ca (Or.inl q)
      have ca2 : a < 16384 := Classical.not_not.mp (fun q => ca (Or.inr q))
      rw [if_neg ca1, if_neg (fun q => Int32.not_lt.mpr q ca2)]
      refine lv_if_ne (tgt := 45) hx hb dX4_reach_34 (by decide) (fun h34 => ?_) (fun h34 => ?_)
      · obtain ⟨an, han, ean⟩ := nI_of ca1
        obtain ⟨pn, hpn, epn⟩ := page_of ca1 ca2
        have edv : a / 64 = nI pn := by rw [← epn, ean, div64 han, shr6 han]
        refine lv_iload_n hx hb dX4_reach_45 rfl (hl.at rfl) ?_
        refine lv_bipush (v := 64) hx hb dX4_reach_46 (by decide) ?_
        refine lv_idiv hx hb dX4_reach_48 (by decide) ?_
        rw [edv]
        refine w_istore_n hx hb dX4_reach_49 rfl hl (Nat.le_of_ble_eq_true rfl) (fun ls hl => ?_)
        have tail : ∀ (Z1 : ZT) (g1 : GS) (fn bn : Nat) (H : Heap) (locs : List Loc) (ls : Array Slot), lo ls [some (.ref (X.1 40 i)), some (.int a), some (.int kd), some (.int (nI pn))] → fn < 64 → bn < 8 → BRr Z1 i F g1 → SB Z i Z1 → Z1 40 i 17 = 0 → Z1 45 i pn = nI fn → Z1 46 i pn = nI bn → g1 5 pn = nI (8 * fn + bn) → g1 4 5 = g 4 5 → ¬ hasWv (nI F) (64 * (g 4 5 &&& 63) + nI pn) = 0 → locS F g a kd = locF g1 pn (64 * (g 4 5 &&& 63) + nI pn).toNatClampNeg a kd (g1 5 pn) → Wd sz0 D cs s X Z1 Y H locs → W p l e ({ frames := 3, cells := 0, slots := 0, locals := 68 } : Room) s m ([.ref (X.1 40 i), .int a, .int kd] : List Value).toArray below meth c H locs 0 0 (xQ below (CQ sz0 D cs (Pz X Y (fun Z' v => RCs F Z i (locS F g a kd) Z' v))) ([.ref (X.1 40 i), .int a, .int kd] : List Value).toArray s (Asz sz0)) (F0 m 75 ls []) := by
          intro Z1 g1 fn bn H locs ls hl hfn hbn hR1 hS1 h171 e45 e46 e5p e45g htw hloc hw
          have em : Z1 40 i 11 = g1 0 3 := hR1.1.2.2.2.1
          have x1 : nI (8 * fn + bn) &&& 1 = nI bn &&& 1 := eb_1 ⟨fn, hfn⟩ ⟨bn, hbn⟩
          have x2 : nI (8 * fn + bn) &&& 2 = nI bn &&& 2 := eb_2 ⟨fn, hfn⟩ ⟨bn, hbn⟩
          have x4 : nI (8 * fn + bn) &&& 4 = nI bn &&& 4 := eb_4 ⟨fn, hfn⟩ ⟨bn, hbn⟩
          rw [e5p] at hloc
          unfold locF at hloc
          rw [x1, x2, x4] at hloc
          have esh : nI (8 * fn + bn) >>> ((3 : Int32) &&& 31) = nI fn := by
            rw [pk_shrN (show 8 * fn + bn < 2 ^ 31 by omega) (3 &&& 31) 3 (by decide), show (8 * fn + bn) / 2 ^ 3 = fn by omega]
          rw [esh] at hloc
          obtain ⟨tn, htn, etn⟩ := hasWv_in hF htw
          refine lv_aload_n hx hb dX4_reach_75 rfl (hl.at rfl) ?_
          refine w_get C hw (c0 := 40) (i0 := i) rfl inA4 11 (by decide) mw165 rfl dX4_reach_76 (hB 40 (by decide) (by decide)) rfl rfl rfl ?_
          rw [em]
          refine lv_if_ne (tgt := 93) hx hb dX4_reach_79 (by decide) (fun h79 => ?_) (fun h79 => ?_)
          · refine lv_iload_n hx hb dX4_reach_93 rfl (hl.at rfl) ?_
            refine lv_bipush (v := 13) hx hb dX4_reach_94 (by decide) ?_
            refine lv_icmp_ne (tgt := 118) hx hb dX4_reach_96 (by decide) (fun h96 => ?_) (fun h96 => ?_)
            · refine lv_iload_n hx hb dX4_reach_118 rfl (hl.at rfl) ?_
              refine lv_bipush (v := 13) hx hb dX4_reach_119 (by decide) ?_
              refine lv_icmp_ne (tgt := 160) hx hb dX4_reach_121 (by decide) (fun h121 => ?_) (fun h121 => ?_)
              · refine lv_bipush (v := 64) hx hb dX4_reach_160 (by decide) ?_
                refine lv_aload_n hx hb dX4_reach_162 rfl (hl.at rfl) ?_
                refine w_get C hw (c0 := 40) (i0 := i) rfl inA4 6 (by decide) mw79 rfl dX4_reach_163 (hB 40 (by decide) (by decide)) rfl rfl rfl ?_
                refine lv_iload_n hx hb dX4_reach_166 rfl (hl.at rfl) ?_
                refine w_ild C hw (c0 := 45) (i0 := i) dX4_reach_167 (hB 45 (by decide) (by decide)) rfl rfl (vp_in_nI hpn (by decide)) (nI_clamp (by omega)) ?_
                rw [e45]
                refine lv_imul hx hb dX4_reach_168 ?_
                refine lv_iload_n hx hb dX4_reach_169 rfl (hl.at rfl) ?_
                refine lv_bipush (v := 63) hx hb dX4_reach_170 (by decide) ?_
                refine lv_iand hx hb dX4_reach_172 ?_
                refine lv_iadd hx hb dX4_reach_173 ?_
                exact w_iret C hw hr hlocks dX4_reach_174 ⟨rfl, rfl, rfl, rfl, by rw [hloc, if_neg (fun q => q.elim (fun q => h79 q.1) (fun q => h96 q.1)), if_neg (fun q => h121 q.1)]; exact ⟨hR1, hS1, Or.inr ⟨rfl, h171, by rw [Int32.mul_comm]⟩⟩⟩
              · refine lv_aload_n hx hb dX4_reach_124 rfl (hl.at rfl) ?_
                refine w_get C hw (c0 := 40) (i0 := i) rfl inA4 7 (by decide) mw80 rfl dX4_reach_125 (hB 40 (by decide) (by decide)) rfl rfl rfl ?_
                refine lv_iload_n hx hb dX4_reach_128 rfl (hl.at rfl) ?_
                refine w_ild C hw (c0 := 46) (i0 := i) dX4_reach_129 (hB 46 (by decide) (by decide)) rfl rfl (vp_in_nI hpn (by decide)) (nI_clamp (by omega)) ?_
                rw [e46]
                refine lv_iconst (v := 4) hx hb dX4_reach_130 (by decide) ?_
                refine lv_iand hx hb dX4_reach_131 ?_
                refine lv_if_ne (tgt := 160) hx hb dX4_reach_132 (by decide) (fun h132 => ?_) (fun h132 => ?_)
                · refine lv_bipush (v := 64) hx hb dX4_reach_160 (by decide) ?_
                  refine lv_aload_n hx hb dX4_reach_162 rfl (hl.at rfl) ?_
                  refine w_get C hw (c0 := 40) (i0 := i) rfl inA4 6 (by decide) mw79 rfl dX4_reach_163 (hB 40 (by decide) (by decide)) rfl rfl rfl ?_
                  refine lv_iload_n hx hb dX4_reach_166 rfl (hl.at rfl) ?_
                  refine w_ild C hw (c0 := 45) (i0 := i) dX4_reach_167 (hB 45 (by decide) (by decide)) rfl rfl (vp_in_nI hpn (by decide)) (nI_clamp (by omega)) ?_
                  rw [e45]
                  refine lv_imul hx hb dX4_reach_168 ?_
                  refine lv_iload_n hx hb dX4_reach_169 rfl (hl.at rfl) ?_
                  refine lv_bipush (v := 63) hx hb dX4_reach_170 (by decide) ?_
                  refine lv_iand hx hb dX4_reach_172 ?_
                  refine lv_iadd hx hb dX4_reach_173 ?_
                  exact w_iret C hw hr hlocks dX4_reach_174 ⟨rfl, rfl, rfl, rfl, by rw [hloc, if_neg (fun q => q.elim (fun q => h79 q.1) (fun q => h96 q.1)), if_neg (fun q => h132 q.2)]; exact ⟨hR1, hS1, Or.inr ⟨rfl, h171, by rw [Int32.mul_comm]⟩⟩⟩
                · refine lv_aload_n hx hb dX4_reach_135 rfl (hl.at rfl) ?_
                  refine w_get C hw (c0 := 40) (i0 := i) rfl inA4 2 (by decide) mw75 rfl dX4_reach_136 (hB 40 (by decide) (by decide)) rfl rfl rfl ?_
                  refine lv_aload_n hx hb dX4_reach_139 rfl (hl.at rfl) ?_
                  refine lv_iload_n hx hb dX4_reach_140 rfl (hl.at rfl) ?_
                  refine w_callV C hN hw (c_X4_tableWord l sz0 D cs X _ Y i hB _) ⟨(Nat.le_of_ble_eq_true rfl), (Nat.le_of_ble_eq_true rfl), mw483, mw71, cy_X4_tableWord⟩ mw480 mw481 mw482 (w_rec hw (c0 := 40) (i0 := i) (hB 40 (by decide) (by decide)) rfl rfl) rfl hl.1.1 rfl (Nat.le_of_ble_eq_true rfl) dX4_reach_141 ⟨Nat.le_of_ble_eq_true rfl, Nat.le_of_ble_eq_true rfl⟩ (fun X' Z' Y' v k n H locs hp hw => ?_)
                  obtain ⟨rfl, rfl, rfl, rfl, rfl, rfl⟩ := hp
                  rw [hR1.k (show 5 < 9 by decide), e45g]
                  refine lv_dup2_11 hx hb dX4_reach_144 rfl rfl ?_
                  refine w_ild C hw (c0 := 41) (i0 := i) dX4_reach_145 (hB 41 (by decide) (by decide)) rfl rfl (by rw [etn]; exact vp_in_nI (show tn < 4096 by omega) (by decide)) rfl ?_
                  rw [hR1.m (show (64 * (g 4 5 &&& 63) + nI pn).toNatClampNeg < 64 * F by rw [etn, nI_clamp (by omega)]; exact htn)]
                  refine lv_bipush (v := 16) hx hb dX4_reach_146 (by decide) ?_
                  refine lv_ior hx hb dX4_reach_148 ?_
                  refine w_ist C hw (c0 := 41) (i0 := i) dX4_reach_149 (hB 41 (by decide) (by decide)) rfl (fun _ => rfl) (by rw [etn]; exact vp_in_nI (show tn < 4096 by omega) (by decide)) rfl (fun H locs hw => ?_)
                  refine lv_aload_n hx hb dX4_reach_150 rfl (hl.at rfl) ?_
                  refine w_get C hw (c0 := 40) (i0 := i) rfl inA4 7 (by decide) mw80 rfl dX4_reach_151 (hB 40 (by decide) (by decide)) rfl rfl rfl ?_
                  refine lv_iload_n hx hb dX4_reach_154 rfl (hl.at rfl) ?_
                  refine lv_dup2_11 hx hb dX4_reach_155 rfl rfl ?_
                  refine w_ild C hw (c0 := 46) (i0 := i) dX4_reach_156 (hB 46 (by decide) (by decide)) rfl rfl (vp_in_nI hpn (by decide)) (nI_clamp (by omega)) ?_
                  rw [upr_k (show (46 : Nat) ≠ 41 by decide), e46]
                  refine lv_iconst (v := 4) hx hb dX4_reach_157 (by decide) ?_
                  refine lv_ior hx hb dX4_reach_158 ?_
                  refine w_ist C hw (c0 := 46) (i0 := i) dX4_reach_159 (hB 46 (by decide) (by decide)) rfl (fun _ => rfl) (vp_in_nI hpn (by decide)) (nI_clamp (by omega)) (fun H locs hw => ?_)
                  refine lv_bipush (v := 64) hx hb dX4_reach_160 (by decide) ?_
                  refine lv_aload_n hx hb dX4_reach_162 rfl (hl.at rfl) ?_
                  refine w_get C hw (c0 := 40) (i0 := i) rfl inA4 6 (by decide) mw79 rfl dX4_reach_163 (hB 40 (by decide) (by decide)) rfl rfl rfl ?_
                  refine lv_iload_n hx hb dX4_reach_166 rfl (hl.at rfl) ?_
                  refine w_ild C hw (c0 := 45) (i0 := i) dX4_reach_167 (hB 45 (by decide) (by decide)) rfl rfl (vp_in_nI hpn (by decide)) (nI_clamp (by omega)) ?_
                  rw [upr_k (show (45 : Nat) ≠ 46 by decide), upr_k (show (45 : Nat) ≠ 41 by decide), e45]
                  refine lv_imul hx hb dX4_reach_168 ?_
                  refine lv_iload_n hx hb dX4_reach_169 rfl (hl.at rfl) ?_
                  refine lv_bipush (v := 63) hx hb dX4_reach_170 (by decide) ?_
                  refine lv_iand hx hb dX4_reach_172 ?_
                  refine lv_iadd hx hb dX4_reach_173 ?_
                  have hb4 : nI bn ||| 4 = nI (bn ||| 4) := (eb_b ⟨bn, hbn⟩).2
                  have hb8 : bn ||| 4 < 8 := (eb_b ⟨bn, hbn⟩).1
                  have ho : nI (8 * fn + bn) ||| 4 = nI (8 * fn + (bn ||| 4)) := eb_o ⟨fn, hfn⟩ ⟨bn, hbn⟩
                  have hRx := BR_46 (b := upd (Z1 46 i) pn (nI bn ||| 4)) (e := upd (g1 5) pn (nI (8 * fn + bn) ||| 4)) (BR_41 (d := (64 * (g 4 5 &&& 63) + nI pn).toNatClampNeg) (x := g1 1 (64 * (g 4 5 &&& 63) + nI pn).toNatClampNeg ||| 16) hR1) (fun k hk => by
                    rw [upr_k (show (45 : Nat) ≠ 41 by decide)]
                    by_cases q : k = pn
                    · subst q
                      rw [upd_s, upd_s]
                      exact Or.inr ⟨fn, bn ||| 4, hfn, hb8, e45, hb4, ho⟩
                    · rw [upd_n q, upd_n q]
                      exact hR1.2.2.2.2.2.1 k hk)
                  rw [upr_k (show (46 : Nat) ≠ 41 by decide)] at hw
                  exact w_iret C hw hr hlocks dX4_reach_174 ⟨rfl, rfl, rfl, rfl, by rw [hloc, if_neg (fun q => q.elim (fun q => h79 q.1) (fun q => h96 q.1)), if_pos ⟨h121, h132⟩]; exact ⟨hRx, (hS1.up (by decide) (by decide)).up (by decide) (by decide), Or.inr ⟨rfl, by rw [upr_k (by decide), upr_k (by decide)]; exact h171, by rw [Int32.mul_comm]⟩⟩⟩
            · refine lv_aload_n hx hb dX4_reach_99 rfl (hl.at rfl) ?_
              refine w_get C hw (c0 := 40) (i0 := i) rfl inA4 7 (by decide) mw80 rfl dX4_reach_100 (hB 40 (by decide) (by decide)) rfl rfl rfl ?_
              refine lv_iload_n hx hb dX4_reach_103 rfl (hl.at rfl) ?_
              refine w_ild C hw (c0 := 46) (i0 := i) dX4_reach_104 (hB 46 (by decide) (by decide)) rfl rfl (vp_in_nI hpn (by decide)) (nI_clamp (by omega)) ?_
              rw [e46]
              refine lv_iconst (v := 1) hx hb dX4_reach_105 (by decide) ?_
              refine lv_iand hx hb dX4_reach_106 ?_
              refine lv_if_ne (tgt := 118) hx hb dX4_reach_107 (by decide) (fun h107 => ?_) (fun h107 => ?_)
              · refine lv_iload_n hx hb dX4_reach_118 rfl (hl.at rfl) ?_
                refine lv_bipush (v := 13) hx hb dX4_reach_119 (by decide) ?_
                refine lv_icmp_ne (tgt := 160) hx hb dX4_reach_121 (by decide) (fun h121 => ?_) (fun h121 => ?_)
                · refine lv_bipush (v := 64) hx hb dX4_reach_160 (by decide) ?_
                  refine lv_aload_n hx hb dX4_reach_162 rfl (hl.at rfl) ?_
                  refine w_get C hw (c0 := 40) (i0 := i) rfl inA4 6 (by decide) mw79 rfl dX4_reach_163 (hB 40 (by decide) (by decide)) rfl rfl rfl ?_
                  refine lv_iload_n hx hb dX4_reach_166 rfl (hl.at rfl) ?_
                  refine w_ild C hw (c0 := 45) (i0 := i) dX4_reach_167 (hB 45 (by decide) (by decide)) rfl rfl (vp_in_nI hpn (by decide)) (nI_clamp (by omega)) ?_
                  rw [e45]
                  refine lv_imul hx hb dX4_reach_168 ?_
                  refine lv_iload_n hx hb dX4_reach_169 rfl (hl.at rfl) ?_
                  refine lv_bipush (v := 63) hx hb dX4_reach_170 (by decide) ?_
                  refine lv_iand hx hb dX4_reach_172 ?_
                  refine lv_iadd hx hb dX4_reach_173 ?_
                  exact w_iret C hw hr hlocks dX4_reach_174 ⟨rfl, rfl, rfl, rfl, by rw [hloc, if_neg (fun q => q.elim (fun q => h79 q.1) (fun q => h107 q.2)), if_neg (fun q => h121 q.1)]; exact ⟨hR1, hS1, Or.inr ⟨rfl, h171, by rw [Int32.mul_comm]⟩⟩⟩
                · refine lv_aload_n hx hb dX4_reach_124 rfl (hl.at rfl) ?_
                  refine w_get C hw (c0 := 40) (i0 := i) rfl inA4 7 (by decide) mw80 rfl dX4_reach_125 (hB 40 (by decide) (by decide)) rfl rfl rfl ?_
                  refine lv_iload_n hx hb dX4_reach_128 rfl (hl.at rfl) ?_
                  refine w_ild C hw (c0 := 46) (i0 := i) dX4_reach_129 (hB 46 (by decide) (by decide)) rfl rfl (vp_in_nI hpn (by decide)) (nI_clamp (by omega)) ?_
                  rw [e46]
                  refine lv_iconst (v := 4) hx hb dX4_reach_130 (by decide) ?_
                  refine lv_iand hx hb dX4_reach_131 ?_
                  refine lv_if_ne (tgt := 160) hx hb dX4_reach_132 (by decide) (fun h132 => ?_) (fun h132 => ?_)
                  · refine lv_bipush (v := 64) hx hb dX4_reach_160 (by decide) ?_
                    refine lv_aload_n hx hb dX4_reach_162 rfl (hl.at rfl) ?_
                    refine w_get C hw (c0 := 40) (i0 := i) rfl inA4 6 (by decide) mw79 rfl dX4_reach_163 (hB 40 (by decide) (by decide)) rfl rfl rfl ?_
                    refine lv_iload_n hx hb dX4_reach_166 rfl (hl.at rfl) ?_
                    refine w_ild C hw (c0 := 45) (i0 := i) dX4_reach_167 (hB 45 (by decide) (by decide)) rfl rfl (vp_in_nI hpn (by decide)) (nI_clamp (by omega)) ?_
                    rw [e45]
                    refine lv_imul hx hb dX4_reach_168 ?_
                    refine lv_iload_n hx hb dX4_reach_169 rfl (hl.at rfl) ?_
                    refine lv_bipush (v := 63) hx hb dX4_reach_170 (by decide) ?_
                    refine lv_iand hx hb dX4_reach_172 ?_
                    refine lv_iadd hx hb dX4_reach_173 ?_
                    exact w_iret C hw hr hlocks dX4_reach_174 ⟨rfl, rfl, rfl, rfl, by rw [hloc, if_neg (fun q => q.elim (fun q => h79 q.1) (fun q => h107 q.2)), if_neg (fun q => h132 q.2)]; exact ⟨hR1, hS1, Or.inr ⟨rfl, h171, by rw [Int32.mul_comm]⟩⟩⟩
                  · refine lv_aload_n hx hb dX4_reach_135 rfl (hl.at rfl) ?_
                    refine w_get C hw (c0 := 40) (i0 := i) rfl inA4 2 (by decide) mw75 rfl dX4_reach_136 (hB 40 (by decide) (by decide)) rfl rfl rfl ?_
                    refine lv_aload_n hx hb dX4_reach_139 rfl (hl.at rfl) ?_
                    refine lv_iload_n hx hb dX4_reach_140 rfl (hl.at rfl) ?_
                    refine w_callV C hN hw (c_X4_tableWord l sz0 D cs X _ Y i hB _) ⟨(Nat.le_of_ble_eq_true rfl), (Nat.le_of_ble_eq_true rfl), mw483, mw71, cy_X4_tableWord⟩ mw480 mw481 mw482 (w_rec hw (c0 := 40) (i0 := i) (hB 40 (by decide) (by decide)) rfl rfl) rfl hl.1.1 rfl (Nat.le_of_ble_eq_true rfl) dX4_reach_141 ⟨Nat.le_of_ble_eq_true rfl, Nat.le_of_ble_eq_true rfl⟩ (fun X' Z' Y' v k n H locs hp hw => ?_)
                    obtain ⟨rfl, rfl, rfl, rfl, rfl, rfl⟩ := hp
                    rw [hR1.k (show 5 < 9 by decide), e45g]
                    refine lv_dup2_11 hx hb dX4_reach_144 rfl rfl ?_
                    refine w_ild C hw (c0 := 41) (i0 := i) dX4_reach_145 (hB 41 (by decide) (by decide)) rfl rfl (by rw [etn]; exact vp_in_nI (show tn < 4096 by omega) (by decide)) rfl ?_
                    rw [hR1.m (show (64 * (g 4 5 &&& 63) + nI pn).toNatClampNeg < 64 * F by rw [etn, nI_clamp (by omega)]; exact htn)]
                    refine lv_bipush (v := 16) hx hb dX4_reach_146 (by decide) ?_
                    refine lv_ior hx hb dX4_reach_148 ?_
                    refine w_ist C hw (c0 := 41) (i0 := i) dX4_reach_149 (hB 41 (by decide) (by decide)) rfl (fun _ => rfl) (by rw [etn]; exact vp_in_nI (show tn < 4096 by omega) (by decide)) rfl (fun H locs hw => ?_)
                    refine lv_aload_n hx hb dX4_reach_150 rfl (hl.at rfl) ?_
                    refine w_get C hw (c0 := 40) (i0 := i) rfl inA4 7 (by decide) mw80 rfl dX4_reach_151 (hB 40 (by decide) (by decide)) rfl rfl rfl ?_
                    refine lv_iload_n hx hb dX4_reach_154 rfl (hl.at rfl) ?_
                    refine lv_dup2_11 hx hb dX4_reach_155 rfl rfl ?_
                    refine w_ild C hw (c0 := 46) (i0 := i) dX4_reach_156 (hB 46 (by decide) (by decide)) rfl rfl (vp_in_nI hpn (by decide)) (nI_clamp (by omega)) ?_
                    rw [upr_k (show (46 : Nat) ≠ 41 by decide), e46]
                    refine lv_iconst (v := 4) hx hb dX4_reach_157 (by decide) ?_
                    refine lv_ior hx hb dX4_reach_158 ?_
                    refine w_ist C hw (c0 := 46) (i0 := i) dX4_reach_159 (hB 46 (by decide) (by decide)) rfl (fun _ => rfl) (vp_in_nI hpn (by decide)) (nI_clamp (by omega)) (fun H locs hw => ?_)
                    refine lv_bipush (v := 64) hx hb dX4_reach_160 (by decide) ?_
                    refine lv_aload_n hx hb dX4_reach_162 rfl (hl.at rfl) ?_
                    refine w_get C hw (c0 := 40) (i0 := i) rfl inA4 6 (by decide) mw79 rfl dX4_reach_163 (hB 40 (by decide) (by decide)) rfl rfl rfl ?_
                    refine lv_iload_n hx hb dX4_reach_166 rfl (hl.at rfl) ?_
                    refine w_ild C hw (c0 := 45) (i0 := i) dX4_reach_167 (hB 45 (by decide) (by decide)) rfl rfl (vp_in_nI hpn (by decide)) (nI_clamp (by omega)) ?_
                    rw [upr_k (show (45 : Nat) ≠ 46 by decide), upr_k (show (45 : Nat) ≠ 41 by decide), e45]
                    refine lv_imul hx hb dX4_reach_168 ?_
                    refine lv_iload_n hx hb dX4_reach_169 rfl (hl.at rfl) ?_
                    refine lv_bipush (v := 63) hx hb dX4_reach_170 (by decide) ?_
                    refine lv_iand hx hb dX4_reach_172 ?_
                    refine lv_iadd hx hb dX4_reach_173 ?_
                    have hb4 : nI bn ||| 4 = nI (bn ||| 4) := (eb_b ⟨bn, hbn⟩).2
                    have hb8 : bn ||| 4 < 8 := (eb_b ⟨bn, hbn⟩).1
                    have ho : nI (8 * fn + bn) ||| 4 = nI (8 * fn + (bn ||| 4)) := eb_o ⟨fn, hfn⟩ ⟨bn, hbn⟩
                    have hRx := BR_46 (b := upd (Z1 46 i) pn (nI bn ||| 4)) (e := upd (g1 5) pn (nI (8 * fn + bn) ||| 4)) (BR_41 (d := (64 * (g 4 5 &&& 63) + nI pn).toNatClampNeg) (x := g1 1 (64 * (g 4 5 &&& 63) + nI pn).toNatClampNeg ||| 16) hR1) (fun k hk => by
                      rw [upr_k (show (45 : Nat) ≠ 41 by decide)]
                      by_cases q : k = pn
                      · subst q
                        rw [upd_s, upd_s]
                        exact Or.inr ⟨fn, bn ||| 4, hfn, hb8, e45, hb4, ho⟩
                      · rw [upd_n q, upd_n q]
                        exact hR1.2.2.2.2.2.1 k hk)
                    rw [upr_k (show (46 : Nat) ≠ 41 by decide)] at hw
                    exact w_iret C hw hr hlocks dX4_reach_174 ⟨rfl, rfl, rfl, rfl, by rw [hloc, if_neg (fun q => q.elim (fun q => h79 q.1) (fun q => h107 q.2)), if_pos ⟨h121, h132⟩]; exact ⟨hRx, (hS1.up (by decide) (by decide)).up (by decide) (by decide), Or.inr ⟨rfl, by rw [upr_k (by decide), upr_k (by decide)]; exact h171, by rw [Int32.mul_comm]⟩⟩⟩
              · refine lv_aload_n hx hb dX4_reach_110 rfl (hl.at rfl) ?_
                refine lv_iload_n hx hb dX4_reach_111 rfl (hl.at rfl) ?_
                refine lv_iload_n hx hb dX4_reach_112 rfl (hl.at rfl) ?_
                refine w_callV C hN hw (c_X4_fail l sz0 D cs X _ Y i hB _ _) ⟨(Nat.le_of_ble_eq_true rfl), (Nat.le_of_ble_eq_true rfl), mw470, mw71, cy_X4_fail⟩ mw467 mw468 mw469 (w_rec hw (c0 := 40) (i0 := i) (hB 40 (by decide) (by decide)) rfl rfl) rfl hl.1.1 rfl (Nat.le_of_ble_eq_true rfl) dX4_reach_113 ⟨Nat.le_of_ble_eq_true rfl, Nat.le_of_ble_eq_true rfl⟩ (fun X' Z' Y' v k n H locs hp hw => ?_)
                obtain ⟨rfl, rfl, rfl, rfl, rfl, rfl⟩ := hp
                refine lv_iconst (v := 0) hx hb dX4_reach_116 (by decide) ?_
                exact w_iret C hw hr hlocks dX4_reach_117 ⟨rfl, rfl, rfl, rfl, RCs_fail (hloc.trans (if_pos (Or.inr ⟨h96, h107⟩))) hR1 hS1 hk0⟩
          · refine lv_aload_n hx hb dX4_reach_82 rfl (hl.at rfl) ?_
            refine w_get C hw (c0 := 40) (i0 := i) rfl inA4 7 (by decide) mw80 rfl dX4_reach_83 (hB 40 (by decide) (by decide)) rfl rfl rfl ?_
            refine lv_iload_n hx hb dX4_reach_86 rfl (hl.at rfl) ?_
            refine w_ild C hw (c0 := 46) (i0 := i) dX4_reach_87 (hB 46 (by decide) (by decide)) rfl rfl (vp_in_nI hpn (by decide)) (nI_clamp (by omega)) ?_
            rw [e46]
            refine lv_iconst (v := 2) hx hb dX4_reach_88 (by decide) ?_
            refine lv_iand hx hb dX4_reach_89 ?_
            refine lv_if_eq (tgt := 110) hx hb dX4_reach_90 (by decide) (fun h90 => ?_) (fun h90 => ?_)
            · refine lv_aload_n hx hb dX4_reach_110 rfl (hl.at rfl) ?_
              refine lv_iload_n hx hb dX4_reach_111 rfl (hl.at rfl) ?_
              refine lv_iload_n hx hb dX4_reach_112 rfl (hl.at rfl) ?_
              refine w_callV C hN hw (c_X4_fail l sz0 D cs X _ Y i hB _ _) ⟨(Nat.le_of_ble_eq_true rfl), (Nat.le_of_ble_eq_true rfl), mw470, mw71, cy_X4_fail⟩ mw467 mw468 mw469 (w_rec hw (c0 := 40) (i0 := i) (hB 40 (by decide) (by decide)) rfl rfl) rfl hl.1.1 rfl (Nat.le_of_ble_eq_true rfl) dX4_reach_113 ⟨Nat.le_of_ble_eq_true rfl, Nat.le_of_ble_eq_true rfl⟩ (fun X' Z' Y' v k n H locs hp hw => ?_)
              obtain ⟨rfl, rfl, rfl, rfl, rfl, rfl⟩ := hp
              refine lv_iconst (v := 0) hx hb dX4_reach_116 (by decide) ?_
              exact w_iret C hw hr hlocks dX4_reach_117 ⟨rfl, rfl, rfl, rfl, RCs_fail (hloc.trans (if_pos (Or.inl ⟨h79, h90⟩))) hR1 hS1 hk0⟩
            · refine lv_iload_n hx hb dX4_reach_93 rfl (hl.at rfl) ?_
              refine lv_bipush (v := 13) hx hb dX4_reach_94 (by decide) ?_
              refine lv_icmp_ne (tgt := 118) hx hb dX4_reach_96 (by decide) (fun h96 => ?_) (fun h96 => ?_)
              · refine lv_iload_n hx hb dX4_reach_118 rfl (hl.at rfl) ?_
                refine lv_bipush (v := 13) hx hb dX4_reach_119 (by decide) ?_
                refine lv_icmp_ne (tgt := 160) hx hb dX4_reach_121 (by decide) (fun h121 => ?_) (fun h121 => ?_)
                · refine lv_bipush (v := 64) hx hb dX4_reach_160 (by decide) ?_
                  refine lv_aload_n hx hb dX4_reach_162 rfl (hl.at rfl) ?_
                  refine w_get C hw (c0 := 40) (i0 := i) rfl inA4 6 (by decide) mw79 rfl dX4_reach_163 (hB 40 (by decide) (by decide)) rfl rfl rfl ?_
                  refine lv_iload_n hx hb dX4_reach_166 rfl (hl.at rfl) ?_
                  refine w_ild C hw (c0 := 45) (i0 := i) dX4_reach_167 (hB 45 (by decide) (by decide)) rfl rfl (vp_in_nI hpn (by decide)) (nI_clamp (by omega)) ?_
                  rw [e45]
                  refine lv_imul hx hb dX4_reach_168 ?_
                  refine lv_iload_n hx hb dX4_reach_169 rfl (hl.at rfl) ?_
                  refine lv_bipush (v := 63) hx hb dX4_reach_170 (by decide) ?_
                  refine lv_iand hx hb dX4_reach_172 ?_
                  refine lv_iadd hx hb dX4_reach_173 ?_
                  exact w_iret C hw hr hlocks dX4_reach_174 ⟨rfl, rfl, rfl, rfl, by rw [hloc, if_neg (fun q => q.elim (fun q => h90 q.2) (fun q => h96 q.1)), if_neg (fun q => h121 q.1)]; exact ⟨hR1, hS1, Or.inr ⟨rfl, h171, by rw [Int32.mul_comm]⟩⟩⟩
                · refine lv_aload_n hx hb dX4_reach_124 rfl (hl.at rfl) ?_
                  refine w_get C hw (c0 := 40) (i0 := i) rfl inA4 7 (by decide) mw80 rfl dX4_reach_125 (hB 40 (by decide) (by decide)) rfl rfl rfl ?_
                  refine lv_iload_n hx hb dX4_reach_128 rfl (hl.at rfl) ?_
                  refine w_ild C hw (c0 := 46) (i0 := i) dX4_reach_129 (hB 46 (by decide) (by decide)) rfl rfl (vp_in_nI hpn (by decide)) (nI_clamp (by omega)) ?_
                  rw [e46]
                  refine lv_iconst (v := 4) hx hb dX4_reach_130 (by decide) ?_
                  refine lv_iand hx hb dX4_reach_131 ?_
                  refine lv_if_ne (tgt := 160) hx hb dX4_reach_132 (by decide) (fun h132 => ?_) (fun h132 => ?_)
                  · refine lv_bipush (v := 64) hx hb dX4_reach_160 (by decide) ?_
                    refine lv_aload_n hx hb dX4_reach_162 rfl (hl.at rfl) ?_
                    refine w_get C hw (c0 := 40) (i0 := i) rfl inA4 6 (by decide) mw79 rfl dX4_reach_163 (hB 40 (by decide) (by decide)) rfl rfl rfl ?_
                    refine lv_iload_n hx hb dX4_reach_166 rfl (hl.at rfl) ?_
                    refine w_ild C hw (c0 := 45) (i0 := i) dX4_reach_167 (hB 45 (by decide) (by decide)) rfl rfl (vp_in_nI hpn (by decide)) (nI_clamp (by omega)) ?_
                    rw [e45]
                    refine lv_imul hx hb dX4_reach_168 ?_
                    refine lv_iload_n hx hb dX4_reach_169 rfl (hl.at rfl) ?_
                    refine lv_bipush (v := 63) hx hb dX4_reach_170 (by decide) ?_
                    refine lv_iand hx hb dX4_reach_172 ?_
                    refine lv_iadd hx hb dX4_reach_173 ?_
                    exact w_iret C hw hr hlocks dX4_reach_174 ⟨rfl, rfl, rfl, rfl, by rw [hloc, if_neg (fun q => q.elim (fun q => h90 q.2) (fun q => h96 q.1)), if_neg (fun q => h132 q.2)]; exact ⟨hR1, hS1, Or.inr ⟨rfl, h171, by rw [Int32.mul_comm]⟩⟩⟩
                  · refine lv_aload_n hx hb dX4_reach_135 rfl (hl.at rfl) ?_
                    refine w_get C hw (c0 := 40) (i0 := i) rfl inA4 2 (by decide) mw75 rfl dX4_reach_136 (hB 40 (by decide) (by decide)) rfl rfl rfl ?_
                    refine lv_aload_n hx hb dX4_reach_139 rfl (hl.at rfl) ?_
                    refine lv_iload_n hx hb dX4_reach_140 rfl (hl.at rfl) ?_
                    refine w_callV C hN hw (c_X4_tableWord l sz0 D cs X _ Y i hB _) ⟨(Nat.le_of_ble_eq_true rfl), (Nat.le_of_ble_eq_true rfl), mw483, mw71, cy_X4_tableWord⟩ mw480 mw481 mw482 (w_rec hw (c0 := 40) (i0 := i) (hB 40 (by decide) (by decide)) rfl rfl) rfl hl.1.1 rfl (Nat.le_of_ble_eq_true rfl) dX4_reach_141 ⟨Nat.le_of_ble_eq_true rfl, Nat.le_of_ble_eq_true rfl⟩ (fun X' Z' Y' v k n H locs hp hw => ?_)
                    obtain ⟨rfl, rfl, rfl, rfl, rfl, rfl⟩ := hp
                    rw [hR1.k (show 5 < 9 by decide), e45g]
                    refine lv_dup2_11 hx hb dX4_reach_144 rfl rfl ?_
                    refine w_ild C hw (c0 := 41) (i0 := i) dX4_reach_145 (hB 41 (by decide) (by decide)) rfl rfl (by rw [etn]; exact vp_in_nI (show tn < 4096 by omega) (by decide)) rfl ?_
                    rw [hR1.m (show (64 * (g 4 5 &&& 63) + nI pn).toNatClampNeg < 64 * F by rw [etn, nI_clamp (by omega)]; exact htn)]
                    refine lv_bipush (v := 16) hx hb dX4_reach_146 (by decide) ?_
                    refine lv_ior hx hb dX4_reach_148 ?_
                    refine w_ist C hw (c0 := 41) (i0 := i) dX4_reach_149 (hB 41 (by decide) (by decide)) rfl (fun _ => rfl) (by rw [etn]; exact vp_in_nI (show tn < 4096 by omega) (by decide)) rfl (fun H locs hw => ?_)
                    refine lv_aload_n hx hb dX4_reach_150 rfl (hl.at rfl) ?_
                    refine w_get C hw (c0 := 40) (i0 := i) rfl inA4 7 (by decide) mw80 rfl dX4_reach_151 (hB 40 (by decide) (by decide)) rfl rfl rfl ?_
                    refine lv_iload_n hx hb dX4_reach_154 rfl (hl.at rfl) ?_
                    refine lv_dup2_11 hx hb dX4_reach_155 rfl rfl ?_
                    refine w_ild C hw (c0 := 46) (i0 := i) dX4_reach_156 (hB 46 (by decide) (by decide)) rfl rfl (vp_in_nI hpn (by decide)) (nI_clamp (by omega)) ?_
                    rw [upr_k (show (46 : Nat) ≠ 41 by decide), e46]
                    refine lv_iconst (v := 4) hx hb dX4_reach_157 (by decide) ?_
                    refine lv_ior hx hb dX4_reach_158 ?_
                    refine w_ist C hw (c0 := 46) (i0 := i) dX4_reach_159 (hB 46 (by decide) (by decide)) rfl (fun _ => rfl) (vp_in_nI hpn (by decide)) (nI_clamp (by omega)) (fun H locs hw => ?_)
                    refine lv_bipush (v := 64) hx hb dX4_reach_160 (by decide) ?_
                    refine lv_aload_n hx hb dX4_reach_162 rfl (hl.at rfl) ?_
                    refine w_get C hw (c0 := 40) (i0 := i) rfl inA4 6 (by decide) mw79 rfl dX4_reach_163 (hB 40 (by decide) (by decide)) rfl rfl rfl ?_
                    refine lv_iload_n hx hb dX4_reach_166 rfl (hl.at rfl) ?_
                    refine w_ild C hw (c0 := 45) (i0 := i) dX4_reach_167 (hB 45 (by decide) (by decide)) rfl rfl (vp_in_nI hpn (by decide)) (nI_clamp (by omega)) ?_
                    rw [upr_k (show (45 : Nat) ≠ 46 by decide), upr_k (show (45 : Nat) ≠ 41 by decide), e45]
                    refine lv_imul hx hb dX4_reach_168 ?_
                    refine lv_iload_n hx hb dX4_reach_169 rfl (hl.at rfl) ?_
                    refine lv_bipush (v := 63) hx hb dX4_reach_170 (by decide) ?_
                    refine lv_iand hx hb dX4_reach_172 ?_
                    refine lv_iadd hx hb dX4_reach_173 ?_
                    have hb4 : nI bn ||| 4 = nI (bn ||| 4) := (eb_b ⟨bn, hbn⟩).2
                    have hb8 : bn ||| 4 < 8 := (eb_b ⟨bn, hbn⟩).1
                    have ho : nI (8 * fn + bn) ||| 4 = nI (8 * fn + (bn ||| 4)) := eb_o ⟨fn, hfn⟩ ⟨bn, hbn⟩
                    have hRx := BR_46 (b := upd (Z1 46 i) pn (nI bn ||| 4)) (e := upd (g1 5) pn (nI (8 * fn + bn) ||| 4)) (BR_41 (d := (64 * (g 4 5 &&& 63) + nI pn).toNatClampNeg) (x := g1 1 (64 * (g 4 5 &&& 63) + nI pn).toNatClampNeg ||| 16) hR1) (fun k hk => by
                      rw [upr_k (show (45 : Nat) ≠ 41 by decide)]
                      by_cases q : k = pn
                      · subst q
                        rw [upd_s, upd_s]
                        exact Or.inr ⟨fn, bn ||| 4, hfn, hb8, e45, hb4, ho⟩
                      · rw [upd_n q, upd_n q]
                        exact hR1.2.2.2.2.2.1 k hk)
                    rw [upr_k (show (46 : Nat) ≠ 41 by decide)] at hw
                    exact w_iret C hw hr hlocks dX4_reach_174 ⟨rfl, rfl, rfl, rfl, by rw [hloc, if_neg (fun q => q.elim (fun q => h90 q.2) (fun q => h96 q.1)), if_pos ⟨h121, h132⟩]; exact ⟨hRx, (hS1.up (by decide) (by decide)).up (by decide) (by decide), Or.inr ⟨rfl, by rw [upr_k (by decide), upr_k (by decide)]; exact h171, by rw [Int32.mul_comm]⟩⟩⟩
              · refine lv_aload_n hx hb dX4_reach_99 rfl (hl.at rfl) ?_
                refine w_get C hw (c0 := 40) (i0 := i) rfl inA4 7 (by decide) mw80 rfl dX4_reach_100 (hB 40 (by decide) (by decide)) rfl rfl rfl ?_
                refine lv_iload_n hx hb dX4_reach_103 rfl (hl.at rfl) ?_
                refine w_ild C hw (c0 := 46) (i0 := i) dX4_reach_104 (hB 46 (by decide) (by decide)) rfl rfl (vp_in_nI hpn (by decide)) (nI_clamp (by omega)) ?_
                rw [e46]
                refine lv_iconst (v := 1) hx hb dX4_reach_105 (by decide) ?_
                refine lv_iand hx hb dX4_reach_106 ?_
                refine lv_if_ne (tgt := 118) hx hb dX4_reach_107 (by decide) (fun h107 => ?_) (fun h107 => ?_)
                · refine lv_iload_n hx hb dX4_reach_118 rfl (hl.at rfl) ?_
                  refine lv_bipush (v := 13) hx hb dX4_reach_119 (by decide) ?_
                  refine lv_icmp_ne (tgt := 160) hx hb dX4_reach_121 (by decide) (fun h121 => ?_) (fun h121 => ?_)
                  · refine lv_bipush (v := 64) hx hb dX4_reach_160 (by decide) ?_
                    refine lv_aload_n hx hb dX4_reach_162 rfl (hl.at rfl) ?_
                    refine w_get C hw (c0 := 40) (i0 := i) rfl inA4 6 (by decide) mw79 rfl dX4_reach_163 (hB 40 (by decide) (by decide)) rfl rfl rfl ?_
                    refine lv_iload_n hx hb dX4_reach_166 rfl (hl.at rfl) ?_
                    refine w_ild C hw (c0 := 45) (i0 := i) dX4_reach_167 (hB 45 (by decide) (by decide)) rfl rfl (vp_in_nI hpn (by decide)) (nI_clamp (by omega)) ?_
                    rw [e45]
                    refine lv_imul hx hb dX4_reach_168 ?_
                    refine lv_iload_n hx hb dX4_reach_169 rfl (hl.at rfl) ?_
                    refine lv_bipush (v := 63) hx hb dX4_reach_170 (by decide) ?_
                    refine lv_iand hx hb dX4_reach_172 ?_
                    refine lv_iadd hx hb dX4_reach_173 ?_
                    exact w_iret C hw hr hlocks dX4_reach_174 ⟨rfl, rfl, rfl, rfl, by rw [hloc, if_neg (fun q => q.elim (fun q => h90 q.2) (fun q => h107 q.2)), if_neg (fun q => h121 q.1)]; exact ⟨hR1, hS1, Or.inr ⟨rfl, h171, by rw [Int32.mul_comm]⟩⟩⟩
                  · refine lv_aload_n hx hb dX4_reach_124 rfl (hl.at rfl) ?_
                    refine w_get C hw (c0 := 40) (i0 := i) rfl inA4 7 (by decide) mw80 rfl dX4_reach_125 (hB 40 (by decide) (by decide)) rfl rfl rfl ?_
                    refine lv_iload_n hx hb dX4_reach_128 rfl (hl.at rfl) ?_
                    refine w_ild C hw (c0 := 46) (i0 := i) dX4_reach_129 (hB 46 (by decide) (by decide)) rfl rfl (vp_in_nI hpn (by decide)) (nI_clamp (by omega)) ?_
                    rw [e46]
                    refine lv_iconst (v := 4) hx hb dX4_reach_130 (by decide) ?_
                    refine lv_iand hx hb dX4_reach_131 ?_
                    refine lv_if_ne (tgt := 160) hx hb dX4_reach_132 (by decide) (fun h132 => ?_) (fun h132 => ?_)
                    · refine lv_bipush (v := 64) hx hb dX4_reach_160 (by decide) ?_
                      refine lv_aload_n hx hb dX4_reach_162 rfl (hl.at rfl) ?_
                      refine w_get C hw (c0 := 40) (i0 := i) rfl inA4 6 (by decide) mw79 rfl dX4_reach_163 (hB 40 (by decide) (by decide)) rfl rfl rfl ?_
                      refine lv_iload_n hx hb dX4_reach_166 rfl (hl.at rfl) ?_
                      refine w_ild C hw (c0 := 45) (i0 := i) dX4_reach_167 (hB 45 (by decide) (by decide)) rfl rfl (vp_in_nI hpn (by decide)) (nI_clamp (by omega)) ?_
                      rw [e45]
                      refine lv_imul hx hb dX4_reach_168 ?_
                      refine lv_iload_n hx hb dX4_reach_169 rfl (hl.at rfl) ?_
                      refine lv_bipush (v := 63) hx hb dX4_reach_170 (by decide) ?_
                      refine lv_iand hx hb dX4_reach_172 ?_
                      refine lv_iadd hx hb dX4_reach_173 ?_
                      exact w_iret C hw hr hlocks dX4_reach_174 ⟨rfl, rfl, rfl, rfl, by rw [hloc, if_neg (fun q => q.elim (fun q => h90 q.2) (fun q => h107 q.2)), if_neg (fun q => h132 q.2)]; exact ⟨hR1, hS1, Or.inr ⟨rfl, h171, by rw [Int32.mul_comm]⟩⟩⟩
                    · refine lv_aload_n hx hb dX4_reach_135 rfl (hl.at rfl) ?_
                      refine w_get C hw (c0 := 40) (i0 := i) rfl inA4 2 (by decide) mw75 rfl dX4_reach_136 (hB 40 (by decide) (by decide)) rfl rfl rfl ?_
                      refine lv_aload_n hx hb dX4_reach_139 rfl (hl.at rfl) ?_
                      refine lv_iload_n hx hb dX4_reach_140 rfl (hl.at rfl) ?_
                      refine w_callV C hN hw (c_X4_tableWord l sz0 D cs X _ Y i hB _) ⟨(Nat.le_of_ble_eq_true rfl), (Nat.le_of_ble_eq_true rfl), mw483, mw71, cy_X4_tableWord⟩ mw480 mw481 mw482 (w_rec hw (c0 := 40) (i0 := i) (hB 40 (by decide) (by decide)) rfl rfl) rfl hl.1.1 rfl (Nat.le_of_ble_eq_true rfl) dX4_reach_141 ⟨Nat.le_of_ble_eq_true rfl, Nat.le_of_ble_eq_true rfl⟩ (fun X' Z' Y' v k n H locs hp hw => ?_)
                      obtain ⟨rfl, rfl, rfl, rfl, rfl, rfl⟩ := hp
                      rw [hR1.k (show 5 < 9 by decide), e45g]
                      refine lv_dup2_11 hx hb dX4_reach_144 rfl rfl ?_
                      refine w_ild C hw (c0 := 41) (i0 := i) dX4_reach_145 (hB 41 (by decide) (by decide)) rfl rfl (by rw [etn]; exact vp_in_nI (show tn < 4096 by omega) (by decide)) rfl ?_
                      rw [hR1.m (show (64 * (g 4 5 &&& 63) + nI pn).toNatClampNeg < 64 * F by rw [etn, nI_clamp (by omega)]; exact htn)]
                      refine lv_bipush (v := 16) hx hb dX4_reach_146 (by decide) ?_
                      refine lv_ior hx hb dX4_reach_148 ?_
                      refine w_ist C hw (c0 := 41) (i0 := i) dX4_reach_149 (hB 41 (by decide) (by decide)) rfl (fun _ => rfl) (by rw [etn]; exact vp_in_nI (show tn < 4096 by omega) (by decide)) rfl (fun H locs hw => ?_)
                      refine lv_aload_n hx hb dX4_reach_150 rfl (hl.at rfl) ?_
                      refine w_get C hw (c0 := 40) (i0 := i) rfl inA4 7 (by decide) mw80 rfl dX4_reach_151 (hB 40 (by decide) (by decide)) rfl rfl rfl ?_
                      refine lv_iload_n hx hb dX4_reach_154 rfl (hl.at rfl) ?_
                      refine lv_dup2_11 hx hb dX4_reach_155 rfl rfl ?_
                      refine w_ild C hw (c0 := 46) (i0 := i) dX4_reach_156 (hB 46 (by decide) (by decide)) rfl rfl (vp_in_nI hpn (by decide)) (nI_clamp (by omega)) ?_
                      rw [upr_k (show (46 : Nat) ≠ 41 by decide), e46]
                      refine lv_iconst (v := 4) hx hb dX4_reach_157 (by decide) ?_
                      refine lv_ior hx hb dX4_reach_158 ?_
                      refine w_ist C hw (c0 := 46) (i0 := i) dX4_reach_159 (hB 46 (by decide) (by decide)) rfl (fun _ => rfl) (vp_in_nI hpn (by decide)) (nI_clamp (by omega)) (fun H locs hw => ?_)
                      refine lv_bipush (v := 64) hx hb dX4_reach_160 (by decide) ?_
                      refine lv_aload_n hx hb dX4_reach_162 rfl (hl.at rfl) ?_
                      refine w_get C hw (c0 := 40) (i0 := i) rfl inA4 6 (by decide) mw79 rfl dX4_reach_163 (hB 40 (by decide) (by decide)) rfl rfl rfl ?_
                      refine lv_iload_n hx hb dX4_reach_166 rfl (hl.at rfl) ?_
                      refine w_ild C hw (c0 := 45) (i0 := i) dX4_reach_167 (hB 45 (by decide) (by decide)) rfl rfl (vp_in_nI hpn (by decide)) (nI_clamp (by omega)) ?_
                      rw [upr_k (show (45 : Nat) ≠ 46 by decide), upr_k (show (45 : Nat) ≠ 41 by decide), e45]
                      refine lv_imul hx hb dX4_reach_168 ?_
                      refine lv_iload_n hx hb dX4_reach_169 rfl (hl.at rfl) ?_
                      refine lv_bipush (v := 63) hx hb dX4_reach_170 (by decide) ?_
                      refine lv_iand hx hb dX4_reach_172 ?_
                      refine lv_iadd hx hb dX4_reach_173 ?_
                      have hb4 : nI bn ||| 4 = nI (bn ||| 4) := (eb_b ⟨bn, hbn⟩).2
                      have hb8 : bn ||| 4 < 8 := (eb_b ⟨bn, hbn⟩).1
                      have ho : nI (8 * fn + bn) ||| 4 = nI (8 * fn + (bn ||| 4)) := eb_o ⟨fn, hfn⟩ ⟨bn, hbn⟩
                      have hRx := BR_46 (b := upd (Z1 46 i) pn (nI bn ||| 4)) (e := upd (g1 5) pn (nI (8 * fn + bn) ||| 4)) (BR_41 (d := (64 * (g 4 5 &&& 63) + nI pn).toNatClampNeg) (x := g1 1 (64 * (g 4 5 &&& 63) + nI pn).toNatClampNeg ||| 16) hR1) (fun k hk => by
                        rw [upr_k (show (45 : Nat) ≠ 41 by decide)]
                        by_cases q : k = pn
                        · subst q
                          rw [upd_s, upd_s]
                          exact Or.inr ⟨fn, bn ||| 4, hfn, hb8, e45, hb4, ho⟩
                        · rw [upd_n q, upd_n q]
                          exact hR1.2.2.2.2.2.1 k hk)
                      rw [upr_k (show (46 : Nat) ≠ 41 by decide)] at hw
                      exact w_iret C hw hr hlocks dX4_reach_174 ⟨rfl, rfl, rfl, rfl, by rw [hloc, if_neg (fun q => q.elim (fun q => h90 q.2) (fun q => h107 q.2)), if_pos ⟨h121, h132⟩]; exact ⟨hRx, (hS1.up (by decide) (by decide)).up (by decide) (by decide), Or.inr ⟨rfl, by rw [upr_k (by decide), upr_k (by decide)]; exact h171, by rw [Int32.mul_comm]⟩⟩⟩
                · refine lv_aload_n hx hb dX4_reach_110 rfl (hl.at rfl) ?_
                  refine lv_iload_n hx hb dX4_reach_111 rfl (hl.at rfl) ?_
                  refine lv_iload_n hx hb dX4_reach_112 rfl (hl.at rfl) ?_
                  refine w_callV C hN hw (c_X4_fail l sz0 D cs X _ Y i hB _ _) ⟨(Nat.le_of_ble_eq_true rfl), (Nat.le_of_ble_eq_true rfl), mw470, mw71, cy_X4_fail⟩ mw467 mw468 mw469 (w_rec hw (c0 := 40) (i0 := i) (hB 40 (by decide) (by decide)) rfl rfl) rfl hl.1.1 rfl (Nat.le_of_ble_eq_true rfl) dX4_reach_113 ⟨Nat.le_of_ble_eq_true rfl, Nat.le_of_ble_eq_true rfl⟩ (fun X' Z' Y' v k n H locs hp hw => ?_)
                  obtain ⟨rfl, rfl, rfl, rfl, rfl, rfl⟩ := hp
                  refine lv_iconst (v := 0) hx hb dX4_reach_116 (by decide) ?_
                  exact w_iret C hw hr hlocks dX4_reach_117 ⟨rfl, rfl, rfl, rfl, RCs_fail (hloc.trans (if_pos (Or.inr ⟨h96, h107⟩))) hR1 hS1 hk0⟩
        refine lv_aload_n hx hb dX4_reach_50 rfl (hl.at rfl) ?_
        refine w_get C hw (c0 := 40) (i0 := i) rfl inA4 6 (by decide) mw79 rfl dX4_reach_51 (hB 40 (by decide) (by decide)) rfl rfl rfl ?_
        refine lv_iload_n hx hb dX4_reach_54 rfl (hl.at rfl) ?_
        refine w_ild C hw (c0 := 45) (i0 := i) dX4_reach_55 (hB 45 (by decide) (by decide)) rfl rfl (vp_in_nI hpn (by decide)) (nI_clamp (by omega)) ?_
        refine lv_if_ge (tgt := 66) hx hb dX4_reach_56 (by decide) (fun h56 => ?_) (fun h56 => ?_)
        · rcases hR.2.2.2.2.2.1 pn hpn with ⟨q, -⟩ | ⟨fn, bn, hfn, hbn, e45, e46, e5p⟩
          · exact absurd q (Int32.not_lt.mpr h56)
          · have hne : ¬ g 5 pn = -1 := by rw [e5p]; exact nI_ne_m1 (by omega)
            obtain ⟨-, -, -, -, htw⟩ := (hC pn hpn).resolve_left hne
            refine lv_aload_n hx hb dX4_reach_66 rfl (hl.at rfl) ?_
            refine w_get C hw (c0 := 40) (i0 := i) rfl inA4 17 (by decide) mw457 rfl dX4_reach_67 (hB 40 (by decide) (by decide)) rfl rfl rfl ?_
            rw [h17]
            refine lv_if_le (tgt := 75) hx hb dX4_reach_70 (by decide) (fun h70 => ?_) (fun h70 => ?_)
            · exact tail Z g fn bn _ _ _ hl hfn hbn hR SB.refl h17 e45 e46 e5p rfl htw (by unfold locS; rw [if_neg (fun q => q h6), if_neg ca, epn, nI_clamp (show pn < 2 ^ 31 by omega), if_neg hne]) hw
            · exact absurd (by decide : (0 : Int32) ≤ 0) h70
        · rcases hR.2.2.2.2.2.1 pn hpn with ⟨-, hm1⟩ | ⟨fn, bn, hfn, hbn, e45, e46, e5p⟩
          · refine lv_aload_n hx hb dX4_reach_59 rfl (hl.at rfl) ?_
            refine lv_iload_n hx hb dX4_reach_60 rfl (hl.at rfl) ?_
            refine lv_iload_n hx hb dX4_reach_61 rfl (hl.at rfl) ?_
            refine lv_iload_n hx hb dX4_reach_62 rfl (hl.at rfl) ?_
            refine w_callV C hN hw (c_X4_fill l sz0 D cs X _ Y i hB F g hF hR pn hpn a kd) ⟨(Nat.le_of_ble_eq_true rfl), (Nat.le_of_ble_eq_true rfl), mw479, mw71, cy_X4_fill⟩ mw476 mw477 mw478 (w_rec hw (c0 := 40) (i0 := i) (hB 40 (by decide) (by decide)) rfl rfl) rfl hl.1.1 rfl (Nat.le_of_ble_eq_true rfl) dX4_reach_63 ⟨Nat.le_of_ble_eq_true rfl, Nat.le_of_ble_eq_true rfl⟩ (fun X' Z' Y' v k n H locs hp hw => ?_)
            obtain ⟨rfl, rfl, rfl, rfl, rfl, hp⟩ := hp
            rcases hp with ⟨hc, rfl⟩ | ⟨hc, hc2, rfl⟩ | ⟨hc, hc2, rfl⟩
            · refine lv_aload_n hx hb dX4_reach_66 rfl (hl.at rfl) ?_
              refine w_get C hw (c0 := 40) (i0 := i) rfl inA4 17 (by decide) mw457 rfl dX4_reach_67 (hB 40 (by decide) (by decide)) rfl rfl rfl ?_
              rw [upr_s, upd_n (show (17 : Nat) ≠ 18 by decide), upd_s]
              refine lv_if_le (tgt := 75) hx hb dX4_reach_70 (by decide) (fun h70 => ?_) (fun h70 => ?_)
              · exact absurd h70 (show ¬ (5 : Int32) ≤ 0 by decide)
              · refine lv_iconst (v := 0) hx hb dX4_reach_73 (by decide) ?_
                exact w_iret C hw hr hlocks dX4_reach_74 ⟨rfl, rfl, rfl, rfl, RCs_fail (by unfold locS; rw [if_neg (fun q => q h6), if_neg ca, epn, nI_clamp (show pn < 2 ^ 31 by omega), if_pos hm1, if_pos hc]) hR SB.refl (show ¬ (5 : Int32) = 0 by decide)⟩
            · refine lv_aload_n hx hb dX4_reach_66 rfl (hl.at rfl) ?_
              refine w_get C hw (c0 := 40) (i0 := i) rfl inA4 17 (by decide) mw457 rfl dX4_reach_67 (hB 40 (by decide) (by decide)) rfl rfl rfl ?_
              rw [upr_s, upd_n (show (17 : Nat) ≠ 18 by decide), upd_s]
              refine lv_if_le (tgt := 75) hx hb dX4_reach_70 (by decide) (fun h70 => ?_) (fun h70 => ?_)
              · exact absurd h70 hkp
              · refine lv_iconst (v := 0) hx hb dX4_reach_73 (by decide) ?_
                exact w_iret C hw hr hlocks dX4_reach_74 ⟨rfl, rfl, rfl, rfl, RCs_fail (by unfold locS; rw [if_neg (fun q => q h6), if_neg ca, epn, nI_clamp (show pn < 2 ^ 31 by omega), if_pos hm1, if_neg hc, if_pos hc2]) hR SB.refl hk0⟩
            · refine lv_aload_n hx hb dX4_reach_66 rfl (hl.at rfl) ?_
              refine w_get C hw (c0 := 40) (i0 := i) rfl inA4 17 (by decide) mw457 rfl dX4_reach_67 (hB 40 (by decide) (by decide)) rfl rfl rfl ?_
              rw [upr_k (by decide), upr_k (by decide), upr_k (by decide), h17]
              refine lv_if_le (tgt := 75) hx hb dX4_reach_70 (by decide) (fun h70 => ?_) (fun h70 => ?_)
              · obtain ⟨fn, bn, hfn, hbn, ef, eb, ee⟩ := ent_fb (g 1 (64 * (g 4 5 &&& 63) + nI pn).toNatClampNeg)
                rw [ef, eb] at hw
                have hRx := BR_c (f := upd (Z 45 i) pn (nI fn)) (b := upd (Z 46 i) pn (nI bn)) (e := upd (g 5) pn (nI (8 * fn + bn))) (BR_41 (d := (64 * (g 4 5 &&& 63) + nI pn).toNatClampNeg) (x := g 1 (64 * (g 4 5 &&& 63) + nI pn).toNatClampNeg ||| 8) hR) (fun k hk => by
                  by_cases q : k = pn
                  · subst q
                    rw [upd_s, upd_s, upd_s]
                    exact Or.inr ⟨fn, bn, hfn, hbn, rfl, rfl, rfl⟩
                  · rw [upd_n q, upd_n q, upd_n q]
                    exact hR.2.2.2.2.2.1 k hk)
                exact tail _ (gu (gu g 1 (64 * (g 4 5 &&& 63) + nI pn).toNatClampNeg (g 1 (64 * (g 4 5 &&& 63) + nI pn).toNatClampNeg ||| 8)) 5 pn (nI (8 * fn + bn))) fn bn _ _ _ hl hfn hbn hRx (((SB.refl.up (by decide) (by decide)).up (by decide) (by decide)).up (by decide) (by decide)) (by rw [upr_k (by decide), upr_k (by decide), upr_k (by decide)]; exact h17) (by rw [upr_k (by decide), upr_s, upd_s]) (by rw [upr_s, upd_s]) (by rw [gu_s, upd_s]) (by rw [gu_o (by decide), gu_o (by decide)]) hc (by unfold locS; rw [if_neg (fun q => q h6), if_neg ca, epn, nI_clamp (show pn < 2 ^ 31 by omega), if_pos hm1, if_neg hc, if_neg hc2, gu_s, upd_s, ee]) hw
              · exact absurd (by decide : (0 : Int32) ≤ 0) h70
          · exact absurd h56 (by rw [e45]; exact fun q => q (nI_pos' (by omega)))
      · exact absurd h34 (by decide)
  · refine lv_aload_n hx hb dX4_reach_9 rfl (hl.at rfl) ?_
    refine lv_iload_n hx hb dX4_reach_10 rfl (hl.at rfl) ?_
    refine w_callV C hN hw (c_X4_isMemory l sz0 D cs X _ Y i hB _) ⟨(Nat.le_of_ble_eq_true rfl), (Nat.le_of_ble_eq_true rfl), mw247, mw71, cy_X4_isMemory⟩ mw475 mw245 mw246 (w_rec hw (c0 := 40) (i0 := i) (hB 40 (by decide) (by decide)) rfl rfl) rfl hl.1.1 rfl (Nat.le_of_ble_eq_true rfl) dX4_reach_11 ⟨Nat.le_of_ble_eq_true rfl, Nat.le_of_ble_eq_true rfl⟩ (fun X' Z' Y' v k n H locs hp hw => ?_)
    obtain ⟨rfl, rfl, rfl, rfl, rfl, rfl⟩ := hp
    rw [e0, bwv_has hF]
    refine lv_if_eq (tgt := 19) hx hb dX4_reach_14 (by decide) (fun h14 => ?_) (fun h14 => ?_)
    · refine lv_aload_n hx hb dX4_reach_19 rfl (hl.at rfl) ?_
      refine lv_iconst (v := 5) hx hb dX4_reach_20 (by decide) ?_
      refine lv_iload_n hx hb dX4_reach_21 rfl (hl.at rfl) ?_
      refine w_callV C hN hw (c_X4_fail l sz0 D cs X _ Y i hB _ _) ⟨(Nat.le_of_ble_eq_true rfl), (Nat.le_of_ble_eq_true rfl), mw470, mw71, cy_X4_fail⟩ mw467 mw468 mw469 (w_rec hw (c0 := 40) (i0 := i) (hB 40 (by decide) (by decide)) rfl rfl) rfl hl.1.1 rfl (Nat.le_of_ble_eq_true rfl) dX4_reach_22 ⟨Nat.le_of_ble_eq_true rfl, Nat.le_of_ble_eq_true rfl⟩ (fun X' Z' Y' v k n H locs hp hw => ?_)
      obtain ⟨rfl, rfl, rfl, rfl, rfl, rfl⟩ := hp
      refine lv_iconst (v := 0) hx hb dX4_reach_25 (by decide) ?_
      exact w_iret C hw hr hlocks dX4_reach_26 ⟨rfl, rfl, rfl, rfl, RCs_fail (by unfold locS; rw [if_pos h6, if_pos h14]) hR SB.refl (show ¬ (5 : Int32) = 0 by decide)⟩
    · refine lv_iload_n hx hb dX4_reach_17 rfl (hl.at rfl) ?_
      exact w_iret C hw hr hlocks dX4_reach_18 ⟨rfl, rfl, rfl, rfl, by unfold locS; rw [if_pos h6, if_neg h14]; exact ⟨hR, SB.refl, Or.inr ⟨rfl, h17, rfl⟩⟩⟩
