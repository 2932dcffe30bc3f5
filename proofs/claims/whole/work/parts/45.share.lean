def ssZ (Z : ZT) (i j t : Nat) (r : Nat → Int32) : ZT := upr (upr Z 21 j (fun k => if k < t then Z 21 i k else Z 21 j k)) 7 0 r
theorem ssZ_21 {Z : ZT} {i j t : Nat} {r : Nat → Int32} : ssZ Z i j t r 21 j = (fun k => if k < t then Z 21 i k else Z 21 j k) := by unfold ssZ; rw [upr_k (by decide), upr_s]
theorem ssZ_7 {Z : ZT} {i j t : Nat} {r : Nat → Int32} : ssZ Z i j t r 7 0 = r := by unfold ssZ; rw [upr_s]
theorem ssZ_o {Z : ZT} {i j t c b : Nat} {r : Nat → Int32} (h7 : ¬ (c = 7 ∧ b = 0)) (h21 : ¬ (c = 21 ∧ b = j)) : ssZ Z i j t r c b = Z c b := by unfold ssZ; rw [upr_n h7, upr_n h21]

set_option maxHeartbeats 4000000 in
set_option maxRecDepth 100000 in
theorem c_X1_shareSheets (l : Launch) (sz0 : Nat) (D : va_G) (cs : Nat → ClassId) (X : Sh) (Z : ZT) (Y : va_W) (hX : HXI X) (i j : Nat) (hij : i ≠ j) (hG : GI X i) (hG2 : GI X j) (F : Nat) (hF6 : Z 20 i 6 = nI F) (hF : F ≤ 64) (hsv : ∀ k, k < F → ∃ s, s < 513 ∧ Z 21 i k = nI s) : Ctr l yX1_shareSheets (wsM yX1_shareSheets cX1_shareSheets 5 none) ({ frames := 1, cells := 0, slots := 0, locals := 21 } : Room) sz0 D cs [.ref (X.1 2 0), .ref (X.1 20 i), .ref (X.1 20 j)] X Z Y (Pz X Y (fun Z' v => v = none ∧ ∃ r, (∀ s, s < 513 → r s = Z 7 0 s + nI (sumN F (fun k => use1 Z i k s))) ∧ Z' = ssZ Z i j F r)) := by
  refine Ctr.ofW (by decide +kernel) (by intro v hv; simp at hv; rcases hv with rfl | rfl | rfl <;> rfl) (Nat.le_of_ble_eq_true rfl) ?_
  intro p e s m below meth c ls C hr hlocks hname hl hN hw
  obtain ⟨hx, hb, hml, hown, hts⟩ := id C
  refine lv_iconst (v := 0) hx hb dX1_shareSheets_0 (by decide) ?_
  refine w_istore_n hx hb dX1_shareSheets_1 rfl hl (Nat.le_of_ble_eq_true rfl) (fun ls hl => ?_)
  have loop : ∀ (d t : Nat), t + d = F → ∀ (r : Nat → Int32) (H : Heap) (locs : List Loc) (ls : Array Slot) (sa : Option Value), lo ls [some (.ref (X.1 2 0)), some (.ref (X.1 20 i)), some (.ref (X.1 20 j)), some (.int (nI t)), sa] → (∀ s, s < 513 → r s = Z 7 0 s + nI (sumN t (fun k => use1 Z i k s))) → Wd sz0 D cs s X (ssZ Z i j t r) Y H locs → W p l e ({ frames := 1, cells := 0, slots := 0, locals := 21 } : Room) s m ([.ref (X.1 2 0), .ref (X.1 20 i), .ref (X.1 20 j)] : List Value).toArray below meth c H locs 0 0 (xQ below (CQ sz0 D cs (Pz X Y (fun Z' v => v = none ∧ ∃ r, (∀ s, s < 513 → r s = Z 7 0 s + nI (sumN F (fun k => use1 Z i k s))) ∧ Z' = ssZ Z i j F r))) ([.ref (X.1 2 0), .ref (X.1 20 i), .ref (X.1 20 j)] : List Value).toArray s (Asz sz0)) (F0 m 2 ls []) := by
    intro d
    induction d with
    | zero =>
      intro t htd r H locs ls sa hl hr7 hw
      refine lv_iload_n hx hb dX1_shareSheets_2 rfl (hl.at rfl) ?_
      refine lv_aload_n hx hb dX1_shareSheets_3 rfl (hl.at rfl) ?_
      refine w_getN C hN hw (c0 := 20) (i0 := i) rfl inA0 6 (by decide) mw647 rfl dX1_shareSheets_4 (hG 20 (by decide) (by decide)) rfl rfl rfl ?_
      refine lv_topi (fun y ey => ?_)
      obtain rfl : y = nI F := ey.trans (by rw [ssZ_o (by omega) (by omega)]; exact hF6)
      refine lv_icmp_ge (tgt := 58) hx hb dX1_shareSheets_7 (by decide) (fun h7 => ?_) (fun h7 => ?_)
      · have : t = F := by omega
        subst this
        exact w_vret C hw hr hlocks dX1_shareSheets_58 ⟨rfl, rfl, rfl, rfl, rfl, r, hr7, rfl⟩
      · exact absurd (nI_le (show F ≤ t by omega) (by omega)) h7
    | succ d ih =>
      intro t htd r H locs ls sa hl hr7 hw
      refine lv_iload_n hx hb dX1_shareSheets_2 rfl (hl.at rfl) ?_
      refine lv_aload_n hx hb dX1_shareSheets_3 rfl (hl.at rfl) ?_
      refine w_getN C hN hw (c0 := 20) (i0 := i) rfl inA0 6 (by decide) mw647 rfl dX1_shareSheets_4 (hG 20 (by decide) (by decide)) rfl rfl rfl ?_
      refine lv_topi (fun y ey => ?_)
      obtain rfl : y = nI F := ey.trans (by rw [ssZ_o (by omega) (by omega)]; exact hF6)
      refine lv_icmp_ge (tgt := 58) hx hb dX1_shareSheets_7 (by decide) (fun h7 => ?_) (fun h7 => ?_)
      · exact absurd h7 (nI_ge (show t < F by omega) (by omega))
      · refine lv_iload_n hx hb dX1_shareSheets_10 rfl (hl.at rfl) ?_
        refine lv_bipush (v := 64) hx hb dX1_shareSheets_11 (by decide) ?_
        refine lv_icmp_ge (tgt := 58) hx hb dX1_shareSheets_13 (by decide) (fun h13 => ?_) (fun h13 => ?_)
        · exact absurd h13 (nI_ge (show t < 64 by omega) (by decide))
        · obtain ⟨s0, hs0, e21⟩ := hsv t (by omega)
          refine lv_aload_n hx hb dX1_shareSheets_16 rfl (hl.at rfl) ?_
          refine w_getN C hN hw (c0 := 20) (i0 := i) rfl inA0 7 (by decide) mw649 rfl dX1_shareSheets_17 (hG 20 (by decide) (by decide)) rfl rfl rfl ?_
          refine lv_iload_n hx hb dX1_shareSheets_20 rfl (hl.at rfl) ?_
          refine w_ild C hw (c0 := 21) (i0 := i) dX1_shareSheets_21 (hG 21 (by decide) (by decide)) rfl rfl (vp_in_nI (show t < 64 by omega) (by omega)) (nI_clamp (by omega)) ?_
          rw [ssZ_o (by omega) (by omega), e21]
          refine w_istore hx hb dX1_shareSheets_22 hl (Nat.le_of_ble_eq_true rfl) (fun ls hl => ?_)
          refine lv_aload_n hx hb dX1_shareSheets_24 rfl (hl.at rfl) ?_
          refine w_getN C hN hw (c0 := 20) (i0 := j) rfl inA0 7 (by decide) mw649 rfl dX1_shareSheets_25 (hG2 20 (by decide) (by decide)) rfl rfl rfl ?_
          refine lv_iload_n hx hb dX1_shareSheets_28 rfl (hl.at rfl) ?_
          refine lv_iload hx hb dX1_shareSheets_29 (hl.at rfl) ?_
          refine w_ist C hw (c0 := 21) (i0 := j) dX1_shareSheets_31 (hG2 21 (by decide) (by decide)) rfl (fun _ => rfl) (vp_in_nI (show t < 64 by omega) (by omega)) (nI_clamp (by omega)) (fun H locs hw => ?_)
          refine lv_aload_n hx hb dX1_shareSheets_32 rfl (hl.at rfl) ?_
          refine lv_iload hx hb dX1_shareSheets_33 (hl.at rfl) ?_
          refine w_callV C hN hw (c_X1_isSheet l sz0 D cs X _ Y _) ⟨(Nat.le_of_ble_eq_true rfl), (Nat.le_of_ble_eq_true rfl), mw202, mw15, cy_X1_isSheet⟩ mw199 mw200 mw201 (w_rec hw (c0 := 2) (i0 := 0) (hX 2 (by decide)) rfl rfl) rfl hl.1.1 rfl (Nat.le_of_ble_eq_true rfl) dX1_shareSheets_35 ⟨Nat.le_of_ble_eq_true rfl, Nat.le_of_ble_eq_true rfl⟩ (fun X' Z' Y' v k n H locs hp hw => ?_)
          obtain ⟨rfl, rfl, rfl, rfl, rfl, rfl⟩ := hp
          rw [isShv_nI hs0]
          refine lv_if_eq (tgt := 52) hx hb dX1_shareSheets_38 (by decide) (fun h38 => ?_) (fun h38 => ?_)
          · exact absurd h38 (by decide)
          · refine lv_aload_n hx hb dX1_shareSheets_41 rfl (hl.at rfl) ?_
            refine w_get C hw (c0 := 2) (i0 := 0) rfl inA1 8 (by decide) mw32 rfl dX1_shareSheets_42 (hX 2 (by decide)) rfl rfl rfl ?_
            refine lv_iload hx hb dX1_shareSheets_45 (hl.at rfl) ?_
            refine lv_dup2_11 hx hb dX1_shareSheets_47 rfl rfl ?_
            refine w_ild C hw (c0 := 7) (i0 := 0) dX1_shareSheets_48 (hX 7 (by decide)) rfl rfl (vp_in_nI hs0 (by omega)) (nI_clamp (by omega)) ?_
            refine lv_iconst (v := 1) hx hb dX1_shareSheets_49 (by decide) ?_
            refine lv_iadd hx hb dX1_shareSheets_50 ?_
            refine w_ist C hw (c0 := 7) (i0 := 0) dX1_shareSheets_51 (hX 7 (by decide)) rfl (fun _ => rfl) (vp_in_nI hs0 (by omega)) (nI_clamp (by omega)) (fun H locs hw => ?_)
            refine w_iinc hx hb dX1_shareSheets_52 hl rfl rfl (fun ls hl => ?_)
            refine lv_goto (tgt := 2) hx hb dX1_shareSheets_55 (by decide) ?_
            rw [upr_k (show (7 : Nat) ≠ 21 by decide), ssZ_7, ssZ_21] at hw
            refine ih (t + 1) (by omega) (upd r s0 (r s0 + 1)) H locs ls _ (by rw [← nI_1]; exact hl) (fun s hs => ?_) ?_
            · simp only [sumN]
              by_cases q : s = s0
              · subst q
                have hu : use1 Z i t s = 1 := by unfold use1; rw [if_pos e21]
                rw [upd_s, hr7 s hs, hu, ← nI_1, Int32.add_assoc]
              · have hu : use1 Z i t s = 0 := by unfold use1; rw [e21, if_neg (fun p => q (nI_inj (by omega) (by omega) p).symm)]
                rw [upd_n q, hr7 s hs, hu, Nat.add_zero]
            · have e1 : upr (upr (ssZ Z i j t r) 21 j (upd (fun k => if k < t then Z 21 i k else Z 21 j k) t (nI s0))) 7 0 (upd r s0 (r s0 + 1)) = ssZ Z i j (t + 1) (upd r s0 (r s0 + 1)) := by
                unfold ssZ
                rw [upr_cm (show (7 : Nat) ≠ 21 by decide), upr_uu, upr_uu]
                congr 2
                funext k
                by_cases q : k = t
                · subst q; rw [upd_s, if_pos (by omega), e21]
                · rw [upd_n q]
                  by_cases q2 : k < t
                  · rw [if_pos q2, if_pos (by omega)]
                  · rw [if_neg q2, if_neg (by omega)]
              rw [e1] at hw
              exact hw
  refine loop F 0 (by omega) (Z 7 0) _ _ _ _ hl (fun s _ => by simp only [sumN]; rw [nI_0]; exact (Int32.add_zero _).symm) ?_
  have e0 : ssZ Z i j 0 (Z 7 0) = Z := by
    unfold ssZ
    have u1 : (fun k => if k < 0 then Z 21 i k else Z 21 j k) = Z 21 j := by funext k; rw [if_neg (by omega)]
    rw [u1, upr_id, upr_id]
  rw [e0]
  exact hw

/-- a new host -/
def RNs (Z : ZT) (a : Int32) (Z' : ZT) : Prop :=
  Z' 2 0 0 = a ∧ Z' 2 0 1 = 0 ∧ Z' 2 0 2 = 0 ∧ Z' 2 0 3 = 512 ∧ (∀ f, f < 256 → Z' 5 0 f = -1) ∧ Z' 7 0 0 = 1 ∧ (∀ s, 0 < s → s < 513 → Z' 7 0 s = 0) ∧ (∀ s, s < 513 → Z' 8 0 s = -1) ∧ (∀ s, s < 513 → Z' 9 0 s = 0) ∧ (∀ j, j < 512 → Z' 10 0 j = nI (512 - j)) ∧ (∀ c i, ¬ (i = 0 ∧ (c = 2 ∨ c = 5 ∨ c = 7 ∨ c = 8 ∨ c = 9 ∨ c = 10)) → Z' c i = Z c i)

set_option maxHeartbeats 4000000 in
set_option maxRecDepth 100000 in
theorem c_X1_renew (l : Launch) (sz0 : Nat) (D : va_G) (cs : Nat → ClassId) (X : Sh) (Z : ZT) (Y : va_W) (hX : HXI X) (a : Int32) : Ctr l yX1_renew (wsM yX1_renew cX1_renew 3 none) ({ frames := 1, cells := 0, slots := 0, locals := 23 } : Room) sz0 D cs [.ref (X.1 2 0), .int a] X Z Y (Pz X Y (fun Z' v => v = none ∧ RNs Z a Z')) := by
  refine Ctr.ofW (by decide +kernel) (by intro v hv; simp at hv; rcases hv with rfl | rfl <;> rfl) (Nat.le_of_ble_eq_true rfl) ?_
  intro p e s m below meth c ls C hr hlocks hname hl hN hw
  obtain ⟨hx, hb, hml, hown, hts⟩ := id C
  refine lv_aload_n hx hb dX1_renew_0 rfl (hl.at rfl) ?_
  refine lv_iload_n hx hb dX1_renew_1 rfl (hl.at rfl) ?_
  refine w_put C hw (c0 := 2) (i0 := 0) rfl inA1 tyX1_ok nmX1 0 (by decide) mw54 rfl rfl rfl dX1_renew_2 (hX 2 (by decide)) rfl rfl rfl rfl (Nat.le_of_ble_eq_true rfl) rfl (fun H locs hw => ?_)
  refine lv_aload_n hx hb dX1_renew_5 rfl (hl.at rfl) ?_
  refine lv_iconst (v := 0) hx hb dX1_renew_6 (by decide) ?_
  refine w_put C hw (c0 := 2) (i0 := 0) rfl inA1 tyX1_ok nmX1 1 (by decide) mw55 rfl rfl rfl dX1_renew_7 (hX 2 (by decide)) rfl rfl rfl rfl (Nat.le_of_ble_eq_true rfl) rfl (fun H locs hw => ?_)
  refine lv_aload_n hx hb dX1_renew_10 rfl (hl.at rfl) ?_
  refine lv_iconst (v := 0) hx hb dX1_renew_11 (by decide) ?_
  refine w_put C hw (c0 := 2) (i0 := 0) rfl inA1 tyX1_ok nmX1 2 (by decide) mw56 rfl rfl rfl dX1_renew_12 (hX 2 (by decide)) rfl rfl rfl rfl (Nat.le_of_ble_eq_true rfl) rfl (fun H locs hw => ?_)
  refine lv_aload_n hx hb dX1_renew_15 rfl (hl.at rfl) ?_
  refine w_get C hw (c0 := 2) (i0 := 0) rfl inA1 6 (by decide) mw29 rfl dX1_renew_16 (hX 2 (by decide)) rfl rfl rfl ?_
  refine lv_iconst (v := -1) hx hb dX1_renew_19 (by decide) ?_
  refine w_callS C hN hw (c_fill l sz0 D cs X _ Y 5 0 256 (-1) (hX 5 (by decide)) (fun _ => rfl) (by decide)) ⟨(Nat.le_of_ble_eq_true rfl), (Nat.le_of_ble_eq_true rfl), mw61, mw60, cy_J7_fill_53178⟩ mw58 mw59 rfl hl.1.1 rfl (Nat.le_of_ble_eq_true rfl) dX1_renew_20 ⟨Nat.le_of_ble_eq_true rfl, Nat.le_of_ble_eq_true rfl⟩ (fun X' Z' Y' v k n H locs hp hw => ?_)
  obtain ⟨rfl, rfl, rfl, rfl, rfl, rfl⟩ := hp
  refine lv_aload_n hx hb dX1_renew_23 rfl (hl.at rfl) ?_
  refine w_get C hw (c0 := 2) (i0 := 0) rfl inA1 8 (by decide) mw32 rfl dX1_renew_24 (hX 2 (by decide)) rfl rfl rfl ?_
  refine lv_iconst (v := 0) hx hb dX1_renew_27 (by decide) ?_
  refine w_callS C hN hw (c_fill l sz0 D cs X _ Y 7 0 513 0 (hX 7 (by decide)) (fun _ => rfl) (by decide)) ⟨(Nat.le_of_ble_eq_true rfl), (Nat.le_of_ble_eq_true rfl), mw61, mw60, cy_J7_fill_53178⟩ mw58 mw59 rfl hl.1.1 rfl (Nat.le_of_ble_eq_true rfl) dX1_renew_28 ⟨Nat.le_of_ble_eq_true rfl, Nat.le_of_ble_eq_true rfl⟩ (fun X' Z' Y' v k n H locs hp hw => ?_)
  obtain ⟨rfl, rfl, rfl, rfl, rfl, rfl⟩ := hp
  refine lv_aload_n hx hb dX1_renew_31 rfl (hl.at rfl) ?_
  refine w_get C hw (c0 := 2) (i0 := 0) rfl inA1 9 (by decide) mw33 rfl dX1_renew_32 (hX 2 (by decide)) rfl rfl rfl ?_
  refine lv_iconst (v := -1) hx hb dX1_renew_35 (by decide) ?_
  refine w_callS C hN hw (c_fill l sz0 D cs X _ Y 8 0 513 (-1) (hX 8 (by decide)) (fun _ => rfl) (by decide)) ⟨(Nat.le_of_ble_eq_true rfl), (Nat.le_of_ble_eq_true rfl), mw61, mw60, cy_J7_fill_53178⟩ mw58 mw59 rfl hl.1.1 rfl (Nat.le_of_ble_eq_true rfl) dX1_renew_36 ⟨Nat.le_of_ble_eq_true rfl, Nat.le_of_ble_eq_true rfl⟩ (fun X' Z' Y' v k n H locs hp hw => ?_)
  obtain ⟨rfl, rfl, rfl, rfl, rfl, rfl⟩ := hp
  refine lv_iconst (v := 0) hx hb dX1_renew_39 (by decide) ?_
  refine w_istore_n hx hb dX1_renew_40 rfl hl (Nat.le_of_ble_eq_true rfl) (fun ls hl => ?_)
  have loop2 : ∀ (d t : Nat), t + d = 512 → ∀ (Z1 : ZT) (H : Heap) (locs : List Loc) (ls : Array Slot), lo ls [some (.ref (X.1 2 0)), some (.int a), some (.int (nI d))] → (Z1 2 0 0 = a ∧ Z1 2 0 1 = 0 ∧ Z1 2 0 2 = 0 ∧ Z1 2 0 3 = nI t ∧ (∀ f, f < 256 → Z1 5 0 f = -1) ∧ Z1 7 0 0 = 1 ∧ (∀ s, 0 < s → s < 513 → Z1 7 0 s = 0) ∧ (∀ s, s < 513 → Z1 8 0 s = -1) ∧ (∀ s, s < 513 → Z1 9 0 s = 0) ∧ (∀ j, j < t → Z1 10 0 j = nI (512 - j)) ∧ (∀ c i, ¬ (i = 0 ∧ (c = 2 ∨ c = 5 ∨ c = 7 ∨ c = 8 ∨ c = 9 ∨ c = 10)) → Z1 c i = Z c i)) → Wd sz0 D cs s X Z1 Y H locs → W p l e ({ frames := 1, cells := 0, slots := 0, locals := 23 } : Room) s m ([.ref (X.1 2 0), .int a] : List Value).toArray below meth c H locs 0 0 (xQ below (CQ sz0 D cs (Pz X Y (fun Z' v => v = none ∧ RNs Z a Z'))) ([.ref (X.1 2 0), .int a] : List Value).toArray s (Asz sz0)) (F0 m 77 ls []) := by
    intro d
    induction d with
    | zero =>
      intro t htd Z1 H locs ls hl hz hw
      have ht : t = 512 := by omega
      subst ht
      refine lv_iload_n hx hb dX1_renew_77 rfl (hl.at rfl) ?_
      refine lv_if_le (tgt := 107) hx hb dX1_renew_78 (by decide) (fun h78 => ?_) (fun h78 => ?_)
      · exact w_vret C hw hr hlocks dX1_renew_107 ⟨rfl, rfl, rfl, rfl, rfl, hz⟩
      · exact absurd (show nI 0 ≤ 0 by decide) h78
    | succ d ih =>
      intro t htd Z1 H locs ls hl hz hw
      obtain ⟨z0, z1, z2, z3, z5, z7, z7s, z8, z9, z10, zo⟩ := hz
      refine lv_iload_n hx hb dX1_renew_77 rfl (hl.at rfl) ?_
      refine lv_if_le (tgt := 107) hx hb dX1_renew_78 (by decide) (fun h78 => ?_) (fun h78 => ?_)
      · exact absurd h78 (nI_nle (by omega) (by omega))
      · refine lv_aload_n hx hb dX1_renew_81 rfl (hl.at rfl) ?_
        refine w_get C hw (c0 := 2) (i0 := 0) rfl inA1 11 (by decide) mw35 rfl dX1_renew_82 (hX 2 (by decide)) rfl rfl rfl ?_
        refine lv_aload_n hx hb dX1_renew_85 rfl (hl.at rfl) ?_
        refine w_get C hw (c0 := 2) (i0 := 0) rfl inA1 3 (by decide) mw57 rfl dX1_renew_86 (hX 2 (by decide)) rfl rfl rfl ?_
        refine lv_topi (fun y ey => ?_)
        obtain rfl : y = nI t := ey.trans z3
        refine lv_iload_n hx hb dX1_renew_89 rfl (hl.at rfl) ?_
        refine w_ist C hw (c0 := 10) (i0 := 0) dX1_renew_90 (hX 10 (by decide)) rfl (fun _ => rfl) (vp_in_nI (show t < 513 by omega) (by omega)) (nI_clamp (by omega)) (fun H locs hw => ?_)
        refine lv_aload_n hx hb dX1_renew_91 rfl (hl.at rfl) ?_
        refine lv_dup hx hb dX1_renew_92 rfl ?_
        refine w_get C hw (c0 := 2) (i0 := 0) rfl inA1 3 (by decide) mw57 rfl dX1_renew_93 (hX 2 (by decide)) rfl rfl rfl ?_
        refine lv_topi (fun y ey => ?_)
        obtain rfl : y = nI t := ey.trans (by rw [upr_k (by decide)]; exact z3)
        refine lv_iconst (v := 1) hx hb dX1_renew_96 (by decide) ?_
        refine lv_iadd hx hb dX1_renew_97 ?_
        rw [nI_1]
        refine w_put C hw (c0 := 2) (i0 := 0) rfl inA1 tyX1_ok nmX1 3 (by decide) mw57 rfl rfl rfl dX1_renew_98 (hX 2 (by decide)) rfl rfl rfl rfl (Nat.le_of_ble_eq_true rfl) rfl (fun H locs hw => ?_)
        refine w_iinc hx hb dX1_renew_101 hl rfl (v := nI d) (by rw [show Int32.ofInt (-1) = -1 by decide]; exact pk_m1 d) (fun ls hl => ?_)
        refine lv_goto (tgt := 77) hx hb dX1_renew_104 (by decide) ?_
        refine ih (t + 1) (by omega) _ H locs ls hl ?_ hw
        have hr : ∀ c i, ¬ (c = 2 ∧ i = 0) → ¬ (c = 10 ∧ i = 0) → upr (upr Z1 10 0 (upd (Z1 10 0) t (nI (d + 1)))) 2 0 (upd (upr Z1 10 0 (upd (Z1 10 0) t (nI (d + 1))) 2 0) 3 (nI (t + 1))) c i = Z1 c i := fun c i h1 h2 => by rw [upr_n h1, upr_n h2]
        refine ⟨?_, ?_, ?_, ?_, ?_, ?_, ?_, ?_, ?_, ?_, ?_⟩
        · rw [upr_s, upd_n (by decide), upr_k (by decide)]; exact z0
        · rw [upr_s, upd_n (by decide), upr_k (by decide)]; exact z1
        · rw [upr_s, upd_n (by decide), upr_k (by decide)]; exact z2
        · rw [upr_s, upd_s]
        · rw [hr 5 0 (by decide) (by decide)]; exact z5
        · rw [hr 7 0 (by decide) (by decide)]; exact z7
        · rw [hr 7 0 (by decide) (by decide)]; exact z7s
        · rw [hr 8 0 (by decide) (by decide)]; exact z8
        · rw [hr 9 0 (by decide) (by decide)]; exact z9
        · intro j hj
          rw [upr_k (by decide), upr_s]
          by_cases q : j = t
          · subst q; rw [upd_s]; congr 1; omega
          · rw [upd_n q]; exact z10 j (by omega)
        · intro c i hc
          rw [hr c i (by omega) (by omega)]
          exact zo c i hc
  have loop1 : ∀ (d t : Nat), t + d = 513 → ∀ (Z1 : ZT) (H : Heap) (locs : List Loc) (ls : Array Slot), lo ls [some (.ref (X.1 2 0)), some (.int a), some (.int (nI t))] → (Z1 2 0 0 = a ∧ Z1 2 0 1 = 0 ∧ Z1 2 0 2 = 0 ∧ (∀ f, f < 256 → Z1 5 0 f = -1) ∧ (∀ s, s < 513 → Z1 7 0 s = 0) ∧ (∀ s, s < 513 → Z1 8 0 s = -1) ∧ (∀ s, s < t → Z1 9 0 s = 0) ∧ (∀ c i, ¬ (i = 0 ∧ (c = 2 ∨ c = 5 ∨ c = 7 ∨ c = 8 ∨ c = 9 ∨ c = 10)) → Z1 c i = Z c i)) → Wd sz0 D cs s X Z1 Y H locs → W p l e ({ frames := 1, cells := 0, slots := 0, locals := 23 } : Room) s m ([.ref (X.1 2 0), .int a] : List Value).toArray below meth c H locs 0 0 (xQ below (CQ sz0 D cs (Pz X Y (fun Z' v => v = none ∧ RNs Z a Z'))) ([.ref (X.1 2 0), .int a] : List Value).toArray s (Asz sz0)) (F0 m 41 ls []) := by
    intro d
    induction d with
    | zero =>
      intro t htd Z1 H locs ls hl hz hw
      have ht : t = 513 := by omega
      subst ht
      obtain ⟨z0, z1, z2, z5, z7, z8, z9, zo⟩ := hz
      refine lv_iload_n hx hb dX1_renew_41 rfl (hl.at rfl) ?_
      refine lv_sipush (v := 513) hx hb dX1_renew_42 (by decide) ?_
      refine lv_icmp_ge (tgt := 61) hx hb dX1_renew_45 (by decide) (fun h45 => ?_) (fun h45 => ?_)
      · refine lv_aload_n hx hb dX1_renew_61 rfl (hl.at rfl) ?_
        refine w_get C hw (c0 := 2) (i0 := 0) rfl inA1 8 (by decide) mw32 rfl dX1_renew_62 (hX 2 (by decide)) rfl rfl rfl ?_
        refine lv_iconst (v := 0) hx hb dX1_renew_65 (by decide) ?_
        refine lv_iconst (v := 1) hx hb dX1_renew_66 (by decide) ?_
        refine w_ist C hw (c0 := 7) (i0 := 0) dX1_renew_67 (hX 7 (by decide)) rfl (fun _ => rfl) (vpk (by decide)) (j := 0) (by decide) (fun H locs hw => ?_)
        refine lv_aload_n hx hb dX1_renew_68 rfl (hl.at rfl) ?_
        refine lv_iconst (v := 0) hx hb dX1_renew_69 (by decide) ?_
        refine w_put C hw (c0 := 2) (i0 := 0) rfl inA1 tyX1_ok nmX1 3 (by decide) mw57 rfl rfl rfl dX1_renew_70 (hX 2 (by decide)) rfl rfl rfl rfl (Nat.le_of_ble_eq_true rfl) rfl (fun H locs hw => ?_)
        refine lv_sipush (v := 512) hx hb dX1_renew_73 (by decide) ?_
        refine w_istore_n hx hb dX1_renew_76 rfl hl (Nat.le_of_ble_eq_true rfl) (fun ls hl => ?_)
        refine loop2 512 0 (by omega) _ H locs ls hl ?_ hw
        refine ⟨?_, ?_, ?_, ?_, ?_, ?_, ?_, ?_, ?_, ?_, ?_⟩
        · rw [upr_s, upd_n (by decide), upr_k (by decide)]; exact z0
        · rw [upr_s, upd_n (by decide), upr_k (by decide)]; exact z1
        · rw [upr_s, upd_n (by decide), upr_k (by decide)]; exact z2
        · rw [upr_s, upd_s, nI_0]
        · rw [upr_k (by decide), upr_k (by decide)]; exact z5
        · rw [upr_k (by decide), upr_s, upd_s]
        · intro s h0 hs; rw [upr_k (by decide), upr_s, upd_n (by omega)]; exact z7 s hs
        · rw [upr_k (by decide), upr_k (by decide)]; exact z8
        · rw [upr_k (by decide), upr_k (by decide)]; exact z9
        · intro j hj; omega
        · intro c i hc
          rw [upr_n (by omega), upr_n (by omega)]
          exact zo c i hc
      · exact absurd (show (513 : Int32) ≤ nI 513 by decide) h45
    | succ d ih =>
      intro t htd Z1 H locs ls hl hz hw
      obtain ⟨z0, z1, z2, z5, z7, z8, z9, zo⟩ := hz
      refine lv_iload_n hx hb dX1_renew_41 rfl (hl.at rfl) ?_
      refine lv_sipush (v := 513) hx hb dX1_renew_42 (by decide) ?_
      refine lv_icmp_ge (tgt := 61) hx hb dX1_renew_45 (by decide) (fun h45 => ?_) (fun h45 => ?_)
      · exact absurd (show nI 513 ≤ nI t from h45) (nI_ge (show t < 513 by omega) (by decide))
      · refine lv_aload_n hx hb dX1_renew_48 rfl (hl.at rfl) ?_
        refine w_get C hw (c0 := 2) (i0 := 0) rfl inA1 10 (by decide) mw34 rfl dX1_renew_49 (hX 2 (by decide)) rfl rfl rfl ?_
        refine lv_iload_n hx hb dX1_renew_52 rfl (hl.at rfl) ?_
        refine lv_iconst (v := 0) hx hb dX1_renew_53 (by decide) ?_
        refine w_zst C hw (c0 := 9) (i0 := 0) dX1_renew_54 (hX 9 (by decide)) rfl (fun _ => rfl) (vp_in_nI (show t < 513 by omega) (by omega)) (nI_clamp (by omega)) (by decide) (fun H locs hw => ?_)
        refine w_iinc hx hb dX1_renew_55 hl rfl rfl (fun ls hl => ?_)
        refine lv_goto (tgt := 41) hx hb dX1_renew_58 (by decide) ?_
        refine ih (t + 1) (by omega) _ H locs ls (by rw [← nI_1]; exact hl) ⟨?_, ?_, ?_, ?_, ?_, ?_, ?_, ?_⟩ hw
        · rw [upr_k (by decide)]; exact z0
        · rw [upr_k (by decide)]; exact z1
        · rw [upr_k (by decide)]; exact z2
        · rw [upr_k (by decide)]; exact z5
        · rw [upr_k (by decide)]; exact z7
        · rw [upr_k (by decide)]; exact z8
        · intro s hs
          rw [upr_s]
          by_cases q : s = t
          · subst q; exact upd_s
          · rw [upd_n q]; exact z9 s (by omega)
        · intro c i hc
          rw [upr_n (by omega)]
          exact zo c i hc
  refine loop1 513 0 (by omega) _ _ _ _ hl ⟨?_, ?_, ?_, ?_, ?_, ?_, ?_, ?_⟩ hw
  · simp [upr, upd]
  · simp [upr, upd]
  · simp [upr, upd]
  · intro f hf; simp [upr, hf]
  · intro s hs; simp [upr, hs]
  · intro s hs; simp [upr, hs]
  · intro s hs; omega
  · intro c i hc
    rw [upr_n (by omega), upr_n (by omega), upr_n (by omega), upr_n (by omega), upr_n (by omega), upr_n (by omega)]
