/-- what giving back the first t frames of guest i leaves -/
def RLs (X : Sh) (Z : ZT) (h o hd g3 g4 i t : Nat) (Z' : ZT) : Prop :=
  HA X Z' h o hd g3 g4 ∧ (∃ fc, HBc X Z' fc (ctR X Z i t)) ∧ (∀ s w, s < 513 → w < 64 → ctR X Z i t s ≠ 0 → scn Z' s w = scn Z s w) ∧ (∀ c i', ¬ (i' = 0 ∧ (c = 2 ∨ c = 5 ∨ c = 7 ∨ c = 8 ∨ c = 9 ∨ c = 10)) → Z' c i' = Z c i') ∧ (∀ j, j ≠ 3 → Z' 2 0 j = Z 2 0 j)

set_option maxHeartbeats 4000000 in
set_option maxRecDepth 100000 in
theorem c_X1_release (l : Launch) (sz0 : Nat) (D : va_G) (cs : Nat → ClassId) (X : Sh) (Z : ZT) (Y : va_W) (hX : HXI X) (i : Nat) (hG : GI X i) (h o hd g3 g4 fc F : Nat) (hA : HA X Z h o hd g3 g4) (hB : HB X Z fc) (hL : GL X Z i F) : Ctr l yX1_release (wsM yX1_release cX1_release 4 none) ({ frames := 1, cells := 0, slots := 0, locals := 22 } : Room) sz0 D cs [.ref (X.1 2 0), .ref (X.1 20 i)] X Z Y (Pz X Y (fun Z' v => v = none ∧ RLs X Z h o hd g3 g4 i F Z')) := by
  refine Ctr.ofW (by decide +kernel) (by intro v hv; simp at hv; rcases hv with rfl | rfl <;> rfl) (Nat.le_of_ble_eq_true rfl) ?_
  intro p e s m below meth c ls C hr hlocks hname hl hN hw
  obtain ⟨hx, hb, hml, hown, hts⟩ := id C
  obtain ⟨hi, hgf, hF6, hF1, hF64⟩ := hL
  have hd2 := hB.2.1
  refine lv_iconst (v := 0) hx hb dX1_release_0 (by decide) ?_
  refine w_istore_n hx hb dX1_release_1 rfl hl (Nat.le_of_ble_eq_true rfl) (fun ls hl => ?_)
  have loop : ∀ (d t : Nat), t + d = F → ∀ (Z1 : ZT) (H : Heap) (locs : List Loc) (ls : Array Slot) (sa : Option Value), lo ls [some (.ref (X.1 2 0)), some (.ref (X.1 20 i)), some (.int (nI t)), sa] → RLs X Z h o hd g3 g4 i t Z1 → Wd sz0 D cs s X Z1 Y H locs → W p l e ({ frames := 1, cells := 0, slots := 0, locals := 22 } : Room) s m ([.ref (X.1 2 0), .ref (X.1 20 i)] : List Value).toArray below meth c H locs 0 0 (xQ below (CQ sz0 D cs (Pz X Y (fun Z' v => v = none ∧ RLs X Z h o hd g3 g4 i F Z'))) ([.ref (X.1 2 0), .ref (X.1 20 i)] : List Value).toArray s (Asz sz0)) (F0 m 2 ls []) := by
    intro d
    induction d with
    | zero =>
      intro t htd Z1 H locs ls sa hl hR hw
      have z20 : Z1 20 i = Z 20 i := hR.2.2.2.1 20 i (by omega)
      refine lv_iload_n hx hb dX1_release_2 rfl (hl.at rfl) ?_
      refine lv_aload_n hx hb dX1_release_3 rfl (hl.at rfl) ?_
      refine w_getN C hN hw (c0 := 20) (i0 := i) rfl inA0 6 (by decide) mw647 rfl dX1_release_4 (hG 20 (by decide) (by decide)) rfl rfl rfl ?_
      refine lv_topi (fun y ey => ?_)
      obtain rfl : y = nI F := ey.trans (by rw [z20]; exact hF6)
      refine lv_icmp_ge (tgt := 61) hx hb dX1_release_7 (by decide) (fun h7 => ?_) (fun h7 => ?_)
      · have : t = F := by omega
        subst this
        exact w_vret C hw hr hlocks dX1_release_61 ⟨rfl, rfl, rfl, rfl, rfl, hR⟩
      · exact absurd (nI_le (show F ≤ t by omega) (by omega)) h7
    | succ d ih =>
      intro t htd Z1 H locs ls sa hl hR hw
      have z20 : Z1 20 i = Z 20 i := hR.2.2.2.1 20 i (by omega)
      refine lv_iload_n hx hb dX1_release_2 rfl (hl.at rfl) ?_
      refine lv_aload_n hx hb dX1_release_3 rfl (hl.at rfl) ?_
      refine w_getN C hN hw (c0 := 20) (i0 := i) rfl inA0 6 (by decide) mw647 rfl dX1_release_4 (hG 20 (by decide) (by decide)) rfl rfl rfl ?_
      refine lv_topi (fun y ey => ?_)
      obtain rfl : y = nI F := ey.trans (by rw [z20]; exact hF6)
      refine lv_icmp_ge (tgt := 61) hx hb dX1_release_7 (by decide) (fun h7 => ?_) (fun h7 => ?_)
      · exact absurd h7 (nI_ge (show t < F by omega) (by omega))
      · refine lv_iload_n hx hb dX1_release_10 rfl (hl.at rfl) ?_
        refine lv_bipush (v := 64) hx hb dX1_release_11 (by decide) ?_
        refine lv_icmp_ge (tgt := 61) hx hb dX1_release_13 (by decide) (fun h13 => ?_) (fun h13 => ?_)
        · exact absurd h13 (nI_ge (show t < 64 by omega) (by decide))
        · obtain ⟨s0, hs0, e21⟩ := hd2 i t hi (by omega)
          obtain ⟨hge, hst⟩ := ctR_step hi (show t < gfr X Z i by omega) hs0 e21
          obtain ⟨hA1, ⟨fc1, hB1⟩, hsc, hr1, hr2⟩ := hR
          refine lv_aload_n hx hb dX1_release_16 rfl (hl.at rfl) ?_
          refine w_getN C hN hw (c0 := 20) (i0 := i) rfl inA0 7 (by decide) mw649 rfl dX1_release_17 (hG 20 (by decide) (by decide)) rfl rfl rfl ?_
          refine lv_iload_n hx hb dX1_release_20 rfl (hl.at rfl) ?_
          refine w_ild C hw (c0 := 21) (i0 := i) dX1_release_21 (hG 21 (by decide) (by decide)) rfl rfl (vp_in_nI (show t < 64 by omega) (by omega)) (nI_clamp (by omega)) ?_
          rw [hr1 21 i (by omega), e21]
          refine w_istore_n hx hb dX1_release_22 rfl hl (Nat.le_of_ble_eq_true rfl) (fun ls hl => ?_)
          refine lv_aload_n hx hb dX1_release_23 rfl (hl.at rfl) ?_
          refine lv_iload_n hx hb dX1_release_24 rfl (hl.at rfl) ?_
          refine w_callV C hN hw (c_X1_isSheet l sz0 D cs X _ Y _) ⟨(Nat.le_of_ble_eq_true rfl), (Nat.le_of_ble_eq_true rfl), mw202, mw15, cy_X1_isSheet⟩ mw199 mw200 mw201 (w_rec hw (c0 := 2) (i0 := 0) (hX 2 (by decide)) rfl rfl) rfl hl.1.1 rfl (Nat.le_of_ble_eq_true rfl) dX1_release_25 ⟨Nat.le_of_ble_eq_true rfl, Nat.le_of_ble_eq_true rfl⟩ (fun X' Z' Y' v k n H locs hp hw => ?_)
          obtain ⟨rfl, rfl, rfl, rfl, rfl, rfl⟩ := hp
          rw [isShv_nI hs0]
          refine lv_if_eq (tgt := 55) hx hb dX1_release_28 (by decide) (fun h28 => ?_) (fun h28 => ?_)
          · exact absurd h28 (by decide)
          · refine lv_aload_n hx hb dX1_release_31 rfl (hl.at rfl) ?_
            refine w_get C hw (c0 := 2) (i0 := 0) rfl inA1 8 (by decide) mw32 rfl dX1_release_32 (hX 2 (by decide)) rfl rfl rfl ?_
            refine lv_iload_n hx hb dX1_release_35 rfl (hl.at rfl) ?_
            refine lv_dup2_11 hx hb dX1_release_36 rfl rfl ?_
            refine w_ild C hw (c0 := 7) (i0 := 0) dX1_release_37 (hX 7 (by decide)) rfl rfl (vp_in_nI hs0 (by omega)) (nI_clamp (by omega)) ?_
            have h7v : Z1 7 0 s0 = nI (ctR X Z i t s0) := hB1.1 s0 hs0
            have hc513 : ctR X Z i t s0 ≤ 513 := hB1.2.2.2.2.2.1 s0 hs0
            rw [h7v]
            refine lv_iconst (v := 1) hx hb dX1_release_38 (by decide) ?_
            refine lv_isub hx hb dX1_release_39 ?_
            have em : nI (ctR X Z i t s0) - 1 = nI (ctR X Z i t s0 - 1) := by
              obtain ⟨q, hq⟩ : ∃ q, ctR X Z i t s0 = q + 1 := ⟨ctR X Z i t s0 - 1, by omega⟩
              rw [hq, nI_pred, Nat.add_sub_cancel]
            rw [em]
            refine w_ist C hw (c0 := 7) (i0 := 0) dX1_release_40 (hX 7 (by decide)) rfl (fun _ => rfl) (vp_in_nI hs0 (by omega)) (nI_clamp (by omega)) (fun H locs hw => ?_)
            refine lv_aload_n hx hb dX1_release_41 rfl (hl.at rfl) ?_
            refine w_get C hw (c0 := 2) (i0 := 0) rfl inA1 8 (by decide) mw32 rfl dX1_release_42 (hX 2 (by decide)) rfl rfl rfl ?_
            refine lv_iload_n hx hb dX1_release_45 rfl (hl.at rfl) ?_
            refine w_ild C hw (c0 := 7) (i0 := 0) dX1_release_46 (hX 7 (by decide)) rfl rfl (vp_in_nI hs0 (by omega)) (nI_clamp (by omega)) ?_
            rw [upr_s, upd_s]
            refine lv_if_ne (tgt := 55) hx hb dX1_release_47 (by decide) (fun h47 => ?_) (fun h47 => ?_)
            · have h2 : 2 ≤ ctR X Z i t s0 := by
                have : ctR X Z i t s0 - 1 ≠ 0 := fun q => h47 (by rw [q]; rfl)
                omega
              refine w_iinc hx hb dX1_release_55 hl rfl rfl (fun ls hl => ?_)
              refine lv_goto (tgt := 2) hx hb dX1_release_58 (by decide) ?_
              refine ih (t + 1) (by omega) _ H locs ls _ (by rw [← nI_1]; exact hl) ⟨?_, ⟨fc1, ?_⟩, ?_, ?_, ?_⟩ hw
              · exact hA1.rows (fun j _ => by rw [upr_k (by decide)]) (by rw [upr_k (by decide)]) (by rw [upr_k (by decide)]) (by rw [upr_k (by decide)]) (by rw [upr_k (by decide)]) (by rw [upr_k (by decide)])
              · exact (rl_keep hB1 hs0 h2 (by rw [upr_s]) (by rw [upr_k (by decide)]) (by rw [upr_k (by decide)]) (by rw [upr_k (by decide)])).congr hst
              · intro s' w hs' hw' hne
                rw [scn_rows (Z := Z1) (by rw [upr_k (by decide)]) (by rw [upr_k (by decide)]) (by rw [upr_k (by decide)])]
                refine hsc s' w hs' hw' ?_
                rw [hst s' hs'] at hne
                unfold dec1 at hne
                split at hne <;> omega
              · intro c i' hc
                rw [upr_n (fun q => hc ⟨q.2, by omega⟩)]
                exact hr1 c i' hc
              · intro j hj
                rw [upr_k (by decide)]
                exact hr2 j hj
            · have h1 : ctR X Z i t s0 = 1 := by
                have := nI_inj (by omega) (by decide) (show nI (ctR X Z i t s0 - 1) = nI 0 from h47)
                omega
              have hsn : s0 ≠ 0 := fun q => by rw [if_pos q] at hge; omega
              refine lv_aload_n hx hb dX1_release_50 rfl (hl.at rfl) ?_
              refine lv_iload_n hx hb dX1_release_51 rfl (hl.at rfl) ?_
              have hA2 : HA X (upr Z1 7 0 (upd (Z1 7 0) s0 (nI (ctR X Z i t s0 - 1)))) h o hd g3 g4 := hA1.rows (fun j _ => by rw [upr_k (by decide)]) (by rw [upr_k (by decide)]) (by rw [upr_k (by decide)]) (by rw [upr_k (by decide)]) (by rw [upr_k (by decide)]) (by rw [upr_k (by decide)])
              refine w_callV C hN hw (c_X1_freeSheet l sz0 D cs X _ Y hX h o hd g3 g4 s0 fc1 hA2 hs0 hB1.fc_le (by rw [upr_k (by decide)]; exact hB1.2.2.2.1)) ⟨(Nat.le_of_ble_eq_true rfl), (Nat.le_of_ble_eq_true rfl), mw324, mw15, cy_X1_freeSheet⟩ mw321 mw322 mw323 (w_rec hw (c0 := 2) (i0 := 0) (hX 2 (by decide)) rfl rfl) rfl hl.1.1 rfl (Nat.le_of_ble_eq_true rfl) dX1_release_52 ⟨Nat.le_of_ble_eq_true rfl, Nat.le_of_ble_eq_true rfl⟩ (fun X2 Z2 Y2 v2 k2 n2 H locs hp hw => ?_)
              obtain ⟨rfl, rfl, rfl, rfl, rfl, hF⟩ := hp
              refine w_iinc hx hb dX1_release_55 hl rfl rfl (fun ls hl => ?_)
              refine lv_goto (tgt := 2) hx hb dX1_release_58 (by decide) ?_
              obtain ⟨m1, m2⟩ := fs_main hA2 hs0 hF
              refine ih (t + 1) (by omega) _ H locs ls _ (by rw [← nI_1]; exact hl) ⟨m1, ⟨fc1 + 1, ?_⟩, ?_, ?_, ?_⟩ hw
              · refine (rl_last (Z1 := upr Z1 7 0 (upd (Z1 7 0) s0 (nI (ctR X Z i t s0 - 1)))) hB1 hs0 hsn h1 (by rw [upr_s, h1]; rfl) (by rw [upr_k (by decide)]) (by rw [upr_k (by decide)]) hF).congr hst
              · intro s' w hs' hw' hne
                rw [hst s' hs'] at hne
                have hne2 : s' ≠ s0 := fun q => by
                  subst q
                  unfold dec1 at hne
                  rw [if_pos rfl] at hne
                  omega
                rw [m2 s' w hs' hw' hne2, scn_rows (Z := Z1) (by rw [upr_k (by decide)]) (by rw [upr_k (by decide)]) (by rw [upr_k (by decide)])]
                refine hsc s' w hs' hw' ?_
                unfold dec1 at hne
                rw [if_neg hne2] at hne
                exact hne
              · intro c i' hc
                obtain ⟨-, -, -, -, -, q⟩ := hF
                rw [q c i' (by omega), upr_n (fun q => hc ⟨q.2, by omega⟩)]
                exact hr1 c i' hc
              · intro j hj
                obtain ⟨-, -, -, q, -, -⟩ := hF
                rw [q, upd_n hj, upr_k (by decide)]
                exact hr2 j hj
  refine loop F 0 (by omega) Z _ _ _ _ hl ⟨hA, ⟨fc, hB.c.congr (fun s _ => by unfold ctR; rfl)⟩, fun _ _ _ _ _ => rfl, fun _ _ _ => rfl, fun _ _ => rfl⟩ hw

def lbZ (Z : ZT) (i t : Nat) : ZT := upr (upr Z 21 i (fun k => if k < t then 0 else Z 21 i k)) 7 0 (upd (Z 7 0) 0 (Z 7 0 0 + nI t))

set_option maxHeartbeats 4000000 in
set_option maxRecDepth 100000 in
theorem c_X1_lendBlank (l : Launch) (sz0 : Nat) (D : va_G) (cs : Nat → ClassId) (X : Sh) (Z : ZT) (Y : va_W) (hX : HXI X) (i : Nat) (hG : GI X i) (F : Nat) (hF6 : Z 20 i 6 = nI F) (hF : F ≤ 64) : Ctr l yX1_lendBlank (wsM yX1_lendBlank cX1_lendBlank 3 none) ({ frames := 0, cells := 0, slots := 0, locals := 0 } : Room) sz0 D cs [.ref (X.1 2 0), .ref (X.1 20 i)] X Z Y (Pz X Y (fun Z' v => v = none ∧ Z' = lbZ Z i F)) := by
  refine Ctr.ofW (by decide +kernel) (by intro v hv; simp at hv; rcases hv with rfl | rfl <;> rfl) (Nat.le_of_ble_eq_true rfl) ?_
  intro p e s m below meth c ls C hr hlocks hname hl hN hw
  obtain ⟨hx, hb, hml, hown, hts⟩ := id C
  refine lv_iconst (v := 0) hx hb dX1_lendBlank_0 (by decide) ?_
  refine w_istore_n hx hb dX1_lendBlank_1 rfl hl (Nat.le_of_ble_eq_true rfl) (fun ls hl => ?_)
  have loop : ∀ (d t : Nat), t + d = F → ∀ (H : Heap) (locs : List Loc) (ls : Array Slot), lo ls [some (.ref (X.1 2 0)), some (.ref (X.1 20 i)), some (.int (nI t))] → Wd sz0 D cs s X (lbZ Z i t) Y H locs → W p l e ({ frames := 0, cells := 0, slots := 0, locals := 0 } : Room) s m ([.ref (X.1 2 0), .ref (X.1 20 i)] : List Value).toArray below meth c H locs 0 0 (xQ below (CQ sz0 D cs (Pz X Y (fun Z' v => v = none ∧ Z' = lbZ Z i F))) ([.ref (X.1 2 0), .ref (X.1 20 i)] : List Value).toArray s (Asz sz0)) (F0 m 2 ls []) := by
    intro d
    induction d with
    | zero =>
      intro t htd H locs ls hl hw
      have z20 : lbZ Z i t 20 i = Z 20 i := by unfold lbZ; rw [upr_k (by decide), upr_k (by decide)]
      refine lv_iload_n hx hb dX1_lendBlank_2 rfl (hl.at rfl) ?_
      refine lv_aload_n hx hb dX1_lendBlank_3 rfl (hl.at rfl) ?_
      refine w_getN C hN hw (c0 := 20) (i0 := i) rfl inA0 6 (by decide) mw647 rfl dX1_lendBlank_4 (hG 20 (by decide) (by decide)) rfl rfl rfl ?_
      refine lv_topi (fun y ey => ?_)
      obtain rfl : y = nI F := ey.trans (by rw [z20]; exact hF6)
      refine lv_icmp_ge (tgt := 39) hx hb dX1_lendBlank_7 (by decide) (fun h7 => ?_) (fun h7 => ?_)
      · have : t = F := by omega
        subst this
        exact w_vret C hw hr hlocks dX1_lendBlank_39 ⟨rfl, rfl, rfl, rfl, rfl, rfl⟩
      · exact absurd (nI_le (show F ≤ t by omega) (by omega)) h7
    | succ d ih =>
      intro t htd H locs ls hl hw
      have z20 : lbZ Z i t 20 i = Z 20 i := by unfold lbZ; rw [upr_k (by decide), upr_k (by decide)]
      refine lv_iload_n hx hb dX1_lendBlank_2 rfl (hl.at rfl) ?_
      refine lv_aload_n hx hb dX1_lendBlank_3 rfl (hl.at rfl) ?_
      refine w_getN C hN hw (c0 := 20) (i0 := i) rfl inA0 6 (by decide) mw647 rfl dX1_lendBlank_4 (hG 20 (by decide) (by decide)) rfl rfl rfl ?_
      refine lv_topi (fun y ey => ?_)
      obtain rfl : y = nI F := ey.trans (by rw [z20]; exact hF6)
      refine lv_icmp_ge (tgt := 39) hx hb dX1_lendBlank_7 (by decide) (fun h7 => ?_) (fun h7 => ?_)
      · exact absurd h7 (nI_ge (show t < F by omega) (by omega))
      · refine lv_iload_n hx hb dX1_lendBlank_10 rfl (hl.at rfl) ?_
        refine lv_bipush (v := 64) hx hb dX1_lendBlank_11 (by decide) ?_
        refine lv_icmp_ge (tgt := 39) hx hb dX1_lendBlank_13 (by decide) (fun h13 => ?_) (fun h13 => ?_)
        · exact absurd h13 (nI_ge (show t < 64 by omega) (by decide))
        · refine lv_aload_n hx hb dX1_lendBlank_16 rfl (hl.at rfl) ?_
          refine w_getN C hN hw (c0 := 20) (i0 := i) rfl inA0 7 (by decide) mw649 rfl dX1_lendBlank_17 (hG 20 (by decide) (by decide)) rfl rfl rfl ?_
          refine lv_iload_n hx hb dX1_lendBlank_20 rfl (hl.at rfl) ?_
          refine lv_iconst (v := 0) hx hb dX1_lendBlank_21 (by decide) ?_
          refine w_ist C hw (c0 := 21) (i0 := i) dX1_lendBlank_22 (hG 21 (by decide) (by decide)) rfl (fun _ => rfl) (vp_in_nI (show t < 64 by omega) (by omega)) (nI_clamp (by omega)) (fun H locs hw => ?_)
          refine lv_aload_n hx hb dX1_lendBlank_23 rfl (hl.at rfl) ?_
          refine w_get C hw (c0 := 2) (i0 := 0) rfl inA1 8 (by decide) mw32 rfl dX1_lendBlank_24 (hX 2 (by decide)) rfl rfl rfl ?_
          refine lv_iconst (v := 0) hx hb dX1_lendBlank_27 (by decide) ?_
          refine lv_dup2_11 hx hb dX1_lendBlank_28 rfl rfl ?_
          refine w_ild C hw (c0 := 7) (i0 := 0) dX1_lendBlank_29 (hX 7 (by decide)) rfl rfl (vpk (by decide)) (j := 0) (by decide) ?_
          refine lv_iconst (v := 1) hx hb dX1_lendBlank_30 (by decide) ?_
          refine lv_iadd hx hb dX1_lendBlank_31 ?_
          refine w_ist C hw (c0 := 7) (i0 := 0) dX1_lendBlank_32 (hX 7 (by decide)) rfl (fun _ => rfl) (vpk (by decide)) (j := 0) (by decide) (fun H locs hw => ?_)
          refine w_iinc hx hb dX1_lendBlank_33 hl rfl rfl (fun ls hl => ?_)
          refine lv_goto (tgt := 2) hx hb dX1_lendBlank_36 (by decide) ?_
          refine ih (t + 1) (by omega) H locs ls (by rw [← nI_1]; exact hl) ?_
          have e1 : upr (upr (lbZ Z i t) 21 i (upd (lbZ Z i t 21 i) t 0)) 7 0 (upd (upr (lbZ Z i t) 21 i (upd (lbZ Z i t 21 i) t 0) 7 0) 0 (upr (lbZ Z i t) 21 i (upd (lbZ Z i t 21 i) t 0) 7 0 0 + 1)) = lbZ Z i (t + 1) := by
            unfold lbZ
            rw [upr_k (show (7 : Nat) ≠ 21 by decide), upr_s, upr_k (show (21 : Nat) ≠ 7 by decide), upr_s, upr_cm (show (7 : Nat) ≠ 21 by decide), upr_uu, upr_uu, upd_s, upd_uu, Int32.add_assoc, nI_1]
            congr 2
            funext k
            by_cases q : k = t
            · subst q; rw [upd_s, if_pos (by omega)]
            · rw [upd_n q]
              by_cases q2 : k < t
              · rw [if_pos q2, if_pos (by omega)]
              · rw [if_neg q2, if_neg (by omega)]
          rw [e1] at hw
          exact hw
  refine loop F 0 (by omega) _ _ _ hl ?_
  have e0 : lbZ Z i 0 = Z := by
    unfold lbZ
    have u1 : (fun k => if k < 0 then 0 else Z 21 i k) = Z 21 i := by funext k; rw [if_neg (by omega)]
    rw [u1, upr_id]
    have u2 : upd (Z 7 0) 0 (Z 7 0 0 + nI 0) = Z 7 0 := by
      funext k
      by_cases q : k = 0
      · subst q; rw [upd_s, nI_0]; exact Int32.add_zero _
      · rw [upd_n q]
    rw [u2, upr_id]
  rw [e0]
  exact hw
