set_option maxHeartbeats 4000000 in
set_option maxRecDepth 100000 in
theorem c_X1_freeSheet (l : Launch) (sz0 : Nat) (D : va_G) (cs : Nat → ClassId) (X : Sh) (Z : ZT) (Y : va_W) (hX : HXI X) (h o hd g3 g4 sh fc : Nat) (hA : HA X Z h o hd g3 g4) (hs : sh < 513) (hfc : fc ≤ 512) (h23 : Z 2 0 3 = nI fc) : Ctr l yX1_freeSheet (wsM yX1_freeSheet cX1_freeSheet 3 none) ({ frames := 0, cells := 0, slots := 0, locals := 0 } : Room) sz0 D cs [.ref (X.1 2 0), .int (nI sh)] X Z Y (Pz X Y (fun Z' v => v = none ∧ FS Z sh fc Z')) := by
  refine Ctr.ofW (by decide +kernel) (by intro v hv; simp at hv; rcases hv with rfl | rfl <;> rfl) (Nat.le_of_ble_eq_true rfl) ?_
  intro p e s m below meth c ls C hr hlocks hname hl hN hw
  obtain ⟨hx, hb, hml, hown, hts⟩ := id C
  obtain ⟨⟨a1, a2, a3, a4⟩, -, -, -, c3, -⟩ := hA
  refine lv_aload_n hx hb dX1_freeSheet_0 rfl (hl.at rfl) ?_
  refine w_get C hw (c0 := 2) (i0 := 0) rfl inA1 9 (by decide) mw33 rfl dX1_freeSheet_1 (hX 2 (by decide)) rfl rfl rfl ?_
  refine lv_iload_n hx hb dX1_freeSheet_4 rfl (hl.at rfl) ?_
  refine w_ild C hw (c0 := 8) (i0 := 0) dX1_freeSheet_5 (hX 8 (by decide)) rfl rfl (vp_in_nI hs (by omega)) (nI_clamp (by omega)) ?_
  refine w_istore_n hx hb dX1_freeSheet_6 rfl hl (Nat.le_of_ble_eq_true rfl) (fun ls hl => ?_)
  refine lv_iload_n hx hb dX1_freeSheet_7 rfl (hl.at rfl) ?_
  refine lv_iconst (v := -1) hx hb dX1_freeSheet_8 (by decide) ?_
  have fin : ∀ (Z1 : ZT) (H : Heap) (locs : List Loc) (ls : Array Slot) (sa : Option Value), lo ls [some (.ref (X.1 2 0)), some (.int (nI sh)), sa] → Wd sz0 D cs s X Z1 Y H locs → Z1 2 0 = Z 2 0 → Z1 9 0 = Z 9 0 → Z1 10 0 = Z 10 0 → Z1 8 0 = upd (Z 8 0) sh (-1) → ((Z 8 0 sh = -1 ∧ Z1 5 0 = Z 5 0) ∨ ∃ f, Z 8 0 sh = nI f ∧ f < 256 ∧ Z1 5 0 = upd (Z 5 0) f (-1)) → (∀ c i, ¬ (i = 0 ∧ (c = 5 ∨ c = 8)) → Z1 c i = Z c i) → W p l e ({ frames := 0, cells := 0, slots := 0, locals := 0 } : Room) s m ([.ref (X.1 2 0), .int (nI sh)] : List Value).toArray below meth c H locs 0 0 (xQ below (CQ sz0 D cs (Pz X Y (fun Z' v => v = none ∧ FS Z sh fc Z'))) ([.ref (X.1 2 0), .int (nI sh)] : List Value).toArray s (Asz sz0)) (F0 m 26 ls []) := by
    intro Z1 H locs ls sa hl hw r2 r9 r10 r8 r5 r
    refine lv_aload_n hx hb dX1_freeSheet_26 rfl (hl.at rfl) ?_
    refine w_get C hw (c0 := 2) (i0 := 0) rfl inA1 10 (by decide) mw34 rfl dX1_freeSheet_27 (hX 2 (by decide)) rfl rfl rfl ?_
    refine lv_iload_n hx hb dX1_freeSheet_30 rfl (hl.at rfl) ?_
    refine lv_iconst (v := 0) hx hb dX1_freeSheet_31 (by decide) ?_
    refine w_zst C hw (c0 := 9) (i0 := 0) dX1_freeSheet_32 (hX 9 (by decide)) rfl (fun _ => rfl) (vp_in_nI hs (by omega)) (nI_clamp (by omega)) (by decide) (fun H locs hw => ?_)
    refine lv_aload_n hx hb dX1_freeSheet_33 rfl (hl.at rfl) ?_
    refine w_get C hw (c0 := 2) (i0 := 0) rfl inA1 3 (by decide) mw57 rfl dX1_freeSheet_34 (hX 2 (by decide)) rfl rfl rfl ?_
    refine lv_topi (fun y ey => ?_)
    obtain rfl : y = nI fc := ey.trans (by rw [upr_k (by decide), r2]; exact h23)
    refine lv_sipush (v := 513) hx hb dX1_freeSheet_37 (by decide) ?_
    refine lv_icmp_ge (tgt := 63) hx hb dX1_freeSheet_40 (by decide) (fun h40 => ?_) (fun h40 => ?_)
    · exact absurd h40 (nI_ge (show fc < 513 by omega) (by decide))
    · refine lv_aload_n hx hb dX1_freeSheet_43 rfl (hl.at rfl) ?_
      refine w_get C hw (c0 := 2) (i0 := 0) rfl inA1 11 (by decide) mw35 rfl dX1_freeSheet_44 (hX 2 (by decide)) rfl rfl rfl ?_
      refine lv_aload_n hx hb dX1_freeSheet_47 rfl (hl.at rfl) ?_
      refine w_get C hw (c0 := 2) (i0 := 0) rfl inA1 3 (by decide) mw57 rfl dX1_freeSheet_48 (hX 2 (by decide)) rfl rfl rfl ?_
      refine lv_topi (fun y ey => ?_)
      obtain rfl : y = nI fc := ey.trans (by rw [upr_k (by decide), r2]; exact h23)
      refine lv_iload_n hx hb dX1_freeSheet_51 rfl (hl.at rfl) ?_
      refine w_ist C hw (c0 := 10) (i0 := 0) dX1_freeSheet_52 (hX 10 (by decide)) rfl (fun _ => rfl) (vp_in_nI (show fc < 513 by omega) (by omega)) (nI_clamp (by omega)) (fun H locs hw => ?_)
      refine lv_aload_n hx hb dX1_freeSheet_53 rfl (hl.at rfl) ?_
      refine lv_dup hx hb dX1_freeSheet_54 rfl ?_
      refine w_get C hw (c0 := 2) (i0 := 0) rfl inA1 3 (by decide) mw57 rfl dX1_freeSheet_55 (hX 2 (by decide)) rfl rfl rfl ?_
      refine lv_topi (fun y ey => ?_)
      obtain rfl : y = nI fc := ey.trans (by rw [upr_k (by decide), upr_k (by decide), r2]; exact h23)
      refine lv_iconst (v := 1) hx hb dX1_freeSheet_58 (by decide) ?_
      refine lv_iadd hx hb dX1_freeSheet_59 ?_
      rw [nI_1]
      refine w_put C hw (c0 := 2) (i0 := 0) rfl inA1 tyX1_ok nmX1 3 (by decide) mw57 rfl rfl rfl dX1_freeSheet_60 (hX 2 (by decide)) rfl rfl rfl rfl (Nat.le_of_ble_eq_true rfl) rfl (fun H locs hw => ?_)
      exact w_vret C hw hr hlocks dX1_freeSheet_63 ⟨rfl, rfl, rfl, rfl, rfl, by simp [upr, r8], by simp [upr, r9], by simp [upr, r10], by simp [upr, r2], by simpa [upr] using r5, fun c i hc => by rw [upr_n (by omega), upr_n (by omega), upr_n (by omega)]; exact r c i (by omega)⟩
  refine lv_icmp_eq (tgt := 26) hx hb dX1_freeSheet_9 (by decide) (fun h9 => ?_) (fun h9 => ?_)
  · refine fin Z _ _ _ _ hl hw rfl rfl rfl ?_ (Or.inl ⟨h9, rfl⟩) (fun _ _ _ => rfl)
    funext j
    by_cases e : j = sh
    · subst e; rw [upd_s]; exact h9
    · rw [upd_n e]
  · obtain ⟨f, hf, e8, -⟩ := (c3 sh hs).resolve_left h9
    rw [e8] at hl
    refine lv_aload_n hx hb dX1_freeSheet_12 rfl (hl.at rfl) ?_
    refine w_get C hw (c0 := 2) (i0 := 0) rfl inA1 6 (by decide) mw29 rfl dX1_freeSheet_13 (hX 2 (by decide)) rfl rfl rfl ?_
    refine lv_iload_n hx hb dX1_freeSheet_16 rfl (hl.at rfl) ?_
    refine lv_iconst (v := -1) hx hb dX1_freeSheet_17 (by decide) ?_
    refine w_ist C hw (c0 := 5) (i0 := 0) dX1_freeSheet_18 (hX 5 (by decide)) rfl (fun _ => rfl) (vp_in_nI (show f < 256 by omega) (by omega)) (nI_clamp (by omega)) (fun H locs hw => ?_)
    refine lv_aload_n hx hb dX1_freeSheet_19 rfl (hl.at rfl) ?_
    refine w_get C hw (c0 := 2) (i0 := 0) rfl inA1 9 (by decide) mw33 rfl dX1_freeSheet_20 (hX 2 (by decide)) rfl rfl rfl ?_
    refine lv_iload_n hx hb dX1_freeSheet_23 rfl (hl.at rfl) ?_
    refine lv_iconst (v := -1) hx hb dX1_freeSheet_24 (by decide) ?_
    refine w_ist C hw (c0 := 8) (i0 := 0) dX1_freeSheet_25 (hX 8 (by decide)) rfl (fun _ => rfl) (vp_in_nI hs (by omega)) (nI_clamp (by omega)) (fun H locs hw => ?_)
    refine fin _ _ _ _ _ hl hw (by simp [upr]) (by simp [upr]) (by simp [upr]) (by simp [upr]) (Or.inr ⟨f, e8, by omega, by simp [upr]⟩) (fun c i hc => by rw [upr_n (by omega), upr_n (by omega)])
