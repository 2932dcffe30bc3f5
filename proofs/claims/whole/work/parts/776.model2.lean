set_option maxHeartbeats 4000000 in
set_option maxRecDepth 100000 in
theorem c_X5_only (l : Launch) (sz0 : Nat) (D : va_G) (cs : Nat → ClassId) (X : Sh) (Z : ZT) (Y : va_W) (S : HS) (hS : HOK S) (hMX : MRx X) (hMR : MR Z S) (a n : Int32) : Ctr l yX5_only (wsM yX5_only cX5_only 5 (some .int)) ({ frames := 7, cells := 0, slots := 0, locals := 166 } : Room) sz0 D cs [.ref (X.1 30 0), .int a, .int n] X Z Y (Pz X Y (fun Z' v => v = some (.int (onS S a n).2) ∧ MR Z' (onS S a n).1 ∧ FM Z Z')) := by
  refine Ctr.ofW (by decide +kernel) (by intro v hv; simp at hv; rcases hv with rfl | rfl | rfl <;> rfl) (Nat.le_of_ble_eq_true rfl) ?_
  intro p e s m below meth c ls C hr hlocks hname hl hN hw
  obtain ⟨hx, hb, hml, hown, hts⟩ := id C
  have hM := hMX.1
  refine lv_aload_n hx hb dX5_only_0 rfl (hl.at rfl) ?_
  refine lv_iload_n hx hb dX5_only_1 rfl (hl.at rfl) ?_
  refine w_callV C hN hw (c_X5_of l sz0 D cs X _ Y S hS hMX hMR a) ⟨(Nat.le_of_ble_eq_true rfl), (Nat.le_of_ble_eq_true rfl), mw243, mw6, cy_X5_of⟩ mw240 mw241 mw242 (w_rec hw (c0 := 30) (i0 := 0) (hM 30 (by decide) (by decide)) rfl rfl) rfl hl.1.1 rfl (Nat.le_of_ble_eq_true rfl) dX5_only_2 ⟨Nat.le_of_ble_eq_true rfl, Nat.le_of_ble_eq_true rfl⟩ (fun X' Z' Y' v k n H locs hp hw => ?_)
  obtain ⟨rfl, rfl, rfl, rfl, rfl, hp⟩ := hp
  rcases hp with ⟨i, hi, rfl, h0, rfl⟩ | ⟨hn, rfl⟩
  · have hB := hMX.2.1 i hi
    have hg := (hMR.2 i hi).2 h0
    have hR := hg.2
    have hy := fnd_y hi h0
    have ecl : (nI i).toNatClampNeg = i := nI_clamp (by omega)
    have hF : S.1 i ≤ 64 := (hS.1 i hi).1
    refine w_astore_n hx hb dX5_only_5 rfl hl (Nat.le_of_ble_eq_true rfl) (fun ls hl => ?_)
    refine lv_aload_n hx hb dX5_only_6 rfl (hl.at rfl) ?_
    refine lv_ifnonnull (tgt := 13) hx hb dX5_only_7 (by decide) ?_
    refine lv_iload_n hx hb dX5_only_13 rfl (hl.at rfl) ?_
    refine lv_if_lt (tgt := 24) hx hb dX5_only_14 (by decide) (fun h14 => ?_) (fun h14 => ?_)
    · refine lv_iconst (v := -1) hx hb dX5_only_24 (by decide) ?_
      have eo : onS S (nI i) n = (S, -1) := by unfold onS; rw [if_neg (by rw [hy]; decide), ecl, if_pos (Or.inl h14)]
      exact w_iret C hw hr hlocks dX5_only_25 ⟨rfl, rfl, rfl, rfl, by rw [eo], by rw [eo]; exact hMR, FM.refl⟩
    · refine lv_iload_n hx hb dX5_only_17 rfl (hl.at rfl) ?_
      refine lv_sipush (v := 2000) hx hb dX5_only_18 (by decide) ?_
      refine lv_icmp_le (tgt := 26) hx hb dX5_only_21 (by decide) (fun h21 => ?_) (fun h21 => ?_)
      · obtain ⟨N, hNN, rfl⟩ := nI_of2 (M := 2000) (n := 2000) (by decide) h14 h21
        have eo : onS S (nI i) (nI N) = (addSt (onlL i N 0 S).1 (nI (onlL i N 0 S).2), nI (onlL i N 0 S).2) := by unfold onS; rw [if_neg (by rw [hy]; decide), ecl, if_neg (fun q => q.elim h14 (fun q => Int32.not_lt.mpr h21 q)), nI_clamp (show N < 2 ^ 31 by omega)]
        refine lv_iconst (v := 0) hx hb dX5_only_26 (by decide) ?_
        refine w_istore hx hb dX5_only_27 hl (Nat.le_of_ble_eq_true rfl) (fun ls hl => ?_)
        have k53 : ∀ (Z1 : ZT) (k : Nat) (H : Heap) (locs : List Loc) (ls : Array Slot) (S1 : HS), lo ls [some (.ref (X.1 30 0)), some (.int (nI i)), some (.int (nI N)), some (.ref (X.1 40 i)), some (.int (nI k))] → onlL i N 0 S = (S1, k) → MR Z1 S1 → FM Z Z1 → Wd sz0 D cs s X Z1 Y H locs → W p l e ({ frames := 7, cells := 0, slots := 0, locals := 166 } : Room) s m ([.ref (X.1 30 0), .int (nI i), .int (nI N)] : List Value).toArray below meth c H locs 0 0 (xQ below (CQ sz0 D cs (Pz X Y (fun Z' v => v = some (.int (onS S (nI i) (nI N)).2) ∧ MR Z' (onS S (nI i) (nI N)).1 ∧ FM Z Z'))) ([.ref (X.1 30 0), .int (nI i), .int (nI N)] : List Value).toArray s (Asz sz0)) (F0 m 53 ls []) := by
          intro Z1 k H locs ls S1 hl hr1 hM1 hFM hw
          obtain ⟨n1, n2, n3, n4⟩ := hM1.1
          refine lv_aload_n hx hb dX5_only_53 rfl (hl.at rfl) ?_
          refine lv_dup hx hb dX5_only_54 rfl ?_
          refine w_get C hw (c0 := 30) (i0 := 0) rfl inA5 4 (by decide) mw93 rfl dX5_only_55 (hM 30 (by decide) (by decide)) rfl rfl rfl ?_
          rw [n4]
          refine lv_iload hx hb dX5_only_58 (hl.at rfl) ?_
          refine lv_iadd hx hb dX5_only_60 ?_
          refine w_put C hw (c0 := 30) (i0 := 0) rfl inA5 tyX5_ok nmX5 4 (by decide) mw93 rfl rfl rfl dX5_only_61 (hM 30 (by decide) (by decide)) rfl rfl rfl rfl (Nat.le_of_ble_eq_true rfl) rfl (fun H locs hw => ?_)
          refine lv_iload hx hb dX5_only_64 (hl.at rfl) ?_
          exact w_iret C hw hr hlocks dX5_only_66 ⟨rfl, rfl, rfl, rfl, by rw [eo, hr1], by rw [eo, hr1]; exact MR_num hM1 (by simp [upd, n1, n2, n3]), hFM.up (by decide)⟩
        have loop : ∀ (d k : Nat), k + d = N → ∀ (Z1 : ZT) (S1 : HS) (H : Heap) (locs : List Loc) (ls : Array Slot), lo ls [some (.ref (X.1 30 0)), some (.int (nI i)), some (.int (nI N)), some (.ref (X.1 40 i)), some (.int (nI k))] → onlL i N 0 S = onlL i d k S1 → S1.1 i ≠ 0 → HOK S1 → MR Z1 S1 → FM Z Z1 → Wd sz0 D cs s X Z1 Y H locs → W p l e ({ frames := 7, cells := 0, slots := 0, locals := 166 } : Room) s m ([.ref (X.1 30 0), .int (nI i), .int (nI N)] : List Value).toArray below meth c H locs 0 0 (xQ below (CQ sz0 D cs (Pz X Y (fun Z' v => v = some (.int (onS S (nI i) (nI N)).2) ∧ MR Z' (onS S (nI i) (nI N)).1 ∧ FM Z Z'))) ([.ref (X.1 30 0), .int (nI i), .int (nI N)] : List Value).toArray s (Asz sz0)) (F0 m 29 ls []) := by
          intro d
          induction d with
          | zero =>
              intro k hk Z1 S1 H locs ls hl hr1 h01 hS1 hM1 hFM hw
              refine lv_iload hx hb dX5_only_29 (hl.at rfl) ?_
              refine lv_iload_n hx hb dX5_only_31 rfl (hl.at rfl) ?_
              refine lv_icmp_ge (tgt := 53) hx hb dX5_only_32 (by decide) (fun h32 => ?_) (fun h32 => ?_)
              · exact k53 Z1 k _ _ _ S1 hl hr1 hM1 hFM hw
              · exact absurd (nI_le (show N ≤ k by omega) (by omega)) h32
          | succ d ih =>
              intro k hk Z1 S1 H locs ls hl hr1 h01 hS1 hM1 hFM hw
              refine lv_iload hx hb dX5_only_29 (hl.at rfl) ?_
              refine lv_iload_n hx hb dX5_only_31 rfl (hl.at rfl) ?_
              refine lv_icmp_ge (tgt := 53) hx hb dX5_only_32 (by decide) (fun h32 => ?_) (fun h32 => ?_)
              · exact absurd h32 (nI_ge (show k < N by omega) (by omega))
              · have hr1 : onlL i N 0 S = if S1.2.1 i 0 1 = 1 then onlL i d (k + 1) (stp1 S1 i) else (S1, k) := hr1
                have hR1 := ((hM1.2 i hi).2 h01).2
                refine lv_aload_n hx hb dX5_only_35 rfl (hl.at rfl) ?_
                refine w_get C hw (c0 := 40) (i0 := i) rfl inA4 12 (by decide) mw238 rfl dX5_only_36 (hB 40 (by decide) (by decide)) rfl rfl rfl ?_
                rw [hR1.1.2.1]
                refine lv_iconst (v := 1) hx hb dX5_only_39 (by decide) ?_
                refine lv_icmp_ne (tgt := 53) hx hb dX5_only_40 (by decide) (fun h40 => ?_) (fun h40 => ?_)
                · rw [if_neg h40] at hr1
                  exact k53 Z1 k _ _ _ S1 hl hr1 hM1 hFM hw
                · rw [if_pos h40] at hr1
                  refine lv_aload_n hx hb dX5_only_43 rfl (hl.at rfl) ?_
                  refine w_callV C hN hw (c_X4_step l sz0 D cs X _ Y i hB (S1.1 i) (S1.2.1 i) (hS1.1 i hi).1 hR1 ((hS1.1 i hi).2 h01)) ⟨(Nat.le_of_ble_eq_true rfl), (Nat.le_of_ble_eq_true rfl), mw456, mw71, cy_X4_step⟩ mw453 mw454 mw455 (w_rec hw (c0 := 40) (i0 := i) (hB 40 (by decide) (by decide)) rfl rfl) rfl hl.1.1 rfl (Nat.le_of_ble_eq_true rfl) dX5_only_44 ⟨Nat.le_of_ble_eq_true rfl, Nat.le_of_ble_eq_true rfl⟩ (fun X' Z' Y' v k n H locs hp hw => ?_)
                  obtain ⟨rfl, rfl, rfl, rfl, rfl, hR2, hSB⟩ := hp
                  refine w_iinc hx hb dX5_only_47 hl rfl rfl (fun ls hl => ?_)
                  refine lv_goto (tgt := 29) hx hb dX5_only_50 (by decide) ?_
                  exact ih (k + 1) (by omega) _ (stp1 S1 i) _ _ _ (by rw [← nI_1]; exact hl) hr1 h01 (HOK_stp hS1 hi) (MR_set hM1 h01 hi hSB hR2) (hFM.sb hSB) hw
        exact loop N 0 (by omega) Z S _ _ _ hl rfl h0 hS hMR FM.refl hw
      · refine lv_iconst (v := -1) hx hb dX5_only_24 (by decide) ?_
        have eo : onS S (nI i) n = (S, -1) := by unfold onS; rw [if_neg (by rw [hy]; decide), ecl, if_pos (Or.inr (Int32.not_le.mp h21))]
        exact w_iret C hw hr hlocks dX5_only_25 ⟨rfl, rfl, rfl, rfl, by rw [eo], by rw [eo]; exact hMR, FM.refl⟩
  · refine w_astore_nN hx hb dX5_only_5 rfl hl (Nat.le_of_ble_eq_true rfl) (fun ls hl => ?_)
    refine lv_aload_nN hx hb dX5_only_6 rfl (hl.at rfl) ?_
    refine lv_ifnonnullN hx hb dX5_only_7 ?_
    refine lv_bipush (v := -14) hx hb dX5_only_10 (by decide) ?_
    exact w_iret C hw hr hlocks dX5_only_12 ⟨rfl, rfl, rfl, rfl, by unfold onS; rw [if_pos hn], by unfold onS; rw [if_pos hn]; exact hMR, FM.refl⟩
