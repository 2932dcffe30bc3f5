/-! ===== GuestHouseModel: the calls that change it ===== -/

set_option maxHeartbeats 4000000 in
set_option maxRecDepth 100000 in
theorem c_X5_told (l : Launch) (sz0 : Nat) (D : va_G) (cs : Nat → ClassId) (X : Sh) (Z : ZT) (Y : va_W) (S : HS) (hS : HOK S) (hMX : MRx X) (hMR : MR Z S) (a : Int32) (w : Int32)  : Ctr l yX5_told (wsM yX5_told cX5_told 4 (some .int)) ({ frames := 1, cells := 0, slots := 0, locals := 21 } : Room) sz0 D cs [.ref (X.1 30 0), .int a, .int w] X Z Y (Pz X Y (fun Z' v => v = some (.int (tolQ S a w)) ∧ Z = Z')) := by
  refine Ctr.ofW (by decide +kernel) (by intro v hv; simp at hv; rcases hv with rfl | rfl | rfl <;> rfl) (Nat.le_of_ble_eq_true rfl) ?_
  intro p e s m below meth c ls C hr hlocks hname hl hN hw
  obtain ⟨hx, hb, hml, hown, hts⟩ := id C
  have hM := hMX.1
  refine lv_aload_n hx hb dX5_told_0 rfl (hl.at rfl) ?_
  refine lv_iload_n hx hb dX5_told_1 rfl (hl.at rfl) ?_
  refine w_callV C hN hw (c_X5_of l sz0 D cs X _ Y S hS hMX hMR a) ⟨(Nat.le_of_ble_eq_true rfl), (Nat.le_of_ble_eq_true rfl), mw243, mw6, cy_X5_of⟩ mw240 mw241 mw242 (w_rec hw (c0 := 30) (i0 := 0) (hM 30 (by decide) (by decide)) rfl rfl) rfl hl.1.1 rfl (Nat.le_of_ble_eq_true rfl) dX5_told_2 ⟨Nat.le_of_ble_eq_true rfl, Nat.le_of_ble_eq_true rfl⟩ (fun X' Z' Y' v k n H locs hp hw => ?_)
  obtain ⟨rfl, rfl, rfl, rfl, rfl, hp⟩ := hp
  rcases hp with ⟨i, hi, rfl, h0, rfl⟩ | ⟨hn, rfl⟩
  · have hB := hMX.2.1 i hi
    have hg := (hMR.2 i hi).2 h0
    have hR := hg.2
    have hy := fnd_y hi h0
    have ecl : (nI i).toNatClampNeg = i := nI_clamp (by omega)
    have hF : S.1 i ≤ 64 := (hS.1 i hi).1
    refine w_astore_n hx hb dX5_told_5 rfl hl (Nat.le_of_ble_eq_true rfl) (fun ls hl => ?_)
    refine lv_aload_n hx hb dX5_told_6 rfl (hl.at rfl) ?_
    refine lv_ifnull hx hb dX5_told_7 ?_
    refine lv_iload_n hx hb dX5_told_10 rfl (hl.at rfl) ?_
    refine lv_if_lt (tgt := 20) hx hb dX5_told_11 (by decide) (fun h11 => ?_) (fun h11 => ?_)
    · refine lv_iconst (v := 0) hx hb dX5_told_20 (by decide) ?_
      exact w_iret C hw hr hlocks dX5_told_21 ⟨rfl, rfl, rfl, rfl, by unfold tolQ; rw [if_neg (by rw [hy]; decide), ecl, tel_neg h11], rfl⟩
    · refine lv_iload_n hx hb dX5_told_14 rfl (hl.at rfl) ?_
      refine lv_bipush (v := 23) hx hb dX5_told_15 (by decide) ?_
      refine lv_icmp_le (tgt := 22) hx hb dX5_told_17 (by decide) (fun h17 => ?_) (fun h17 => ?_)
      · obtain ⟨n, hn23, rfl⟩ := nI_of2 (M := 23) (n := 23) (by decide) h11 h17
        have k57 : (n = 8 ∨ n = 9 ∨ 19 ≤ n) → ∀ (H : Heap) (locs : List Loc) (ls : Array Slot), lo ls [some (.ref (X.1 30 0)), some (.int (nI i)), some (.int (nI n)), some (.ref (X.1 40 i))] → Wd sz0 D cs s X Z Y H locs → W p l e ({ frames := 1, cells := 0, slots := 0, locals := 21 } : Room) s m ([.ref (X.1 30 0), .int (nI i), .int (nI n)] : List Value).toArray below meth c H locs 0 0 (xQ below (CQ sz0 D cs (Pz X Y (fun Z' v => v = some (.int (tolQ S (nI i) (nI n))) ∧ Z = Z'))) ([.ref (X.1 30 0), .int (nI i), .int (nI n)] : List Value).toArray s (Asz sz0)) (F0 m 57 ls []) := by
          intro hn57 H locs ls hl hw
          refine lv_iload_n hx hb dX5_told_57 rfl (hl.at rfl) ?_
          have h7c : n = 8 ∨ n = 9 ∨ n = 19 ∨ n = 20 ∨ n = 21 ∨ n = 22 ∨ n = 23 := by omega
          rcases h7c with rfl | rfl | rfl | rfl | rfl | rfl | rfl
          · refine lv_tableIn (off := 74) (tgt := 132) hx hb dX5_told_58 (by decide) (by decide) (by decide) (by decide) ?_
            refine lv_aload_n hx hb dX5_told_132 rfl (hl.at rfl) ?_
            refine w_get C hw (c0 := 40) (i0 := i) rfl inA4 10 (by decide) mw540 rfl dX5_told_133 (hB 40 (by decide) (by decide)) rfl rfl rfl ?_
            exact w_iret C hw hr hlocks dX5_told_136 ⟨rfl, rfl, rfl, rfl, by unfold tolQ; rw [if_neg (by rw [hy]; decide), ecl, show nI 8 = (8 : Int32) from rfl, tel_8, ← hR.1.2.2.1], rfl⟩
          · refine lv_tableIn (off := 79) (tgt := 137) hx hb dX5_told_58 (by decide) (by decide) (by decide) (by decide) ?_
            refine lv_aload_n hx hb dX5_told_137 rfl (hl.at rfl) ?_
            refine w_get C hw (c0 := 40) (i0 := i) rfl inA4 11 (by decide) mw541 rfl dX5_told_138 (hB 40 (by decide) (by decide)) rfl rfl rfl ?_
            exact w_iret C hw hr hlocks dX5_told_141 ⟨rfl, rfl, rfl, rfl, by unfold tolQ; rw [if_neg (by rw [hy]; decide), ecl, show nI 9 = (9 : Int32) from rfl, tel_9, ← hR.1.2.2.2.1], rfl⟩
          · refine lv_tableIn (off := 84) (tgt := 142) hx hb dX5_told_58 (by decide) (by decide) (by decide) (by decide) ?_
            refine lv_aload_n hx hb dX5_told_142 rfl (hl.at rfl) ?_
            refine w_get C hw (c0 := 40) (i0 := i) rfl inA4 0 (by decide) mw542 rfl dX5_told_143 (hB 40 (by decide) (by decide)) rfl rfl rfl ?_
            exact w_iret C hw hr hlocks dX5_told_146 ⟨rfl, rfl, rfl, rfl, by unfold tolQ; rw [if_neg (by rw [hy]; decide), ecl, show nI 19 = nI (9 + 10) from rfl, tel_k (by decide), ((hS.1 i hi).2 h0).2.2.1, hR.1.1], rfl⟩
          · refine lv_tableIn (off := 89) (tgt := 147) hx hb dX5_told_58 (by decide) (by decide) (by decide) (by decide) ?_
            refine lv_aload_n hx hb dX5_told_147 rfl (hl.at rfl) ?_
            refine w_get C hw (c0 := 40) (i0 := i) rfl inA4 14 (by decide) mw290 rfl dX5_told_148 (hB 40 (by decide) (by decide)) rfl rfl rfl ?_
            exact w_iret C hw hr hlocks dX5_told_151 ⟨rfl, rfl, rfl, rfl, by unfold tolQ; rw [if_neg (by rw [hy]; decide), ecl, show nI 20 = (20 : Int32) from rfl, tel_20, ← hR.1.2.2.2.2.2.2.1], rfl⟩
          · refine lv_tableIn (off := 94) (tgt := 152) hx hb dX5_told_58 (by decide) (by decide) (by decide) (by decide) ?_
            refine lv_aload_n hx hb dX5_told_152 rfl (hl.at rfl) ?_
            refine w_get C hw (c0 := 40) (i0 := i) rfl inA4 15 (by decide) mw543 rfl dX5_told_153 (hB 40 (by decide) (by decide)) rfl rfl rfl ?_
            exact w_iret C hw hr hlocks dX5_told_156 ⟨rfl, rfl, rfl, rfl, by unfold tolQ; rw [if_neg (by rw [hy]; decide), ecl, show nI 21 = (21 : Int32) from rfl, tel_21, ← hR.1.2.2.2.2.2.2.2], rfl⟩
          · refine lv_tableIn (off := 99) (tgt := 157) hx hb dX5_told_58 (by decide) (by decide) (by decide) (by decide) ?_
            refine lv_aload_n hx hb dX5_told_157 rfl (hl.at rfl) ?_
            refine w_get C hw (c0 := 40) (i0 := i) rfl inA4 13 (by decide) mw544 rfl dX5_told_158 (hB 40 (by decide) (by decide)) rfl rfl rfl ?_
            exact w_iret C hw hr hlocks dX5_told_161 ⟨rfl, rfl, rfl, rfl, by unfold tolQ; rw [if_neg (by rw [hy]; decide), ecl, show nI 22 = (22 : Int32) from rfl, tel_22, ← hR.1.2.2.2.2.1], rfl⟩
          · refine lv_tableOut (tgt := 162) hx hb dX5_told_58 (by decide) (by decide) ?_
            refine lv_aload_n hx hb dX5_told_162 rfl (hl.at rfl) ?_
            refine w_get C hw (c0 := 40) (i0 := i) rfl inA4 16 (by decide) mw545 rfl dX5_told_163 (hB 40 (by decide) (by decide)) rfl rfl rfl ?_
            exact w_iret C hw hr hlocks dX5_told_166 ⟨rfl, rfl, rfl, rfl, by unfold tolQ; rw [if_neg (by rw [hy]; decide), ecl, show nI 23 = (23 : Int32) from rfl, tel_23, ← hR.1.2.2.2.2.2.1], rfl⟩
        refine lv_iload_n hx hb dX5_told_22 rfl (hl.at rfl) ?_
        refine lv_bipush (v := 8) hx hb dX5_told_23 (by decide) ?_
        refine lv_icmp_ge (tgt := 35) hx hb dX5_told_25 (by decide) (fun h25 => ?_) (fun h25 => ?_)
        · have h8 : 8 ≤ n := (nI_leI (by decide) (by omega)).mp h25
          refine lv_iload_n hx hb dX5_told_35 rfl (hl.at rfl) ?_
          refine lv_bipush (v := 9) hx hb dX5_told_36 (by decide) ?_
          refine lv_icmp_le (tgt := 57) hx hb dX5_told_38 (by decide) (fun h38 => ?_) (fun h38 => ?_)
          · have h9 : n ≤ 9 := (nI_leI (by omega) (by decide)).mp h38
            exact k57 (by omega) _ _ _ hl hw
          · refine lv_iload_n hx hb dX5_told_41 rfl (hl.at rfl) ?_
            refine lv_bipush (v := 19) hx hb dX5_told_42 (by decide) ?_
            refine lv_icmp_ge (tgt := 57) hx hb dX5_told_44 (by decide) (fun h44 => ?_) (fun h44 => ?_)
            · have h19 : 19 ≤ n := (nI_leI (by decide) (by omega)).mp h44
              exact k57 (by omega) _ _ _ hl hw
            · have h9 : ¬ n ≤ 9 := fun q => h38 (nI_le q (by decide))
              have h19 : ¬ 19 ≤ n := fun q => h44 (nI_le q (by omega))
              obtain ⟨n', rfl⟩ : ∃ n', n = n' + 10 := ⟨n - 10, by omega⟩
              refine lv_aload_n hx hb dX5_told_47 rfl (hl.at rfl) ?_
              refine w_get C hw (c0 := 40) (i0 := i) rfl inA4 5 (by decide) mw539 rfl dX5_told_48 (hB 40 (by decide) (by decide)) rfl rfl rfl ?_
              refine lv_iload_n hx hb dX5_told_51 rfl (hl.at rfl) ?_
              refine lv_bipush (v := 10) hx hb dX5_told_52 (by decide) ?_
              refine lv_isub hx hb dX5_told_54 ?_
              refine lv_topi (fun y ey => ?_)
              obtain rfl : y = nI n' := ey.trans (by rw [← nI_add, show nI 10 = (10 : Int32) from rfl, Int32.add_sub_cancel])
              refine w_ild C hw (c0 := 44) (i0 := i) dX5_told_55 (hB 44 (by decide) (by decide)) rfl rfl (vp_in_nI (show n' < 9 by omega) (by decide)) (nI_clamp (by omega)) ?_
              exact w_iret C hw hr hlocks dX5_told_56 ⟨rfl, rfl, rfl, rfl, by unfold tolQ; rw [if_neg (by rw [hy]; decide), ecl, tel_k (by omega), hR.k (by omega)], rfl⟩
        · have h8 : n < 8 := Nat.not_le.mp (fun q => h25 (nI_le q (by omega)))
          refine lv_aload_n hx hb dX5_told_28 rfl (hl.at rfl) ?_
          refine w_get C hw (c0 := 40) (i0 := i) rfl inA4 4 (by decide) mw538 rfl dX5_told_29 (hB 40 (by decide) (by decide)) rfl rfl rfl ?_
          refine lv_iload_n hx hb dX5_told_32 rfl (hl.at rfl) ?_
          refine w_ild C hw (c0 := 43) (i0 := i) dX5_told_33 (hB 43 (by decide) (by decide)) rfl rfl (vp_in_nI h8 (by decide)) (nI_clamp (by omega)) ?_
          exact w_iret C hw hr hlocks dX5_told_34 ⟨rfl, rfl, rfl, rfl, by unfold tolQ; rw [if_neg (by rw [hy]; decide), ecl, tel_r h8, hR.r h8], rfl⟩
      · refine lv_iconst (v := 0) hx hb dX5_told_20 (by decide) ?_
        exact w_iret C hw hr hlocks dX5_told_21 ⟨rfl, rfl, rfl, rfl, by unfold tolQ; rw [if_neg (by rw [hy]; decide), ecl, tel_big h17], rfl⟩
  · refine w_astore_nN hx hb dX5_told_5 rfl hl (Nat.le_of_ble_eq_true rfl) (fun ls hl => ?_)
    refine lv_aload_nN hx hb dX5_told_6 rfl (hl.at rfl) ?_
    refine lv_ifnullN (tgt := 20) hx hb dX5_told_7 (by decide) ?_
    refine lv_iconst (v := 0) hx hb dX5_told_20 (by decide) ?_
    exact w_iret C hw hr hlocks dX5_told_21 ⟨rfl, rfl, rfl, rfl, by unfold tolQ; rw [if_pos hn], rfl⟩
