/-! ===== the audit: nothing is wrong ===== -/
theorem and_1800 {x : Int32} (h : x &&& 1799 = x) : x &&& (-1800) = 0 := by
  rw [← h, Int32.and_assoc, show ((1799 : Int32) &&& (-1800)) = 0 by decide, Int32.and_zero]
theorem shr3 {n : Nat} (h : n < 2 ^ 31) : nI n >>> ((3 : Int32) &&& 31) = nI (n / 8) := pk_shrN h _ 3 (by decide)

set_option maxHeartbeats 4000000 in
set_option maxRecDepth 100000 in
theorem c_X0_countFaults (l : Launch) (sz0 : Nat) (D : va_G) (cs : Nat → ClassId) (X : Sh) (Z : ZT) (Y : va_W) (i : Nat) (hG : GI X i) (F : Nat) (g : GS) (hF : F ≤ 64) (hF6 : Z 20 i 6 = nI F) (hR : GR Z i F g) (hV : GInv F g) : Ctr l yX0_countFaults (wsM yX0_countFaults cX0_countFaults 7 (some .int)) ({ frames := 1, cells := 0, slots := 0, locals := 21 } : Room) sz0 D cs [.ref (X.1 20 i)] X Z Y (Pz X Y (fun Z' v => Z = Z' ∧ v = some (.int 0))) := by
  refine Ctr.ofW (by decide +kernel) (by intro v hv; simp at hv; rcases hv with rfl <;> rfl) (Nat.le_of_ble_eq_true rfl) ?_
  intro p e s m below meth c ls C hr hlocks hname hl hN hw
  obtain ⟨hx, hb, hml, hown, hts⟩ := id C
  obtain ⟨v1, v2, v3, v4⟩ := hV
  obtain ⟨o, w, ho, hw64, e13, e14, -⟩ := hR.2.2.2.2.2.2.1
  have k171 : ∀ (j : Nat) (x4 x5 x6 : Option Value) (H : Heap) (locs : List Loc) (ls : Array Slot), (∀ (H : Heap) (locs : List Loc) (ls : Array Slot) (x4 x5 x6 : Option Value), lo ls [some (.ref (X.1 20 i)), some (.int 0), some (.int (g 4 5)), some (.int (nI (j + 1))), x4, x5, x6] → Wd sz0 D cs s X Z Y H locs → W p l e ({ frames := 1, cells := 0, slots := 0, locals := 21 } : Room) s m ([.ref (X.1 20 i)] : List Value).toArray below meth c H locs 0 0 (xQ below (CQ sz0 D cs (Pz X Y (fun Z' v => Z = Z' ∧ v = some (.int 0)))) ([.ref (X.1 20 i)] : List Value).toArray s (Asz sz0)) (F0 m 97 ls [])) → lo ls [some (.ref (X.1 20 i)), some (.int 0), some (.int (g 4 5)), some (.int (nI j)), x4, x5, x6] → Wd sz0 D cs s X Z Y H locs → W p l e ({ frames := 1, cells := 0, slots := 0, locals := 21 } : Room) s m ([.ref (X.1 20 i)] : List Value).toArray below meth c H locs 0 0 (xQ below (CQ sz0 D cs (Pz X Y (fun Z' v => Z = Z' ∧ v = some (.int 0)))) ([.ref (X.1 20 i)] : List Value).toArray s (Asz sz0)) (F0 m 171 ls [.int 1]) := by
    intro j x4 x5 x6 H locs ls kk hl hw
    refine w_istore hx hb dX0_countFaults_171 hl (Nat.le_of_ble_eq_true rfl) (fun ls hl => ?_)
    refine lv_iload_n hx hb dX0_countFaults_173 rfl (hl.at rfl) ?_
    refine lv_iload hx hb dX0_countFaults_174 (hl.at rfl) ?_
    refine lv_if_eq (tgt := 183) hx hb dX0_countFaults_176 (by decide) (fun h176 => ?_) (fun h176 => ?_)
    · exact absurd h176 (by decide)
    · refine lv_iconst (v := 0) hx hb dX0_countFaults_179 (by decide) ?_
      refine lv_goto (tgt := 184) hx hb dX0_countFaults_180 (by decide) ?_
      refine lv_iadd hx hb dX0_countFaults_184 ?_
      refine lv_topi (fun y ey => ?_)
      obtain rfl : y = 0 := ey.trans (by decide)
      refine w_istore_n hx hb dX0_countFaults_185 rfl hl (Nat.le_of_ble_eq_true rfl) (fun ls hl => ?_)
      refine w_iinc hx hb dX0_countFaults_186 hl rfl rfl (fun ls hl => ?_)
      refine lv_goto (tgt := 97) hx hb dX0_countFaults_189 (by decide) ?_
      exact kk _ _ _ _ _ _ (by rw [← nI_1 j]; exact hl) hw
  have k139 : ∀ (j : Nat) (b5 : Int32) (x6 : Option Value) (H : Heap) (locs : List Loc) (ls : Array Slot), (g 5 j = -1 ∨ (b5 ≠ 0 ∧ ∃ e, e < 8 * F ∧ g 5 j = nI e)) → (∀ (H : Heap) (locs : List Loc) (ls : Array Slot) (x4 x5 x6 : Option Value), lo ls [some (.ref (X.1 20 i)), some (.int 0), some (.int (g 4 5)), some (.int (nI (j + 1))), x4, x5, x6] → Wd sz0 D cs s X Z Y H locs → W p l e ({ frames := 1, cells := 0, slots := 0, locals := 21 } : Room) s m ([.ref (X.1 20 i)] : List Value).toArray below meth c H locs 0 0 (xQ below (CQ sz0 D cs (Pz X Y (fun Z' v => Z = Z' ∧ v = some (.int 0)))) ([.ref (X.1 20 i)] : List Value).toArray s (Asz sz0)) (F0 m 97 ls [])) → lo ls [some (.ref (X.1 20 i)), some (.int 0), some (.int (g 4 5)), some (.int (nI j)), some (.int (g 5 j)), some (.int b5), x6] → Wd sz0 D cs s X Z Y H locs → W p l e ({ frames := 1, cells := 0, slots := 0, locals := 21 } : Room) s m ([.ref (X.1 20 i)] : List Value).toArray below meth c H locs 0 0 (xQ below (CQ sz0 D cs (Pz X Y (fun Z' v => Z = Z' ∧ v = some (.int 0)))) ([.ref (X.1 20 i)] : List Value).toArray s (Asz sz0)) (F0 m 139 ls []) := by
    intro j b5 x6 H locs ls hc kk hl hw
    refine lv_iload hx hb dX0_countFaults_139 (hl.at rfl) ?_
    refine lv_iconst (v := -1) hx hb dX0_countFaults_141 (by decide) ?_
    refine lv_icmp_eq (tgt := 166) hx hb dX0_countFaults_142 (by decide) (fun h142 => ?_) (fun h142 => ?_)
    · refine lv_iconst (v := 1) hx hb dX0_countFaults_166 (by decide) ?_
      refine lv_goto (tgt := 171) hx hb dX0_countFaults_167 (by decide) ?_
      exact k171 j _ _ _ _ _ _ kk hl hw
    · rcases hc with q | ⟨hb5, en, hen, e5⟩
      · exact absurd q h142
      · refine lv_iload hx hb dX0_countFaults_145 (hl.at rfl) ?_
        refine lv_if_lt (tgt := 170) hx hb dX0_countFaults_147 (by decide) (fun h147 => ?_) (fun h147 => ?_)
        · exact absurd h147 (by rw [e5]; exact nI_pos (by omega))
        · refine lv_iload hx hb dX0_countFaults_150 (hl.at rfl) ?_
          refine lv_iconst (v := 3) hx hb dX0_countFaults_152 (by decide) ?_
          refine lv_ishr hx hb dX0_countFaults_153 ?_
          refine lv_aload_n hx hb dX0_countFaults_154 rfl (hl.at rfl) ?_
          refine w_get C hw (c0 := 20) (i0 := i) rfl inA0 6 (by decide) mw128 rfl dX0_countFaults_155 (hG 20 (by decide) (by decide)) rfl rfl rfl ?_
          rw [hF6, e5, shr3 (by omega)]
          refine lv_icmp_ge (tgt := 170) hx hb dX0_countFaults_158 (by decide) (fun h158 => ?_) (fun h158 => ?_)
          · exact absurd h158 (nI_ge (show en / 8 < F by omega) (by omega))
          · refine lv_iload hx hb dX0_countFaults_161 (hl.at rfl) ?_
            refine lv_if_eq (tgt := 170) hx hb dX0_countFaults_163 (by decide) (fun h163 => ?_) (fun h163 => ?_)
            · exact absurd h163 hb5
            · refine lv_iconst (v := 1) hx hb dX0_countFaults_166 (by decide) ?_
              refine lv_goto (tgt := 171) hx hb dX0_countFaults_167 (by decide) ?_
              exact k171 j _ _ _ _ _ _ kk hl hw
  have loop : ∀ (d j : Nat), j + d = 256 → ∀ (H : Heap) (locs : List Loc) (ls : Array Slot) (x4 x5 x6 : Option Value), lo ls [some (.ref (X.1 20 i)), some (.int 0), some (.int (g 4 5)), some (.int (nI j)), x4, x5, x6] → Wd sz0 D cs s X Z Y H locs → W p l e ({ frames := 1, cells := 0, slots := 0, locals := 21 } : Room) s m ([.ref (X.1 20 i)] : List Value).toArray below meth c H locs 0 0 (xQ below (CQ sz0 D cs (Pz X Y (fun Z' v => Z = Z' ∧ v = some (.int 0)))) ([.ref (X.1 20 i)] : List Value).toArray s (Asz sz0)) (F0 m 97 ls []) := by
    intro d
    induction d with
    | zero =>
      intro j hj H locs ls x4 x5 x6 hl hw
      refine lv_iload_n hx hb dX0_countFaults_97 rfl (hl.at rfl) ?_
      refine lv_sipush (v := 256) hx hb dX0_countFaults_98 (by decide) ?_
      refine lv_icmp_ge (tgt := 192) hx hb dX0_countFaults_101 (by decide) (fun h101 => ?_) (fun h101 => ?_)
      · refine lv_iload_n hx hb dX0_countFaults_192 rfl (hl.at rfl) ?_
        exact w_iret C hw hr hlocks dX0_countFaults_193 ⟨rfl, rfl, rfl, rfl, rfl, rfl⟩
      · exact absurd (nI_le (show 256 ≤ j by omega) (by omega)) h101
    | succ d ih =>
      intro j hj H locs ls x4 x5 x6 hl hw
      refine lv_iload_n hx hb dX0_countFaults_97 rfl (hl.at rfl) ?_
      refine lv_sipush (v := 256) hx hb dX0_countFaults_98 (by decide) ?_
      refine lv_icmp_ge (tgt := 192) hx hb dX0_countFaults_101 (by decide) (fun h101 => ?_) (fun h101 => ?_)
      · exact absurd h101 (nI_ge (show j < 256 by omega) (by decide))
      · have hj256 : j < 256 := by omega
        refine lv_aload_n hx hb dX0_countFaults_104 rfl (hl.at rfl) ?_
        refine w_get C hw (c0 := 20) (i0 := i) rfl inA0 11 (by decide) mw119 rfl dX0_countFaults_105 (hG 20 (by decide) (by decide)) rfl rfl rfl ?_
        refine lv_iload_n hx hb dX0_countFaults_108 rfl (hl.at rfl) ?_
        refine w_ild C hw (c0 := 25) (i0 := i) dX0_countFaults_109 (hG 25 (by decide) (by decide)) rfl rfl (vp_in_nI hj256 (by decide)) (nI_clamp (by omega)) ?_
        rw [hR.2.2.2.2.2.1 j hj256]
        refine w_istore hx hb dX0_countFaults_110 hl (Nat.le_of_ble_eq_true rfl) (fun ls hl => ?_)
        refine lv_iload_n hx hb dX0_countFaults_112 rfl (hl.at rfl) ?_
        have kk := ih (j + 1) (by omega)
        refine lv_if_ge (tgt := 136) hx hb dX0_countFaults_113 (by decide) (fun h113 => ?_) (fun h113 => ?_)
        · refine lv_iconst (v := 0) hx hb dX0_countFaults_136 (by decide) ?_
          refine w_istore hx hb dX0_countFaults_137 hl (Nat.le_of_ble_eq_true rfl) (fun ls hl => ?_)
          refine k139 j 0 _ _ _ _ ((v4 j hj256).elim Or.inl (fun ⟨e, q1, q2, q3, q4⟩ => absurd q3 (Int32.not_lt.mpr h113))) (fun H locs ls x4 x5 x6 => kk H locs ls x4 x5 x6) hl hw
        · refine lv_aload_n hx hb dX0_countFaults_116 rfl (hl.at rfl) ?_
          refine lv_bipush (v := 64) hx hb dX0_countFaults_117 (by decide) ?_
          refine lv_iload_n hx hb dX0_countFaults_119 rfl (hl.at rfl) ?_
          refine lv_bipush (v := 63) hx hb dX0_countFaults_120 (by decide) ?_
          refine lv_iand hx hb dX0_countFaults_122 ?_
          refine lv_imul hx hb dX0_countFaults_123 ?_
          refine lv_iload_n hx hb dX0_countFaults_124 rfl (hl.at rfl) ?_
          refine lv_iadd hx hb dX0_countFaults_125 ?_
          refine w_callV C hN hw (c_X0_hasWord l sz0 D cs X _ Y i hG _) ⟨(Nat.le_of_ble_eq_true rfl), (Nat.le_of_ble_eq_true rfl), mw185, mw111, cy_X0_hasWord⟩ mw631 mw183 mw184 (w_rec hw (c0 := 20) (i0 := i) (hG 20 (by decide) (by decide)) rfl rfl) rfl hl.1.1 rfl (Nat.le_of_ble_eq_true rfl) dX0_countFaults_126 ⟨Nat.le_of_ble_eq_true rfl, Nat.le_of_ble_eq_true rfl⟩ (fun X' Z' Y' v k n H locs hp hw => ?_)
          obtain ⟨rfl, rfl, rfl, rfl, rfl, rfl⟩ := hp
          rw [hF6]
          refine lv_if_eq (tgt := 136) hx hb dX0_countFaults_129 (by decide) (fun h129 => ?_) (fun h129 => ?_)
          · refine lv_iconst (v := 0) hx hb dX0_countFaults_136 (by decide) ?_
            refine w_istore hx hb dX0_countFaults_137 hl (Nat.le_of_ble_eq_true rfl) (fun ls hl => ?_)
            refine k139 j 0 _ _ _ _ ((v4 j hj256).elim Or.inl (fun ⟨e, q1, q2, q3, q4⟩ => absurd h129 q4)) (fun H locs ls x4 x5 x6 => kk H locs ls x4 x5 x6) hl hw
          · refine lv_iconst (v := 1) hx hb dX0_countFaults_132 (by decide) ?_
            refine lv_goto (tgt := 137) hx hb dX0_countFaults_133 (by decide) ?_
            refine w_istore hx hb dX0_countFaults_137 hl (Nat.le_of_ble_eq_true rfl) (fun ls hl => ?_)
            refine k139 j 1 _ _ _ _ ((v4 j hj256).elim Or.inl (fun ⟨e, q1, q2, q3, q4⟩ => Or.inr ⟨by decide, e, q1, q2⟩)) (fun H locs ls x4 x5 x6 => kk H locs ls x4 x5 x6) hl hw
  have k88 : ∀ (H : Heap) (locs : List Loc) (ls : Array Slot), lo ls [some (.ref (X.1 20 i)), some (.int 0), none, none, none, none, none] → Wd sz0 D cs s X Z Y H locs → W p l e ({ frames := 1, cells := 0, slots := 0, locals := 21 } : Room) s m ([.ref (X.1 20 i)] : List Value).toArray below meth c H locs 0 0 (xQ below (CQ sz0 D cs (Pz X Y (fun Z' v => Z = Z' ∧ v = some (.int 0)))) ([.ref (X.1 20 i)] : List Value).toArray s (Asz sz0)) (F0 m 88 ls []) := by
    intro H locs ls hl hw
    refine lv_aload_n hx hb dX0_countFaults_88 rfl (hl.at rfl) ?_
    refine w_get C hw (c0 := 20) (i0 := i) rfl inA0 10 (by decide) mw118 rfl dX0_countFaults_89 (hG 20 (by decide) (by decide)) rfl rfl rfl ?_
    refine lv_iconst (v := 5) hx hb dX0_countFaults_92 (by decide) ?_
    refine w_ild C hw (c0 := 24) (i0 := i) dX0_countFaults_93 (hG 24 (by decide) (by decide)) rfl rfl (vpk (by decide)) (j := 5) (by decide) ?_
    rw [hR.k (show 5 < 10 by decide)]
    refine w_istore_n hx hb dX0_countFaults_94 rfl hl (Nat.le_of_ble_eq_true rfl) (fun ls hl => ?_)
    refine lv_iconst (v := 0) hx hb dX0_countFaults_95 (by decide) ?_
    refine w_istore_n hx hb dX0_countFaults_96 rfl hl (Nat.le_of_ble_eq_true rfl) (fun ls hl => ?_)
    exact loop 256 0 (by decide) _ _ _ _ _ _ hl hw
  have k61 : ∀ (H : Heap) (locs : List Loc) (ls : Array Slot), lo ls [some (.ref (X.1 20 i)), some (.int 0), none, none, none, none, none] → Wd sz0 D cs s X Z Y H locs → W p l e ({ frames := 1, cells := 0, slots := 0, locals := 21 } : Room) s m ([.ref (X.1 20 i)] : List Value).toArray below meth c H locs 0 0 (xQ below (CQ sz0 D cs (Pz X Y (fun Z' v => Z = Z' ∧ v = some (.int 0)))) ([.ref (X.1 20 i)] : List Value).toArray s (Asz sz0)) (F0 m 61 ls [.int 0]) := by
    intro H locs ls hl hw
    refine lv_iconst (v := 0) hx hb dX0_countFaults_61 (by decide) ?_
    refine lv_iadd hx hb dX0_countFaults_62 ?_
    refine lv_topi (fun y ey => ?_)
    obtain rfl : y = 0 := ey.trans (by decide)
    refine w_istore_n hx hb dX0_countFaults_63 rfl hl (Nat.le_of_ble_eq_true rfl) (fun ls hl => ?_)
    refine lv_iload_n hx hb dX0_countFaults_64 rfl (hl.at rfl) ?_
    refine lv_aload_n hx hb dX0_countFaults_65 rfl (hl.at rfl) ?_
    refine w_get C hw (c0 := 20) (i0 := i) rfl inA0 14 (by decide) mw130 rfl dX0_countFaults_66 (hG 20 (by decide) (by decide)) rfl rfl rfl ?_
    rw [e14]
    refine lv_if_lt (tgt := 81) hx hb dX0_countFaults_69 (by decide) (fun h69 => ?_) (fun h69 => ?_)
    · exact absurd h69 (nI_pos (by omega))
    · refine lv_aload_n hx hb dX0_countFaults_72 rfl (hl.at rfl) ?_
      refine w_get C hw (c0 := 20) (i0 := i) rfl inA0 14 (by decide) mw130 rfl dX0_countFaults_73 (hG 20 (by decide) (by decide)) rfl rfl rfl ?_
      rw [e14]
      refine lv_bipush (v := 64) hx hb dX0_countFaults_76 (by decide) ?_
      refine lv_icmp_le (tgt := 85) hx hb dX0_countFaults_78 (by decide) (fun h78 => ?_) (fun h78 => ?_)
      · refine lv_iconst (v := 0) hx hb dX0_countFaults_85 (by decide) ?_
        refine lv_iadd hx hb dX0_countFaults_86 ?_
        refine lv_topi (fun y ey => ?_)
        obtain rfl : y = 0 := ey.trans (by decide)
        refine w_istore_n hx hb dX0_countFaults_87 rfl hl (Nat.le_of_ble_eq_true rfl) (fun ls hl => ?_)
        exact k88 _ _ _ hl hw
      · exact absurd (nI_le (b := 64) hw64 (by decide)) h78
  refine lv_aload_n hx hb dX0_countFaults_0 rfl (hl.at rfl) ?_
  refine w_get C hw (c0 := 20) (i0 := i) rfl inA0 10 (by decide) mw118 rfl dX0_countFaults_1 (hG 20 (by decide) (by decide)) rfl rfl rfl ?_
  refine lv_iconst (v := 0) hx hb dX0_countFaults_4 (by decide) ?_
  refine w_ild C hw (c0 := 24) (i0 := i) dX0_countFaults_5 (hG 24 (by decide) (by decide)) rfl rfl (vpk (by decide)) (j := 0) (by decide) ?_
  rw [hR.k (show 0 < 10 by decide)]
  refine lv_sipush (v := -1800) hx hb dX0_countFaults_6 (by decide) ?_
  refine lv_iand hx hb dX0_countFaults_9 ?_
  refine lv_if_eq (tgt := 17) hx hb dX0_countFaults_10 (by decide) (fun h10 => ?_) (fun h10 => ?_)
  · refine lv_iconst (v := 0) hx hb dX0_countFaults_17 (by decide) ?_
    refine w_istore_n hx hb dX0_countFaults_18 rfl hl (Nat.le_of_ble_eq_true rfl) (fun ls hl => ?_)
    refine lv_iload_n hx hb dX0_countFaults_19 rfl (hl.at rfl) ?_
    refine lv_aload_n hx hb dX0_countFaults_20 rfl (hl.at rfl) ?_
    refine w_get C hw (c0 := 20) (i0 := i) rfl inA0 10 (by decide) mw118 rfl dX0_countFaults_21 (hG 20 (by decide) (by decide)) rfl rfl rfl ?_
    refine lv_bipush (v := 9) hx hb dX0_countFaults_24 (by decide) ?_
    refine w_ild C hw (c0 := 24) (i0 := i) dX0_countFaults_26 (hG 24 (by decide) (by decide)) rfl rfl (vpk (by decide)) (j := 9) (by decide) ?_
    rw [hR.k (show 9 < 10 by decide), v3]
    refine lv_aload_n hx hb dX0_countFaults_27 rfl (hl.at rfl) ?_
    refine w_get C hw (c0 := 20) (i0 := i) rfl inA0 6 (by decide) mw128 rfl dX0_countFaults_28 (hG 20 (by decide) (by decide)) rfl rfl rfl ?_
    rw [hF6]
    refine lv_icmp_eq (tgt := 38) hx hb dX0_countFaults_31 (by decide) (fun h31 => ?_) (fun h31 => ?_)
    · refine lv_iconst (v := 0) hx hb dX0_countFaults_38 (by decide) ?_
      refine lv_iadd hx hb dX0_countFaults_39 ?_
      refine lv_topi (fun y ey => ?_)
      obtain rfl : y = 0 := ey.trans (by decide)
      refine w_istore_n hx hb dX0_countFaults_40 rfl hl (Nat.le_of_ble_eq_true rfl) (fun ls hl => ?_)
      refine lv_iload_n hx hb dX0_countFaults_41 rfl (hl.at rfl) ?_
      refine lv_aload_n hx hb dX0_countFaults_42 rfl (hl.at rfl) ?_
      refine w_get C hw (c0 := 20) (i0 := i) rfl inA0 3 (by decide) mw137 rfl dX0_countFaults_43 (hG 20 (by decide) (by decide)) rfl rfl rfl ?_
      rw [hR.1.2.2.1]
      refine lv_if_eq (tgt := 61) hx hb dX0_countFaults_46 (by decide) (fun h46 => ?_) (fun h46 => ?_)
      · exact k61 _ _ _ hl hw
      · refine lv_aload_n hx hb dX0_countFaults_49 rfl (hl.at rfl) ?_
        refine w_get C hw (c0 := 20) (i0 := i) rfl inA0 3 (by decide) mw137 rfl dX0_countFaults_50 (hG 20 (by decide) (by decide)) rfl rfl rfl ?_
        rw [hR.1.2.2.1]
        refine lv_iconst (v := 1) hx hb dX0_countFaults_53 (by decide) ?_
        refine lv_icmp_eq (tgt := 61) hx hb dX0_countFaults_54 (by decide) (fun h54 => ?_) (fun h54 => ?_)
        · exact k61 _ _ _ hl hw
        · exact absurd (v2.elim (fun q => absurd q h46) id) h54
    · exact absurd rfl h31
  · exact absurd (and_1800 v1) h10

set_option maxHeartbeats 4000000 in
set_option maxRecDepth 100000 in
theorem c_X1_countDifferent (l : Launch) (sz0 : Nat) (D : va_G) (cs : Nat → ClassId) (X : Sh) (Z : ZT) (Y : va_W) (hX : HXI X) (f sh : Nat) (hf : 64 * (f + 1) ≤ X.2.1 3) (hf3 : X.2.1 3 < 32768) (hs : 64 * (sh + 1) ≤ X.2.1 4) (hs4 : X.2.1 4 ≤ 32832) (he : ∀ k, k < 64 → Z 3 0 (64 * f + k) = Z 4 0 (64 * sh + k)) : Ctr l yX1_countDifferent (wsM yX1_countDifferent cX1_countDifferent 5 (some .int)) ({ frames := 0, cells := 0, slots := 0, locals := 0 } : Room) sz0 D cs [.ref (X.1 2 0), .int (nI f), .int (nI sh)] X Z Y (Pz X Y (fun Z' v => Z = Z' ∧ v = some (.int 0))) := by
  refine Ctr.ofW (by decide +kernel) (by intro v hv; simp at hv; rcases hv with rfl | rfl | rfl <;> rfl) (Nat.le_of_ble_eq_true rfl) ?_
  intro p e s m below meth c ls C hr hlocks hname hl hN hw
  obtain ⟨hx, hb, hml, hown, hts⟩ := id C
  refine lv_iconst (v := 0) hx hb dX1_countDifferent_0 (by decide) ?_
  refine w_istore_n hx hb dX1_countDifferent_1 rfl hl (Nat.le_of_ble_eq_true rfl) (fun ls hl => ?_)
  refine lv_iconst (v := 0) hx hb dX1_countDifferent_2 (by decide) ?_
  refine w_istore hx hb dX1_countDifferent_3 hl (Nat.le_of_ble_eq_true rfl) (fun ls hl => ?_)
  have loop : ∀ (d j : Nat), j + d = 64 → ∀ (H : Heap) (locs : List Loc) (ls : Array Slot), lo ls [some (.ref (X.1 2 0)), some (.int (nI f)), some (.int (nI sh)), some (.int 0), some (.int (nI j))] → Wd sz0 D cs s X Z Y H locs → W p l e ({ frames := 0, cells := 0, slots := 0, locals := 0 } : Room) s m ([.ref (X.1 2 0), .int (nI f), .int (nI sh)] : List Value).toArray below meth c H locs 0 0 (xQ below (CQ sz0 D cs (Pz X Y (fun Z' v => Z = Z' ∧ v = some (.int 0)))) ([.ref (X.1 2 0), .int (nI f), .int (nI sh)] : List Value).toArray s (Asz sz0)) (F0 m 5 ls []) := by
    intro d
    induction d with
    | zero =>
      intro j hj H locs ls hl hw
      refine lv_iload hx hb dX1_countDifferent_5 (hl.at rfl) ?_
      refine lv_bipush (v := 64) hx hb dX1_countDifferent_7 (by decide) ?_
      refine lv_icmp_ge (tgt := 53) hx hb dX1_countDifferent_9 (by decide) (fun h9 => ?_) (fun h9 => ?_)
      · refine lv_iload_n hx hb dX1_countDifferent_53 rfl (hl.at rfl) ?_
        exact w_iret C hw hr hlocks dX1_countDifferent_54 ⟨rfl, rfl, rfl, rfl, rfl, rfl⟩
      · exact absurd (nI_le (show 64 ≤ j by omega) (by omega)) h9
    | succ d ih =>
      intro j hj H locs ls hl hw
      refine lv_iload hx hb dX1_countDifferent_5 (hl.at rfl) ?_
      refine lv_bipush (v := 64) hx hb dX1_countDifferent_7 (by decide) ?_
      refine lv_icmp_ge (tgt := 53) hx hb dX1_countDifferent_9 (by decide) (fun h9 => ?_) (fun h9 => ?_)
      · exact absurd h9 (nI_ge (show j < 64 by omega) (by decide))
      · refine lv_iload_n hx hb dX1_countDifferent_12 rfl (hl.at rfl) ?_
        refine lv_aload_n hx hb dX1_countDifferent_13 rfl (hl.at rfl) ?_
        refine w_get C hw (c0 := 2) (i0 := 0) rfl inA1 4 (by decide) mw27 rfl dX1_countDifferent_14 (hX 2 (by decide)) rfl rfl rfl ?_
        refine lv_iload_n hx hb dX1_countDifferent_17 rfl (hl.at rfl) ?_
        refine lv_bipush (v := 64) hx hb dX1_countDifferent_18 (by decide) ?_
        refine lv_imul hx hb dX1_countDifferent_20 ?_
        refine lv_iload hx hb dX1_countDifferent_21 (hl.at rfl) ?_
        refine lv_iadd hx hb dX1_countDifferent_23 ?_
        refine lv_topi (fun y ey => ?_)
        obtain rfl : y = nI (64 * f + j) := ey.trans (by rw [show (64 : Int32) = nI 64 from rfl, pk_mul, nI_add, Nat.mul_comm])
        refine w_ild C hw (c0 := 3) (i0 := 0) dX1_countDifferent_24 (hX 3 (by decide)) rfl rfl (vp_in_nI (show 64 * f + j < X.2.1 3 by omega) (by omega)) (nI_clamp (by omega)) ?_
        refine lv_aload_n hx hb dX1_countDifferent_25 rfl (hl.at rfl) ?_
        refine w_get C hw (c0 := 2) (i0 := 0) rfl inA1 5 (by decide) mw28 rfl dX1_countDifferent_26 (hX 2 (by decide)) rfl rfl rfl ?_
        refine lv_iload_n hx hb dX1_countDifferent_29 rfl (hl.at rfl) ?_
        refine lv_bipush (v := 64) hx hb dX1_countDifferent_30 (by decide) ?_
        refine lv_imul hx hb dX1_countDifferent_32 ?_
        refine lv_iload hx hb dX1_countDifferent_33 (hl.at rfl) ?_
        refine lv_iadd hx hb dX1_countDifferent_35 ?_
        refine lv_topi (fun y ey => ?_)
        obtain rfl : y = nI (64 * sh + j) := ey.trans (by rw [show (64 : Int32) = nI 64 from rfl, pk_mul, nI_add, Nat.mul_comm])
        refine w_ild C hw (c0 := 4) (i0 := 0) dX1_countDifferent_36 (hX 4 (by decide)) rfl rfl (vp_in_nI (show 64 * sh + j < X.2.1 4 by omega) (by omega)) (nI_clamp (by omega)) ?_
        rw [he j (by omega)]
        refine lv_icmp_ne (tgt := 44) hx hb dX1_countDifferent_37 (by decide) (fun h37 => ?_) (fun h37 => ?_)
        · exact absurd rfl h37
        · refine lv_iconst (v := 0) hx hb dX1_countDifferent_40 (by decide) ?_
          refine lv_goto (tgt := 45) hx hb dX1_countDifferent_41 (by decide) ?_
          refine lv_iadd hx hb dX1_countDifferent_45 ?_
          refine lv_topi (fun y ey => ?_)
          obtain rfl : y = 0 := ey.trans (by decide)
          refine w_istore_n hx hb dX1_countDifferent_46 rfl hl (Nat.le_of_ble_eq_true rfl) (fun ls hl => ?_)
          refine w_iinc hx hb dX1_countDifferent_47 hl rfl rfl (fun ls hl => ?_)
          refine lv_goto (tgt := 5) hx hb dX1_countDifferent_50 (by decide) ?_
          exact ih (j + 1) (by omega) _ _ _ (by rw [← nI_1 j]; exact hl) hw
  exact loop 64 0 (by decide) _ _ _ hl hw

set_option maxHeartbeats 4000000 in
set_option maxRecDepth 100000 in
theorem c_X1_countWrongSheets (l : Launch) (sz0 : Nat) (D : va_G) (cs : Nat → ClassId) (X : Sh) (Z : ZT) (Y : va_W) (hX : HXI X) (h o hd g3 g4 fc : Nat) (hA : HA X Z h o hd g3 g4) (hB : HB X Z fc) : Ctr l yX1_countWrongSheets (wsM yX1_countWrongSheets cX1_countWrongSheets 4 (some .int)) ({ frames := 1, cells := 0, slots := 0, locals := 24 } : Room) sz0 D cs [.ref (X.1 2 0)] X Z Y (Pz X Y (fun Z' v => Z = Z' ∧ v = some (.int 0))) := by
  refine Ctr.ofW (by decide +kernel) (by intro v hv; simp at hv; rcases hv with rfl <;> rfl) (Nat.le_of_ble_eq_true rfl) ?_
  intro p e s m below meth c ls C hr hlocks hname hl hN hw
  obtain ⟨hx, hb, hml, hown, hts⟩ := id C
  obtain ⟨⟨a1, a2, a3, a4⟩, ⟨b1, b2, b3⟩, c1, c2, c3, c4, c5, c6, c7⟩ := hA
  have hcl := hB.c.2.2.2.2.2.1
  obtain ⟨d1, d2, d3, d4, d5, -⟩ := hB
  have z90 : Z 9 0 0 = 0 := (c5 0 (by decide)).elim id (fun q => absurd rfl q.2.2)
  have loop2 : ∀ (d j : Nat), j + d = 64 → ∀ (H : Heap) (locs : List Loc) (ls : Array Slot) (x3 : Option Value), lo ls [some (.ref (X.1 2 0)), some (.int 0), some (.int (nI j)), x3] → Wd sz0 D cs s X Z Y H locs → W p l e ({ frames := 1, cells := 0, slots := 0, locals := 24 } : Room) s m ([.ref (X.1 2 0)] : List Value).toArray below meth c H locs 0 0 (xQ below (CQ sz0 D cs (Pz X Y (fun Z' v => Z = Z' ∧ v = some (.int 0)))) ([.ref (X.1 2 0)] : List Value).toArray s (Asz sz0)) (F0 m 107 ls []) := by
    intro d
    induction d with
    | zero =>
      intro j hj H locs ls x3 hl hw
      refine lv_iload_n hx hb dX1_countWrongSheets_107 rfl (hl.at rfl) ?_
      refine lv_bipush (v := 64) hx hb dX1_countWrongSheets_108 (by decide) ?_
      refine lv_icmp_ge (tgt := 138) hx hb dX1_countWrongSheets_110 (by decide) (fun h110 => ?_) (fun h110 => ?_)
      · refine lv_iload_n hx hb dX1_countWrongSheets_138 rfl (hl.at rfl) ?_
        refine lv_aload_n hx hb dX1_countWrongSheets_139 rfl (hl.at rfl) ?_
        refine w_get C hw (c0 := 2) (i0 := 0) rfl inA1 10 (by decide) mw34 rfl dX1_countWrongSheets_140 (hX 2 (by decide)) rfl rfl rfl ?_
        refine lv_iconst (v := 0) hx hb dX1_countWrongSheets_143 (by decide) ?_
        refine w_zld C hw (c0 := 9) (i0 := 0) dX1_countWrongSheets_144 (hX 9 (by decide)) rfl rfl (vpk (by decide)) (j := 0) (by decide) ?_
        rw [z90]
        refine lv_if_eq (tgt := 152) hx hb dX1_countWrongSheets_145 (by decide) (fun h145 => ?_) (fun h145 => ?_)
        · refine lv_iconst (v := 0) hx hb dX1_countWrongSheets_152 (by decide) ?_
          refine lv_iadd hx hb dX1_countWrongSheets_153 ?_
          exact w_iret C hw hr hlocks dX1_countWrongSheets_154 ⟨rfl, rfl, rfl, rfl, rfl, rfl⟩
        · exact absurd rfl h145
      · exact absurd (nI_le (show 64 ≤ j by omega) (by omega)) h110
    | succ d ih =>
      intro j hj H locs ls x3 hl hw
      refine lv_iload_n hx hb dX1_countWrongSheets_107 rfl (hl.at rfl) ?_
      refine lv_bipush (v := 64) hx hb dX1_countWrongSheets_108 (by decide) ?_
      refine lv_icmp_ge (tgt := 138) hx hb dX1_countWrongSheets_110 (by decide) (fun h110 => ?_) (fun h110 => ?_)
      · exact absurd h110 (nI_ge (show j < 64 by omega) (by decide))
      · refine lv_iload_n hx hb dX1_countWrongSheets_113 rfl (hl.at rfl) ?_
        refine lv_aload_n hx hb dX1_countWrongSheets_114 rfl (hl.at rfl) ?_
        refine w_get C hw (c0 := 2) (i0 := 0) rfl inA1 5 (by decide) mw28 rfl dX1_countWrongSheets_115 (hX 2 (by decide)) rfl rfl rfl ?_
        refine lv_iconst (v := 0) hx hb dX1_countWrongSheets_118 (by decide) ?_
        refine lv_iload_n hx hb dX1_countWrongSheets_119 rfl (hl.at rfl) ?_
        refine lv_iadd hx hb dX1_countWrongSheets_120 ?_
        refine lv_topi (fun y ey => ?_)
        obtain rfl : y = nI j := ey.trans (Int32.zero_add _)
        refine w_ild C hw (c0 := 4) (i0 := 0) dX1_countWrongSheets_121 (hX 4 (by decide)) rfl rfl (vp_in_nI (show j < X.2.1 4 by omega) (by omega)) (nI_clamp (by omega)) ?_
        rw [c7 j (by omega)]
        refine lv_if_ne (tgt := 129) hx hb dX1_countWrongSheets_122 (by decide) (fun h122 => ?_) (fun h122 => ?_)
        · exact absurd rfl h122
        · refine lv_iconst (v := 0) hx hb dX1_countWrongSheets_125 (by decide) ?_
          refine lv_goto (tgt := 130) hx hb dX1_countWrongSheets_126 (by decide) ?_
          refine lv_iadd hx hb dX1_countWrongSheets_130 ?_
          refine lv_topi (fun y ey => ?_)
          obtain rfl : y = 0 := ey.trans (by decide)
          refine w_istore_n hx hb dX1_countWrongSheets_131 rfl hl (Nat.le_of_ble_eq_true rfl) (fun ls hl => ?_)
          refine w_iinc hx hb dX1_countWrongSheets_132 hl rfl rfl (fun ls hl => ?_)
          refine lv_goto (tgt := 107) hx hb dX1_countWrongSheets_135 (by decide) ?_
          exact ih (j + 1) (by omega) _ _ _ _ (by rw [← nI_1 j]; exact hl) hw
  have loop : ∀ (d j : Nat), j + d = 513 → ∀ (H : Heap) (locs : List Loc) (ls : Array Slot) (x3 : Option Value), lo ls [some (.ref (X.1 2 0)), some (.int 0), some (.int (nI j)), x3] → Wd sz0 D cs s X Z Y H locs → W p l e ({ frames := 1, cells := 0, slots := 0, locals := 24 } : Room) s m ([.ref (X.1 2 0)] : List Value).toArray below meth c H locs 0 0 (xQ below (CQ sz0 D cs (Pz X Y (fun Z' v => Z = Z' ∧ v = some (.int 0)))) ([.ref (X.1 2 0)] : List Value).toArray s (Asz sz0)) (F0 m 4 ls []) := by
    intro d
    induction d with
    | zero =>
      intro j hj H locs ls x3 hl hw
      refine lv_iload_n hx hb dX1_countWrongSheets_4 rfl (hl.at rfl) ?_
      refine lv_sipush (v := 513) hx hb dX1_countWrongSheets_5 (by decide) ?_
      refine lv_icmp_ge (tgt := 105) hx hb dX1_countWrongSheets_8 (by decide) (fun h8 => ?_) (fun h8 => ?_)
      · refine lv_iconst (v := 0) hx hb dX1_countWrongSheets_105 (by decide) ?_
        refine w_istore_n hx hb dX1_countWrongSheets_106 rfl hl (Nat.le_of_ble_eq_true rfl) (fun ls hl => ?_)
        exact loop2 64 0 (by decide) _ _ _ _ hl hw
      · exact absurd (nI_le (show 513 ≤ j by omega) (by omega)) h8
    | succ d ih =>
      intro j hj H locs ls x3 hl hw
      refine lv_iload_n hx hb dX1_countWrongSheets_4 rfl (hl.at rfl) ?_
      refine lv_sipush (v := 513) hx hb dX1_countWrongSheets_5 (by decide) ?_
      refine lv_icmp_ge (tgt := 105) hx hb dX1_countWrongSheets_8 (by decide) (fun h8 => ?_) (fun h8 => ?_)
      · exact absurd h8 (nI_ge (show j < 513 by omega) (by decide))
      · have hj5 : j < 513 := by omega
        refine lv_aload_n hx hb dX1_countWrongSheets_11 rfl (hl.at rfl) ?_
        refine w_get C hw (c0 := 2) (i0 := 0) rfl inA1 9 (by decide) mw33 rfl dX1_countWrongSheets_12 (hX 2 (by decide)) rfl rfl rfl ?_
        refine lv_iload_n hx hb dX1_countWrongSheets_15 rfl (hl.at rfl) ?_
        refine w_ild C hw (c0 := 8) (i0 := 0) dX1_countWrongSheets_16 (hX 8 (by decide)) rfl rfl (vp_in_nI hj5 (by decide)) (nI_clamp (by omega)) ?_
        rcases c3 j hj5 with e8 | ⟨f, hfo, e8, e5, hla⟩
        · rw [e8]
          have z9 : Z 9 0 j = 0 := (c5 j hj5).elim id (fun q => absurd e8 q.2.1)
          refine w_istore_n hx hb dX1_countWrongSheets_17 rfl hl (Nat.le_of_ble_eq_true rfl) (fun ls hl => ?_)
          refine lv_iload_n hx hb dX1_countWrongSheets_18 rfl (hl.at rfl) ?_
          refine lv_iconst (v := -1) hx hb dX1_countWrongSheets_19 (by decide) ?_
          refine lv_icmp_ne (tgt := 43) hx hb dX1_countWrongSheets_20 (by decide) (fun h20 => ?_) (fun h20 => ?_)
          · exact absurd rfl h20
          · refine lv_iload_n hx hb dX1_countWrongSheets_23 rfl (hl.at rfl) ?_
            refine lv_aload_n hx hb dX1_countWrongSheets_24 rfl (hl.at rfl) ?_
            refine w_get C hw (c0 := 2) (i0 := 0) rfl inA1 10 (by decide) mw34 rfl dX1_countWrongSheets_25 (hX 2 (by decide)) rfl rfl rfl ?_
            refine lv_iload_n hx hb dX1_countWrongSheets_28 rfl (hl.at rfl) ?_
            refine w_zld C hw (c0 := 9) (i0 := 0) dX1_countWrongSheets_29 (hX 9 (by decide)) rfl rfl (vp_in_nI hj5 (by decide)) (nI_clamp (by omega)) ?_
            rw [z9]
            refine lv_if_eq (tgt := 37) hx hb dX1_countWrongSheets_30 (by decide) (fun h30 => ?_) (fun h30 => ?_)
            · refine lv_iconst (v := 0) hx hb dX1_countWrongSheets_37 (by decide) ?_
              refine lv_iadd hx hb dX1_countWrongSheets_38 ?_
              refine lv_topi (fun y ey => ?_)
              obtain rfl : y = 0 := ey.trans (by decide)
              refine w_istore_n hx hb dX1_countWrongSheets_39 rfl hl (Nat.le_of_ble_eq_true rfl) (fun ls hl => ?_)
              refine lv_goto (tgt := 99) hx hb dX1_countWrongSheets_40 (by decide) ?_
              refine w_iinc hx hb dX1_countWrongSheets_99 hl rfl rfl (fun ls hl => ?_)
              refine lv_goto (tgt := 4) hx hb dX1_countWrongSheets_102 (by decide) ?_
              exact ih (j + 1) (by omega) _ _ _ _ (by rw [← nI_1 j]; exact hl) hw
            · exact absurd rfl h30
        · rw [e8]
          refine w_istore_n hx hb dX1_countWrongSheets_17 rfl hl (Nat.le_of_ble_eq_true rfl) (fun ls hl => ?_)
          refine lv_iload_n hx hb dX1_countWrongSheets_18 rfl (hl.at rfl) ?_
          refine lv_iconst (v := -1) hx hb dX1_countWrongSheets_19 (by decide) ?_
          refine lv_icmp_ne (tgt := 43) hx hb dX1_countWrongSheets_20 (by decide) (fun h20 => ?_) (fun h20 => ?_)
          · refine lv_iload_n hx hb dX1_countWrongSheets_43 rfl (hl.at rfl) ?_
            refine lv_if_lt (tgt := 75) hx hb dX1_countWrongSheets_44 (by decide) (fun h44 => ?_) (fun h44 => ?_)
            · exact absurd h44 (nI_pos (by omega))
            · refine lv_iload_n hx hb dX1_countWrongSheets_47 rfl (hl.at rfl) ?_
              refine lv_aload_n hx hb dX1_countWrongSheets_48 rfl (hl.at rfl) ?_
              refine w_get C hw (c0 := 2) (i0 := 0) rfl inA1 1 (by decide) mw55 rfl dX1_countWrongSheets_49 (hX 2 (by decide)) rfl rfl rfl ?_
              rw [b2]
              refine lv_icmp_ge (tgt := 75) hx hb dX1_countWrongSheets_52 (by decide) (fun h52 => ?_) (fun h52 => ?_)
              · exact absurd h52 (nI_ge hfo (by omega))
              · refine lv_aload_n hx hb dX1_countWrongSheets_55 rfl (hl.at rfl) ?_
                refine w_get C hw (c0 := 2) (i0 := 0) rfl inA1 6 (by decide) mw29 rfl dX1_countWrongSheets_56 (hX 2 (by decide)) rfl rfl rfl ?_
                refine lv_iload_n hx hb dX1_countWrongSheets_59 rfl (hl.at rfl) ?_
                refine w_ild C hw (c0 := 5) (i0 := 0) dX1_countWrongSheets_60 (hX 5 (by decide)) rfl rfl (vp_in_nI (show f < 256 by omega) (by decide)) (nI_clamp (by omega)) ?_
                rw [e5]
                refine lv_iload_n hx hb dX1_countWrongSheets_61 rfl (hl.at rfl) ?_
                refine lv_icmp_ne (tgt := 75) hx hb dX1_countWrongSheets_62 (by decide) (fun h62 => ?_) (fun h62 => ?_)
                · exact absurd rfl h62
                · refine lv_aload_n hx hb dX1_countWrongSheets_65 rfl (hl.at rfl) ?_
                  refine w_get C hw (c0 := 2) (i0 := 0) rfl inA1 8 (by decide) mw32 rfl dX1_countWrongSheets_66 (hX 2 (by decide)) rfl rfl rfl ?_
                  refine lv_iload_n hx hb dX1_countWrongSheets_69 rfl (hl.at rfl) ?_
                  refine w_ild C hw (c0 := 7) (i0 := 0) dX1_countWrongSheets_70 (hX 7 (by decide)) rfl rfl (vp_in_nI hj5 (by decide)) (nI_clamp (by omega)) ?_
                  rw [d1 j hj5]
                  refine lv_iconst (v := 1) hx hb dX1_countWrongSheets_71 (by decide) ?_
                  refine lv_icmp_ge (tgt := 81) hx hb dX1_countWrongSheets_72 (by decide) (fun h72 => ?_) (fun h72 => ?_)
                  · refine lv_aload_n hx hb dX1_countWrongSheets_81 rfl (hl.at rfl) ?_
                    refine w_get C hw (c0 := 2) (i0 := 0) rfl inA1 10 (by decide) mw34 rfl dX1_countWrongSheets_82 (hX 2 (by decide)) rfl rfl rfl ?_
                    refine lv_iload_n hx hb dX1_countWrongSheets_85 rfl (hl.at rfl) ?_
                    refine w_zld C hw (c0 := 9) (i0 := 0) dX1_countWrongSheets_86 (hX 9 (by decide)) rfl rfl (vp_in_nI hj5 (by decide)) (nI_clamp (by omega)) ?_
                    refine lv_if_ne (tgt := 99) hx hb dX1_countWrongSheets_87 (by decide) (fun h87 => ?_) (fun h87 => ?_)
                    · refine w_iinc hx hb dX1_countWrongSheets_99 hl rfl rfl (fun ls hl => ?_)
                      refine lv_goto (tgt := 4) hx hb dX1_countWrongSheets_102 (by decide) ?_
                      exact ih (j + 1) (by omega) _ _ _ _ (by rw [← nI_1 j]; exact hl) hw
                    · refine lv_iload_n hx hb dX1_countWrongSheets_90 rfl (hl.at rfl) ?_
                      refine lv_aload_n hx hb dX1_countWrongSheets_91 rfl (hl.at rfl) ?_
                      refine lv_iload_n hx hb dX1_countWrongSheets_92 rfl (hl.at rfl) ?_
                      refine lv_iload_n hx hb dX1_countWrongSheets_93 rfl (hl.at rfl) ?_
                      refine w_callV C hN hw (c_X1_countDifferent l sz0 D cs X _ Y hX f j (by omega) c1.2.2.1 hla c2.2.1 (fun k hk => c6 j f k hj5 hfo hk e8 h87)) ⟨(Nat.le_of_ble_eq_true rfl), (Nat.le_of_ble_eq_true rfl), mw618, mw15, cy_X1_countDifferent⟩ mw615 mw616 mw617 (w_rec hw (c0 := 2) (i0 := 0) (hX 2 (by decide)) rfl rfl) rfl hl.1.1 rfl (Nat.le_of_ble_eq_true rfl) dX1_countWrongSheets_94 ⟨Nat.le_of_ble_eq_true rfl, Nat.le_of_ble_eq_true rfl⟩ (fun X' Z' Y' v k n H locs hp hw => ?_)
                      obtain ⟨rfl, rfl, rfl, rfl, rfl, rfl⟩ := hp
                      refine lv_iadd hx hb dX1_countWrongSheets_97 ?_
                      refine lv_topi (fun y ey => ?_)
                      obtain rfl : y = 0 := ey.trans (by decide)
                      refine w_istore_n hx hb dX1_countWrongSheets_98 rfl hl (Nat.le_of_ble_eq_true rfl) (fun ls hl => ?_)
                      refine w_iinc hx hb dX1_countWrongSheets_99 hl rfl rfl (fun ls hl => ?_)
                      refine lv_goto (tgt := 4) hx hb dX1_countWrongSheets_102 (by decide) ?_
                      exact ih (j + 1) (by omega) _ _ _ _ (by rw [← nI_1 j]; exact hl) hw
                  · exact absurd (show nI 1 ≤ nI (cnt X Z j) from nI_le (Nat.one_le_iff_ne_zero.mpr (d5 j hj5 (by rw [e8]; exact nI_ne_m1 (by omega)))) (by have := hcl j hj5; omega)) h72
          · exact absurd h20 (nI_ne_m1 (by omega))
  refine lv_iconst (v := 0) hx hb dX1_countWrongSheets_0 (by decide) ?_
  refine w_istore_n hx hb dX1_countWrongSheets_1 rfl hl (Nat.le_of_ble_eq_true rfl) (fun ls hl => ?_)
  refine lv_iconst (v := 0) hx hb dX1_countWrongSheets_2 (by decide) ?_
  refine w_istore_n hx hb dX1_countWrongSheets_3 rfl hl (Nat.le_of_ble_eq_true rfl) (fun ls hl => ?_)
  exact loop 513 0 (by decide) _ _ _ _ hl hw

set_option maxHeartbeats 4000000 in
set_option maxRecDepth 100000 in
theorem c_X1_countWrongFrames (l : Launch) (sz0 : Nat) (D : va_G) (cs : Nat → ClassId) (X : Sh) (Z : ZT) (Y : va_W) (hX : HXI X) (h o hd g3 g4 fc : Nat) (hA : HA X Z h o hd g3 g4) (hB : HB X Z fc) : Ctr l yX1_countWrongFrames (wsM yX1_countWrongFrames cX1_countWrongFrames 5 (some .int)) ({ frames := 1, cells := 0, slots := 0, locals := 21 } : Room) sz0 D cs [.ref (X.1 2 0)] X Z Y (Pz X Y (fun Z' v => Z = Z' ∧ v = some (.int 0))) := by
  refine Ctr.ofW (by decide +kernel) (by intro v hv; simp at hv; rcases hv with rfl <;> rfl) (Nat.le_of_ble_eq_true rfl) ?_
  intro p e s m below meth c ls C hr hlocks hname hl hN hw
  obtain ⟨hx, hb, hml, hown, hts⟩ := id C
  obtain ⟨⟨a1, a2, a3, a4⟩, ⟨b1, b2, b3⟩, c1, c2, c3, c4, c5, c6, c7⟩ := hA
  have loop : ∀ (d j : Nat), j + d = 256 → ∀ (H : Heap) (locs : List Loc) (ls : Array Slot) (x3 x4 : Option Value), lo ls [some (.ref (X.1 2 0)), some (.int 0), some (.int (nI j)), x3, x4] → Wd sz0 D cs s X Z Y H locs → W p l e ({ frames := 1, cells := 0, slots := 0, locals := 21 } : Room) s m ([.ref (X.1 2 0)] : List Value).toArray below meth c H locs 0 0 (xQ below (CQ sz0 D cs (Pz X Y (fun Z' v => Z = Z' ∧ v = some (.int 0)))) ([.ref (X.1 2 0)] : List Value).toArray s (Asz sz0)) (F0 m 52 ls []) := by
    intro d
    induction d with
    | zero =>
      intro j hj H locs ls x3 x4 hl hw
      refine lv_iload_n hx hb dX1_countWrongFrames_52 rfl (hl.at rfl) ?_
      refine lv_sipush (v := 256) hx hb dX1_countWrongFrames_53 (by decide) ?_
      refine lv_icmp_ge (tgt := 123) hx hb dX1_countWrongFrames_56 (by decide) (fun h56 => ?_) (fun h56 => ?_)
      · refine lv_iload_n hx hb dX1_countWrongFrames_123 rfl (hl.at rfl) ?_
        exact w_iret C hw hr hlocks dX1_countWrongFrames_124 ⟨rfl, rfl, rfl, rfl, rfl, rfl⟩
      · exact absurd (nI_le (show 256 ≤ j by omega) (by omega)) h56
    | succ d ih =>
      intro j hj H locs ls x3 x4 hl hw
      refine lv_iload_n hx hb dX1_countWrongFrames_52 rfl (hl.at rfl) ?_
      refine lv_sipush (v := 256) hx hb dX1_countWrongFrames_53 (by decide) ?_
      refine lv_icmp_ge (tgt := 123) hx hb dX1_countWrongFrames_56 (by decide) (fun h56 => ?_) (fun h56 => ?_)
      · exact absurd h56 (nI_ge (show j < 256 by omega) (by decide))
      · have hj5 : j < 256 := by omega
        have k97 : ∀ (H : Heap) (locs : List Loc) (ls : Array Slot) (x3 x4 : Option Value), lo ls [some (.ref (X.1 2 0)), some (.int 0), some (.int (nI j)), x3, x4] → Wd sz0 D cs s X Z Y H locs → W p l e ({ frames := 1, cells := 0, slots := 0, locals := 21 } : Room) s m ([.ref (X.1 2 0)] : List Value).toArray below meth c H locs 0 0 (xQ below (CQ sz0 D cs (Pz X Y (fun Z' v => Z = Z' ∧ v = some (.int 0)))) ([.ref (X.1 2 0)] : List Value).toArray s (Asz sz0)) (F0 m 97 ls []) := by
          intro H locs ls x3 x4 hl hw
          refine lv_iconst (v := 1) hx hb dX1_countWrongFrames_97 (by decide) ?_
          refine lv_goto (tgt := 102) hx hb dX1_countWrongFrames_98 (by decide) ?_
          refine w_istore hx hb dX1_countWrongFrames_102 hl (Nat.le_of_ble_eq_true rfl) (fun ls hl => ?_)
          refine lv_iload_n hx hb dX1_countWrongFrames_104 rfl (hl.at rfl) ?_
          refine lv_iload hx hb dX1_countWrongFrames_105 (hl.at rfl) ?_
          refine lv_if_eq (tgt := 114) hx hb dX1_countWrongFrames_107 (by decide) (fun h107 => ?_) (fun h107 => ?_)
          · exact absurd h107 (by decide)
          · refine lv_iconst (v := 0) hx hb dX1_countWrongFrames_110 (by decide) ?_
            refine lv_goto (tgt := 115) hx hb dX1_countWrongFrames_111 (by decide) ?_
            refine lv_iadd hx hb dX1_countWrongFrames_115 ?_
            refine lv_topi (fun y ey => ?_)
            obtain rfl : y = 0 := ey.trans (by decide)
            refine w_istore_n hx hb dX1_countWrongFrames_116 rfl hl (Nat.le_of_ble_eq_true rfl) (fun ls hl => ?_)
            refine w_iinc hx hb dX1_countWrongFrames_117 hl rfl rfl (fun ls hl => ?_)
            refine lv_goto (tgt := 52) hx hb dX1_countWrongFrames_120 (by decide) ?_
            exact ih (j + 1) (by omega) _ _ _ _ _ (by rw [← nI_1 j]; exact hl) hw
        refine lv_aload_n hx hb dX1_countWrongFrames_59 rfl (hl.at rfl) ?_
        refine w_get C hw (c0 := 2) (i0 := 0) rfl inA1 6 (by decide) mw29 rfl dX1_countWrongFrames_60 (hX 2 (by decide)) rfl rfl rfl ?_
        refine lv_iload_n hx hb dX1_countWrongFrames_63 rfl (hl.at rfl) ?_
        refine w_ild C hw (c0 := 5) (i0 := 0) dX1_countWrongFrames_64 (hX 5 (by decide)) rfl rfl (vp_in_nI hj5 (by decide)) (nI_clamp (by omega)) ?_
        rcases c4 j hj5 with e5 | ⟨sh, hs, hfo, e5, e8⟩
        · rw [e5]
          refine w_istore_n hx hb dX1_countWrongFrames_65 rfl hl (Nat.le_of_ble_eq_true rfl) (fun ls hl => ?_)
          refine lv_iload_n hx hb dX1_countWrongFrames_66 rfl (hl.at rfl) ?_
          refine lv_iconst (v := -1) hx hb dX1_countWrongFrames_67 (by decide) ?_
          refine lv_icmp_eq (tgt := 97) hx hb dX1_countWrongFrames_68 (by decide) (fun h68 => ?_) (fun h68 => ?_)
          · exact k97 _ _ _ _ _ hl hw
          · exact absurd rfl h68
        · rw [e5]
          refine w_istore_n hx hb dX1_countWrongFrames_65 rfl hl (Nat.le_of_ble_eq_true rfl) (fun ls hl => ?_)
          refine lv_iload_n hx hb dX1_countWrongFrames_66 rfl (hl.at rfl) ?_
          refine lv_iconst (v := -1) hx hb dX1_countWrongFrames_67 (by decide) ?_
          refine lv_icmp_eq (tgt := 97) hx hb dX1_countWrongFrames_68 (by decide) (fun h68 => ?_) (fun h68 => ?_)
          · exact k97 _ _ _ _ _ hl hw
          · refine lv_iload_n hx hb dX1_countWrongFrames_71 rfl (hl.at rfl) ?_
            refine lv_aload_n hx hb dX1_countWrongFrames_72 rfl (hl.at rfl) ?_
            refine w_get C hw (c0 := 2) (i0 := 0) rfl inA1 0 (by decide) mw54 rfl dX1_countWrongFrames_73 (hX 2 (by decide)) rfl rfl rfl ?_
            rw [b1]
            refine lv_icmp_ge (tgt := 101) hx hb dX1_countWrongFrames_76 (by decide) (fun h76 => ?_) (fun h76 => ?_)
            · exact absurd h76 (nI_ge (show j < h by omega) (by omega))
            · refine lv_aload_n hx hb dX1_countWrongFrames_79 rfl (hl.at rfl) ?_
              refine lv_iload_n hx hb dX1_countWrongFrames_80 rfl (hl.at rfl) ?_
              refine w_callV C hN hw (c_X1_isSheet l sz0 D cs X _ Y _) ⟨(Nat.le_of_ble_eq_true rfl), (Nat.le_of_ble_eq_true rfl), mw202, mw15, cy_X1_isSheet⟩ mw199 mw200 mw201 (w_rec hw (c0 := 2) (i0 := 0) (hX 2 (by decide)) rfl rfl) rfl hl.1.1 rfl (Nat.le_of_ble_eq_true rfl) dX1_countWrongFrames_81 ⟨Nat.le_of_ble_eq_true rfl, Nat.le_of_ble_eq_true rfl⟩ (fun X' Z' Y' v k n H locs hp hw => ?_)
              obtain ⟨rfl, rfl, rfl, rfl, rfl, rfl⟩ := hp
              rw [isShv_nI hs]
              refine lv_if_eq (tgt := 101) hx hb dX1_countWrongFrames_84 (by decide) (fun h84 => ?_) (fun h84 => ?_)
              · exact absurd h84 (by decide)
              · refine lv_aload_n hx hb dX1_countWrongFrames_87 rfl (hl.at rfl) ?_
                refine w_get C hw (c0 := 2) (i0 := 0) rfl inA1 9 (by decide) mw33 rfl dX1_countWrongFrames_88 (hX 2 (by decide)) rfl rfl rfl ?_
                refine lv_iload_n hx hb dX1_countWrongFrames_91 rfl (hl.at rfl) ?_
                refine w_ild C hw (c0 := 8) (i0 := 0) dX1_countWrongFrames_92 (hX 8 (by decide)) rfl rfl (vp_in_nI hs (by decide)) (nI_clamp (by omega)) ?_
                rw [e8]
                refine lv_iload_n hx hb dX1_countWrongFrames_93 rfl (hl.at rfl) ?_
                refine lv_icmp_ne (tgt := 101) hx hb dX1_countWrongFrames_94 (by decide) (fun h94 => ?_) (fun h94 => ?_)
                · exact absurd rfl h94
                · exact k97 _ _ _ _ _ hl hw
  refine lv_aload_n hx hb dX1_countWrongFrames_0 rfl (hl.at rfl) ?_
  refine w_get C hw (c0 := 2) (i0 := 0) rfl inA1 2 (by decide) mw56 rfl dX1_countWrongFrames_1 (hX 2 (by decide)) rfl rfl rfl ?_
  rw [b3]
  refine lv_if_lt (tgt := 18) hx hb dX1_countWrongFrames_4 (by decide) (fun h4 => ?_) (fun h4 => ?_)
  · exact absurd h4 (nI_pos (by omega))
  · refine lv_aload_n hx hb dX1_countWrongFrames_7 rfl (hl.at rfl) ?_
    refine w_get C hw (c0 := 2) (i0 := 0) rfl inA1 2 (by decide) mw56 rfl dX1_countWrongFrames_8 (hX 2 (by decide)) rfl rfl rfl ?_
    refine lv_aload_n hx hb dX1_countWrongFrames_11 rfl (hl.at rfl) ?_
    refine w_get C hw (c0 := 2) (i0 := 0) rfl inA1 0 (by decide) mw54 rfl dX1_countWrongFrames_12 (hX 2 (by decide)) rfl rfl rfl ?_
    rw [b3, b1]
    refine lv_icmp_lt (tgt := 22) hx hb dX1_countWrongFrames_15 (by decide) (fun h15 => ?_) (fun h15 => ?_)
    · refine lv_iconst (v := 0) hx hb dX1_countWrongFrames_22 (by decide) ?_
      refine w_istore_n hx hb dX1_countWrongFrames_23 rfl hl (Nat.le_of_ble_eq_true rfl) (fun ls hl => ?_)
      refine lv_iload_n hx hb dX1_countWrongFrames_24 rfl (hl.at rfl) ?_
      refine lv_aload_n hx hb dX1_countWrongFrames_25 rfl (hl.at rfl) ?_
      refine w_get C hw (c0 := 2) (i0 := 0) rfl inA1 1 (by decide) mw55 rfl dX1_countWrongFrames_26 (hX 2 (by decide)) rfl rfl rfl ?_
      rw [b2]
      refine lv_if_lt (tgt := 43) hx hb dX1_countWrongFrames_29 (by decide) (fun h29 => ?_) (fun h29 => ?_)
      · exact absurd h29 (nI_pos (by omega))
      · refine lv_aload_n hx hb dX1_countWrongFrames_32 rfl (hl.at rfl) ?_
        refine w_get C hw (c0 := 2) (i0 := 0) rfl inA1 1 (by decide) mw55 rfl dX1_countWrongFrames_33 (hX 2 (by decide)) rfl rfl rfl ?_
        refine lv_aload_n hx hb dX1_countWrongFrames_36 rfl (hl.at rfl) ?_
        refine w_get C hw (c0 := 2) (i0 := 0) rfl inA1 0 (by decide) mw54 rfl dX1_countWrongFrames_37 (hX 2 (by decide)) rfl rfl rfl ?_
        rw [b2, b1]
        refine lv_icmp_le (tgt := 47) hx hb dX1_countWrongFrames_40 (by decide) (fun h40 => ?_) (fun h40 => ?_)
        · refine lv_iconst (v := 0) hx hb dX1_countWrongFrames_47 (by decide) ?_
          refine lv_iadd hx hb dX1_countWrongFrames_48 ?_
          refine lv_topi (fun y ey => ?_)
          obtain rfl : y = 0 := ey.trans (by decide)
          refine w_istore_n hx hb dX1_countWrongFrames_49 rfl hl (Nat.le_of_ble_eq_true rfl) (fun ls hl => ?_)
          refine lv_iconst (v := 0) hx hb dX1_countWrongFrames_50 (by decide) ?_
          refine w_istore_n hx hb dX1_countWrongFrames_51 rfl hl (Nat.le_of_ble_eq_true rfl) (fun ls hl => ?_)
          exact loop 256 0 (by decide) _ _ _ _ _ hl hw
        · exact absurd (nI_le a3 (by omega)) h40
    · exact absurd (nI_lt a4 (by omega)) h15

/-- how often sheet s stands among the first j of the row of free sheets -/
def frq (Z : ZT) (j s : Nat) : Nat := sumN j (fun k => if Z 10 0 k = nI s then 1 else 0)
theorem frq_s {Z : ZT} {j s : Nat} : frq Z (j + 1) s = frq Z j s + (if Z 10 0 j = nI s then 1 else 0) := rfl
theorem sumN_eqp {n : Nat} {f g : Nat → Nat} (h : ∀ k, k < n → f k ≤ g k) (e : sumN n f = sumN n g) : ∀ k, k < n → f k = g k := by
  induction n with
  | zero => intro k hk; omega
  | succ n ih =>
    intro k hk
    simp only [sumN] at e
    have h1 := sumN_le (n := n) (f := f) (g := g) (fun k hk => h k (by omega))
    have h2 := h n (by omega)
    rcases Nat.lt_or_ge k n with q | q
    · exact ih (fun k hk => h k (by omega)) (by omega) k q
    · obtain rfl : k = n := by omega
      omega
theorem sumN_once {n : Nat} {P : Nat → Prop} [DecidablePred P] (h : ∀ j j', j < n → j' < n → P j → P j' → j = j') : sumN n (fun k => if P k then 1 else 0) ≤ 1 := by
  induction n with
  | zero => exact Nat.zero_le _
  | succ n ih =>
    simp only [sumN]
    by_cases q : P n
    · rw [if_pos q, sumN_zero (fun k hk => if_neg (fun q2 => by have := h k n (by omega) (by omega) q2 q; omega))]
      exact Nat.le_refl _
    · rw [if_neg q]
      exact ih (fun j j' hj hj' => h j j' (by omega) (by omega))
/-- a sheet that nobody uses is free once, any other never -/
theorem frq_all {X : Sh} {Z : ZT} {fc : Nat} (H : HB X Z fc) : ∀ s, s < 513 → frq Z fc s = if cnt X Z s = 0 then 1 else 0 := by
  obtain ⟨-, -, -, -, -, -, d7, d8, d9⟩ := H
  refine sumN_eqp (fun s hs => ?_) ?_
  · by_cases c0 : cnt X Z s = 0
    · rw [if_pos c0]
      exact sumN_once (fun j j' hj hj' e e' => d8 j j' hj hj' (e.trans e'.symm))
    · rw [if_neg c0]
      refine Nat.le_of_eq (sumN_zero (fun k hk => if_neg (fun q => ?_)))
      obtain ⟨s', hs', e, c⟩ := d7 k hk
      obtain rfl : s = s' := nI_inj (by omega) (by omega) (q.symm.trans e)
      exact c0 c
  · rw [d9]
    show sumN 513 (fun s => sumN fc (fun k => if Z 10 0 k = nI s then 1 else 0)) = fc
    rw [sumN_swap]
    have e1 : sumN fc (fun k => sumN 513 (fun s => if Z 10 0 k = nI s then 1 else 0)) = sumN fc (fun _ => 1) := sumN_congr fun k hk => by
      obtain ⟨s0, hs0, e, -⟩ := d7 k hk
      have e2 : sumN 513 (fun s => if Z 10 0 k = nI s then 1 else 0) = sumN 513 (fun s => if s = s0 then 1 else 0) := sumN_congr fun s hs => by
        rw [e]
        by_cases q : s = s0
        · subst q; rw [if_pos rfl, if_pos rfl]
        · rw [if_neg q, if_neg]
          intro q2
          exact q (nI_inj (by omega) (by omega) q2.symm)
      rw [e2, sumN_one hs0]
    rw [e1, sumN_const, Nat.mul_one]

set_option maxHeartbeats 4000000 in
set_option maxRecDepth 100000 in
theorem c_X1_countWrongFree (l : Launch) (sz0 : Nat) (D : va_G) (cs : Nat → ClassId) (X : Sh) (Z : ZT) (Y : va_W) (hX : HXI X) (h o hd g3 g4 fc : Nat) (hA : HA X Z h o hd g3 g4) (hB : HB X Z fc) : Ctr l yX1_countWrongFree (wsM yX1_countWrongFree cX1_countWrongFree 3 (some .int)) ({ frames := 1, cells := 0, slots := 0, locals := 23 } : Room) sz0 D cs [.ref (X.1 2 0)] X Z Y (Pz X Y (fun Z' v => v = some (.int 0) ∧ ∃ r, Z' = upr Z 11 0 r)) := by
  refine Ctr.ofW (by decide +kernel) (by intro v hv; simp at hv; rcases hv with rfl <;> rfl) (Nat.le_of_ble_eq_true rfl) ?_
  intro p e s m below meth c ls C hr hlocks hname hl hN hw
  obtain ⟨hx, hb, hml, hown, hts⟩ := id C
  have hcl := hB.c.2.2.2.2.2.1
  have hfc := hB.fc_le
  have hfr := frq_all hB
  obtain ⟨d1, d2, d3, d4, d5, d6, d7, d8, d9⟩ := hB
  have loop2 : ∀ (d j : Nat), j + d = 513 → ∀ (r : Nat → Int32) (H : Heap) (locs : List Loc) (ls : Array Slot), (∀ s, s < 513 → r s = nI (frq Z fc s)) → lo ls [some (.ref (X.1 2 0)), some (.int 0), some (.int (nI j))] → Wd sz0 D cs s X (upr Z 11 0 r) Y H locs → W p l e ({ frames := 1, cells := 0, slots := 0, locals := 23 } : Room) s m ([.ref (X.1 2 0)] : List Value).toArray below meth c H locs 0 0 (xQ below (CQ sz0 D cs (Pz X Y (fun Z' v => v = some (.int 0) ∧ ∃ r, Z' = upr Z 11 0 r))) ([.ref (X.1 2 0)] : List Value).toArray s (Asz sz0)) (F0 m 69 ls []) := by
    intro d
    induction d with
    | zero =>
      intro j hj r H locs ls hr1 hl hw
      refine lv_iload_n hx hb dX1_countWrongFree_69 rfl (hl.at rfl) ?_
      refine lv_sipush (v := 513) hx hb dX1_countWrongFree_70 (by decide) ?_
      refine lv_icmp_ge (tgt := 113) hx hb dX1_countWrongFree_73 (by decide) (fun h73 => ?_) (fun h73 => ?_)
      · refine lv_iload_n hx hb dX1_countWrongFree_113 rfl (hl.at rfl) ?_
        exact w_iret C hw hr hlocks dX1_countWrongFree_114 ⟨rfl, rfl, rfl, rfl, rfl, r, rfl⟩
      · exact absurd (nI_le (show 513 ≤ j by omega) (by omega)) h73
    | succ d ih =>
      intro j hj r H locs ls hr1 hl hw
      refine lv_iload_n hx hb dX1_countWrongFree_69 rfl (hl.at rfl) ?_
      refine lv_sipush (v := 513) hx hb dX1_countWrongFree_70 (by decide) ?_
      refine lv_icmp_ge (tgt := 113) hx hb dX1_countWrongFree_73 (by decide) (fun h73 => ?_) (fun h73 => ?_)
      · exact absurd h73 (nI_ge (show j < 513 by omega) (by decide))
      · refine lv_iload_n hx hb dX1_countWrongFree_76 rfl (hl.at rfl) ?_
        refine lv_aload_n hx hb dX1_countWrongFree_77 rfl (hl.at rfl) ?_
        refine w_get C hw (c0 := 2) (i0 := 0) rfl inA1 12 (by decide) mw36 rfl dX1_countWrongFree_78 (hX 2 (by decide)) rfl rfl rfl ?_
        refine lv_iload_n hx hb dX1_countWrongFree_81 rfl (hl.at rfl) ?_
        refine w_ild C hw (c0 := 11) (i0 := 0) dX1_countWrongFree_82 (hX 11 (by decide)) rfl rfl (vp_in_nI (show j < 513 by omega) (by decide)) (nI_clamp (by omega)) ?_
        rw [upr_s, hr1 j (by omega), hfr j (by omega)]
        by_cases c0 : cnt X Z j = 0
        · rw [if_pos c0]
          refine lv_aload_n hx hb dX1_countWrongFree_83 rfl (hl.at rfl) ?_
          refine w_get C hw (c0 := 2) (i0 := 0) rfl inA1 8 (by decide) mw32 rfl dX1_countWrongFree_84 (hX 2 (by decide)) rfl rfl rfl ?_
          refine lv_iload_n hx hb dX1_countWrongFree_87 rfl (hl.at rfl) ?_
          refine w_ild C hw (c0 := 7) (i0 := 0) dX1_countWrongFree_88 (hX 7 (by decide)) rfl rfl (vp_in_nI (show j < 513 by omega) (by decide)) (nI_clamp (by omega)) ?_
          rw [upr_k (show (7 : Nat) ≠ 11 by decide), d1 j (by omega), c0]
          refine lv_if_ne (tgt := 96) hx hb dX1_countWrongFree_89 (by decide) (fun h89 => ?_) (fun h89 => ?_)
          · exact absurd rfl h89
          · refine lv_iconst (v := 1) hx hb dX1_countWrongFree_92 (by decide) ?_
            refine lv_goto (tgt := 97) hx hb dX1_countWrongFree_93 (by decide) ?_
            refine lv_icmp_ne (tgt := 104) hx hb dX1_countWrongFree_97 (by decide) (fun h97 => ?_) (fun h97 => ?_)
            · exact absurd (show nI 1 = 1 by decide) h97
            · refine lv_iconst (v := 0) hx hb dX1_countWrongFree_100 (by decide) ?_
              refine lv_goto (tgt := 105) hx hb dX1_countWrongFree_101 (by decide) ?_
              refine lv_iadd hx hb dX1_countWrongFree_105 ?_
              refine lv_topi (fun y ey => ?_)
              obtain rfl : y = 0 := ey.trans (by decide)
              refine w_istore_n hx hb dX1_countWrongFree_106 rfl hl (Nat.le_of_ble_eq_true rfl) (fun ls hl => ?_)
              refine w_iinc hx hb dX1_countWrongFree_107 hl rfl rfl (fun ls hl => ?_)
              refine lv_goto (tgt := 69) hx hb dX1_countWrongFree_110 (by decide) ?_
              exact ih (j + 1) (by omega) r _ _ _ hr1 (by rw [← nI_1 j]; exact hl) hw
        · rw [if_neg c0]
          refine lv_aload_n hx hb dX1_countWrongFree_83 rfl (hl.at rfl) ?_
          refine w_get C hw (c0 := 2) (i0 := 0) rfl inA1 8 (by decide) mw32 rfl dX1_countWrongFree_84 (hX 2 (by decide)) rfl rfl rfl ?_
          refine lv_iload_n hx hb dX1_countWrongFree_87 rfl (hl.at rfl) ?_
          refine w_ild C hw (c0 := 7) (i0 := 0) dX1_countWrongFree_88 (hX 7 (by decide)) rfl rfl (vp_in_nI (show j < 513 by omega) (by decide)) (nI_clamp (by omega)) ?_
          rw [upr_k (show (7 : Nat) ≠ 11 by decide), d1 j (by omega)]
          refine lv_if_ne (tgt := 96) hx hb dX1_countWrongFree_89 (by decide) (fun h89 => ?_) (fun h89 => ?_)
          · refine lv_iconst (v := 0) hx hb dX1_countWrongFree_96 (by decide) ?_
            refine lv_icmp_ne (tgt := 104) hx hb dX1_countWrongFree_97 (by decide) (fun h97 => ?_) (fun h97 => ?_)
            · exact absurd (show nI 0 = 0 by decide) h97
            · refine lv_iconst (v := 0) hx hb dX1_countWrongFree_100 (by decide) ?_
              refine lv_goto (tgt := 105) hx hb dX1_countWrongFree_101 (by decide) ?_
              refine lv_iadd hx hb dX1_countWrongFree_105 ?_
              refine lv_topi (fun y ey => ?_)
              obtain rfl : y = 0 := ey.trans (by decide)
              refine w_istore_n hx hb dX1_countWrongFree_106 rfl hl (Nat.le_of_ble_eq_true rfl) (fun ls hl => ?_)
              refine w_iinc hx hb dX1_countWrongFree_107 hl rfl rfl (fun ls hl => ?_)
              refine lv_goto (tgt := 69) hx hb dX1_countWrongFree_110 (by decide) ?_
              exact ih (j + 1) (by omega) r _ _ _ hr1 (by rw [← nI_1 j]; exact hl) hw
          · exact absurd (nI_inj (by have := hcl j (by omega); omega) (by decide) h89) c0
  have loop : ∀ (d j : Nat), j + d = fc → ∀ (r : Nat → Int32) (H : Heap) (locs : List Loc) (ls : Array Slot), (∀ s, s < 513 → r s = nI (frq Z j s)) → lo ls [some (.ref (X.1 2 0)), some (.int 0), some (.int (nI j))] → Wd sz0 D cs s X (upr Z 11 0 r) Y H locs → W p l e ({ frames := 1, cells := 0, slots := 0, locals := 23 } : Room) s m ([.ref (X.1 2 0)] : List Value).toArray below meth c H locs 0 0 (xQ below (CQ sz0 D cs (Pz X Y (fun Z' v => v = some (.int 0) ∧ ∃ r, Z' = upr Z 11 0 r))) ([.ref (X.1 2 0)] : List Value).toArray s (Asz sz0)) (F0 m 12 ls []) := by
    intro d
    induction d with
    | zero =>
      intro j hj r H locs ls hr1 hl hw
      refine lv_iload_n hx hb dX1_countWrongFree_12 rfl (hl.at rfl) ?_
      refine lv_aload_n hx hb dX1_countWrongFree_13 rfl (hl.at rfl) ?_
      refine w_get C hw (c0 := 2) (i0 := 0) rfl inA1 3 (by decide) mw57 rfl dX1_countWrongFree_14 (hX 2 (by decide)) rfl rfl rfl ?_
      rw [upr_k (show (2 : Nat) ≠ 11 by decide), d6]
      refine lv_icmp_ge (tgt := 67) hx hb dX1_countWrongFree_17 (by decide) (fun h17 => ?_) (fun h17 => ?_)
      · obtain rfl : j = fc := by omega
        refine lv_iconst (v := 0) hx hb dX1_countWrongFree_67 (by decide) ?_
        refine w_istore_n hx hb dX1_countWrongFree_68 rfl hl (Nat.le_of_ble_eq_true rfl) (fun ls hl => ?_)
        exact loop2 513 0 (by decide) r _ _ _ hr1 hl hw
      · exact absurd (nI_le (show fc ≤ j by omega) (by omega)) h17
    | succ d ih =>
      intro j hj r H locs ls hr1 hl hw
      refine lv_iload_n hx hb dX1_countWrongFree_12 rfl (hl.at rfl) ?_
      refine lv_aload_n hx hb dX1_countWrongFree_13 rfl (hl.at rfl) ?_
      refine w_get C hw (c0 := 2) (i0 := 0) rfl inA1 3 (by decide) mw57 rfl dX1_countWrongFree_14 (hX 2 (by decide)) rfl rfl rfl ?_
      rw [upr_k (show (2 : Nat) ≠ 11 by decide), d6]
      refine lv_icmp_ge (tgt := 67) hx hb dX1_countWrongFree_17 (by decide) (fun h17 => ?_) (fun h17 => ?_)
      · exact absurd h17 (nI_ge (show j < fc by omega) (by omega))
      · obtain ⟨sh, hs, e10, c0⟩ := d7 j (by omega)
        refine lv_iload_n hx hb dX1_countWrongFree_20 rfl (hl.at rfl) ?_
        refine lv_sipush (v := 513) hx hb dX1_countWrongFree_21 (by decide) ?_
        refine lv_icmp_ge (tgt := 67) hx hb dX1_countWrongFree_24 (by decide) (fun h24 => ?_) (fun h24 => ?_)
        · exact absurd h24 (nI_ge (show j < 513 by omega) (by decide))
        · refine lv_aload_n hx hb dX1_countWrongFree_27 rfl (hl.at rfl) ?_
          refine lv_aload_n hx hb dX1_countWrongFree_28 rfl (hl.at rfl) ?_
          refine w_get C hw (c0 := 2) (i0 := 0) rfl inA1 11 (by decide) mw35 rfl dX1_countWrongFree_29 (hX 2 (by decide)) rfl rfl rfl ?_
          refine lv_iload_n hx hb dX1_countWrongFree_32 rfl (hl.at rfl) ?_
          refine w_ild C hw (c0 := 10) (i0 := 0) dX1_countWrongFree_33 (hX 10 (by decide)) rfl rfl (vp_in_nI (show j < 513 by omega) (by decide)) (nI_clamp (by omega)) ?_
          rw [upr_k (show (10 : Nat) ≠ 11 by decide), e10]
          refine w_callV C hN hw (c_X1_isSheet l sz0 D cs X _ Y _) ⟨(Nat.le_of_ble_eq_true rfl), (Nat.le_of_ble_eq_true rfl), mw202, mw15, cy_X1_isSheet⟩ mw199 mw200 mw201 (w_rec hw (c0 := 2) (i0 := 0) (hX 2 (by decide)) rfl rfl) rfl hl.1.1 rfl (Nat.le_of_ble_eq_true rfl) dX1_countWrongFree_34 ⟨Nat.le_of_ble_eq_true rfl, Nat.le_of_ble_eq_true rfl⟩ (fun X' Z' Y' v k n H locs hp hw => ?_)
          obtain ⟨rfl, rfl, rfl, rfl, rfl, rfl⟩ := hp
          rw [isShv_nI hs]
          refine lv_if_eq (tgt := 58) hx hb dX1_countWrongFree_37 (by decide) (fun h37 => ?_) (fun h37 => ?_)
          · exact absurd h37 (by decide)
          · refine lv_aload_n hx hb dX1_countWrongFree_40 rfl (hl.at rfl) ?_
            refine w_get C hw (c0 := 2) (i0 := 0) rfl inA1 12 (by decide) mw36 rfl dX1_countWrongFree_41 (hX 2 (by decide)) rfl rfl rfl ?_
            refine lv_aload_n hx hb dX1_countWrongFree_44 rfl (hl.at rfl) ?_
            refine w_get C hw (c0 := 2) (i0 := 0) rfl inA1 11 (by decide) mw35 rfl dX1_countWrongFree_45 (hX 2 (by decide)) rfl rfl rfl ?_
            refine lv_iload_n hx hb dX1_countWrongFree_48 rfl (hl.at rfl) ?_
            refine w_ild C hw (c0 := 10) (i0 := 0) dX1_countWrongFree_49 (hX 10 (by decide)) rfl rfl (vp_in_nI (show j < 513 by omega) (by decide)) (nI_clamp (by omega)) ?_
            rw [upr_k (show (10 : Nat) ≠ 11 by decide), e10]
            refine lv_dup2_11 hx hb dX1_countWrongFree_50 rfl rfl ?_
            refine w_ild C hw (c0 := 11) (i0 := 0) dX1_countWrongFree_51 (hX 11 (by decide)) rfl rfl (vp_in_nI hs (by decide)) (nI_clamp (by omega)) ?_
            refine lv_iconst (v := 1) hx hb dX1_countWrongFree_52 (by decide) ?_
            refine lv_iadd hx hb dX1_countWrongFree_53 ?_
            refine w_ist C hw (c0 := 11) (i0 := 0) dX1_countWrongFree_54 (hX 11 (by decide)) rfl (fun _ => rfl) (vp_in_nI hs (by decide)) (nI_clamp (by omega)) (fun H locs hw => ?_)
            refine lv_goto (tgt := 61) hx hb dX1_countWrongFree_55 (by decide) ?_
            refine w_iinc hx hb dX1_countWrongFree_61 hl rfl rfl (fun ls hl => ?_)
            refine lv_goto (tgt := 12) hx hb dX1_countWrongFree_64 (by decide) ?_
            simp only [upr_uu, upr_s] at hw
            refine ih (j + 1) (by omega) (upd r sh (r sh + 1)) _ _ _ (fun s hs2 => ?_) (by rw [← nI_1 j]; exact hl) hw
            rw [frq_s]
            by_cases e : s = sh
            · subst e
              rw [upd_s, hr1 s hs2, if_pos e10, nI_1]
            · rw [upd_n e, if_neg (by rw [e10]; exact fun q => e (nI_inj (by omega) (by omega) q.symm)), hr1 s hs2]; rfl
  refine lv_iconst (v := 0) hx hb dX1_countWrongFree_0 (by decide) ?_
  refine w_istore_n hx hb dX1_countWrongFree_1 rfl hl (Nat.le_of_ble_eq_true rfl) (fun ls hl => ?_)
  refine lv_aload_n hx hb dX1_countWrongFree_2 rfl (hl.at rfl) ?_
  refine w_get C hw (c0 := 2) (i0 := 0) rfl inA1 12 (by decide) mw36 rfl dX1_countWrongFree_3 (hX 2 (by decide)) rfl rfl rfl ?_
  refine lv_iconst (v := 0) hx hb dX1_countWrongFree_6 (by decide) ?_
  refine w_callS C hN hw (c_fill l sz0 D cs X _ Y 11 0 513 0 (hX 11 (by decide)) (fun _ => rfl) (by decide)) ⟨(Nat.le_of_ble_eq_true rfl), (Nat.le_of_ble_eq_true rfl), mw61, mw60, cy_J7_fill_53178⟩ mw58 mw59 rfl hl.1.1 rfl (Nat.le_of_ble_eq_true rfl) dX1_countWrongFree_7 ⟨Nat.le_of_ble_eq_true rfl, Nat.le_of_ble_eq_true rfl⟩ (fun X' Z' Y' v k n H locs hp hw => ?_)
  obtain ⟨rfl, rfl, rfl, rfl, rfl, rfl⟩ := hp
  refine lv_iconst (v := 0) hx hb dX1_countWrongFree_10 (by decide) ?_
  refine w_istore_n hx hb dX1_countWrongFree_11 rfl hl (Nat.le_of_ble_eq_true rfl) (fun ls hl => ?_)
  refine loop fc 0 (by omega) _ _ _ _ (fun s hs => ?_) hl hw
  rw [if_pos hs]; rfl
