set_option maxHeartbeats 4000000 in
set_option maxRecDepth 100000 in
theorem c_X0_become (l : Launch) (sz0 : Nat) (D : va_G) (cs : Nat → ClassId) (X : Sh) (Z : ZT) (Y : va_W) (i j : Nat) (hij : j ≠ i) (hG : GI X i) (hG2 : GI X j) : Ctr l yX0_become (wsM yX0_become cX0_become 2 none) ({ frames := 1, cells := 0, slots := 0, locals := 26 } : Room) sz0 D cs [.ref (X.1 20 i), .ref (X.1 20 j)] X Z Y (Pz X Y (fun Z' v => v = none ∧ (∀ c b, ¬ (b = i ∧ 20 ≤ c ∧ c ≤ 27) → Z' c b = Z c b) ∧ (Z' 20 i 0 = 1 ∧ ∀ k, (1 ≤ k ∧ k ≤ 6) ∨ k = 13 ∨ k = 14 ∨ k = 16 → Z' 20 i k = Z 20 j k) ∧ (∀ k, k < 1024 → Z' 22 i k = Z 22 j k) ∧ (∀ k, k < 8 → Z' 23 i k = Z 23 j k) ∧ (∀ k, k < 10 → Z' 24 i k = Z 24 j k) ∧ (∀ k, k < 256 → Z' 25 i k = Z 25 j k) ∧ (∀ k, k < 64 → Z' 26 i k = Z 26 j k) ∧ (∀ k, k < 1000 → Z' 27 i k = Z 27 j k))) := by
  refine Ctr.ofW (by decide +kernel) (by intro v hv; simp at hv; rcases hv with rfl | rfl <;> rfl) (Nat.le_of_ble_eq_true rfl) ?_
  intro p e s m below meth c ls C hr hlocks hname hl hN hw
  obtain ⟨hx, hb, hml, hown, hts⟩ := id C
  refine lv_aload_n hx hb dX0_become_0 rfl (hl.at rfl) ?_
  refine lv_iconst (v := 1) hx hb dX0_become_1 (by decide) ?_
  refine w_put C hw (c0 := 20) (i0 := i) rfl inA0 tyX0_ok nmX0 0 (by decide) mw126 rfl rfl rfl dX0_become_2 (hG 20 (by decide) (by decide)) rfl (by decide) (by decide) rfl (Nat.le_of_ble_eq_true rfl) rfl (fun H locs hw => ?_)
  refine lv_aload_n hx hb dX0_become_5 rfl (hl.at rfl) ?_
  refine lv_aload_n hx hb dX0_become_6 rfl (hl.at rfl) ?_
  refine w_get C hw (c0 := 20) (i0 := j) rfl inA0 1 (by decide) mw127 rfl dX0_become_7 (hG2 20 (by decide) (by decide)) rfl rfl rfl ?_
  refine w_put C hw (c0 := 20) (i0 := i) rfl inA0 tyX0_ok nmX0 1 (by decide) mw127 rfl rfl rfl dX0_become_10 (hG 20 (by decide) (by decide)) rfl rfl rfl rfl (Nat.le_of_ble_eq_true rfl) rfl (fun H locs hw => ?_)
  refine lv_aload_n hx hb dX0_become_13 rfl (hl.at rfl) ?_
  refine lv_aload_n hx hb dX0_become_14 rfl (hl.at rfl) ?_
  refine w_get C hw (c0 := 20) (i0 := j) rfl inA0 2 (by decide) mw136 rfl dX0_become_15 (hG2 20 (by decide) (by decide)) rfl rfl rfl ?_
  refine w_put C hw (c0 := 20) (i0 := i) rfl inA0 tyX0_ok nmX0 2 (by decide) mw136 rfl rfl rfl dX0_become_18 (hG 20 (by decide) (by decide)) rfl rfl rfl rfl (Nat.le_of_ble_eq_true rfl) rfl (fun H locs hw => ?_)
  refine lv_aload_n hx hb dX0_become_21 rfl (hl.at rfl) ?_
  refine lv_aload_n hx hb dX0_become_22 rfl (hl.at rfl) ?_
  refine w_get C hw (c0 := 20) (i0 := j) rfl inA0 3 (by decide) mw137 rfl dX0_become_23 (hG2 20 (by decide) (by decide)) rfl rfl rfl ?_
  refine w_put C hw (c0 := 20) (i0 := i) rfl inA0 tyX0_ok nmX0 3 (by decide) mw137 rfl rfl rfl dX0_become_26 (hG 20 (by decide) (by decide)) rfl rfl rfl rfl (Nat.le_of_ble_eq_true rfl) rfl (fun H locs hw => ?_)
  refine lv_aload_n hx hb dX0_become_29 rfl (hl.at rfl) ?_
  refine lv_aload_n hx hb dX0_become_30 rfl (hl.at rfl) ?_
  refine w_get C hw (c0 := 20) (i0 := j) rfl inA0 4 (by decide) mw138 rfl dX0_become_31 (hG2 20 (by decide) (by decide)) rfl rfl rfl ?_
  refine w_put C hw (c0 := 20) (i0 := i) rfl inA0 tyX0_ok nmX0 4 (by decide) mw138 rfl rfl rfl dX0_become_34 (hG 20 (by decide) (by decide)) rfl rfl rfl rfl (Nat.le_of_ble_eq_true rfl) rfl (fun H locs hw => ?_)
  refine lv_aload_n hx hb dX0_become_37 rfl (hl.at rfl) ?_
  refine lv_aload_n hx hb dX0_become_38 rfl (hl.at rfl) ?_
  refine w_get C hw (c0 := 20) (i0 := j) rfl inA0 5 (by decide) mw139 rfl dX0_become_39 (hG2 20 (by decide) (by decide)) rfl rfl rfl ?_
  refine w_put C hw (c0 := 20) (i0 := i) rfl inA0 tyX0_ok nmX0 5 (by decide) mw139 rfl rfl rfl dX0_become_42 (hG 20 (by decide) (by decide)) rfl rfl rfl rfl (Nat.le_of_ble_eq_true rfl) rfl (fun H locs hw => ?_)
  refine lv_aload_n hx hb dX0_become_45 rfl (hl.at rfl) ?_
  refine lv_aload_n hx hb dX0_become_46 rfl (hl.at rfl) ?_
  refine w_get C hw (c0 := 20) (i0 := j) rfl inA0 6 (by decide) mw128 rfl dX0_become_47 (hG2 20 (by decide) (by decide)) rfl rfl rfl ?_
  refine w_put C hw (c0 := 20) (i0 := i) rfl inA0 tyX0_ok nmX0 6 (by decide) mw128 rfl rfl rfl dX0_become_50 (hG 20 (by decide) (by decide)) rfl rfl rfl rfl (Nat.le_of_ble_eq_true rfl) rfl (fun H locs hw => ?_)
  refine lv_aload_n hx hb dX0_become_53 rfl (hl.at rfl) ?_
  refine lv_aload_n hx hb dX0_become_54 rfl (hl.at rfl) ?_
  refine w_get C hw (c0 := 20) (i0 := j) rfl inA0 13 (by decide) mw129 rfl dX0_become_55 (hG2 20 (by decide) (by decide)) rfl rfl rfl ?_
  refine w_put C hw (c0 := 20) (i0 := i) rfl inA0 tyX0_ok nmX0 13 (by decide) mw129 rfl rfl rfl dX0_become_58 (hG 20 (by decide) (by decide)) rfl rfl rfl rfl (Nat.le_of_ble_eq_true rfl) rfl (fun H locs hw => ?_)
  refine lv_aload_n hx hb dX0_become_61 rfl (hl.at rfl) ?_
  refine lv_aload_n hx hb dX0_become_62 rfl (hl.at rfl) ?_
  refine w_get C hw (c0 := 20) (i0 := j) rfl inA0 14 (by decide) mw130 rfl dX0_become_63 (hG2 20 (by decide) (by decide)) rfl rfl rfl ?_
  refine w_put C hw (c0 := 20) (i0 := i) rfl inA0 tyX0_ok nmX0 14 (by decide) mw130 rfl rfl rfl dX0_become_66 (hG 20 (by decide) (by decide)) rfl rfl rfl rfl (Nat.le_of_ble_eq_true rfl) rfl (fun H locs hw => ?_)
  refine lv_aload_n hx hb dX0_become_69 rfl (hl.at rfl) ?_
  refine lv_aload_n hx hb dX0_become_70 rfl (hl.at rfl) ?_
  refine w_get C hw (c0 := 20) (i0 := j) rfl inA0 16 (by decide) mw131 rfl dX0_become_71 (hG2 20 (by decide) (by decide)) rfl rfl rfl ?_
  refine w_put C hw (c0 := 20) (i0 := i) rfl inA0 tyX0_ok nmX0 16 (by decide) mw131 rfl rfl rfl dX0_become_74 (hG 20 (by decide) (by decide)) rfl rfl rfl rfl (Nat.le_of_ble_eq_true rfl) rfl (fun H locs hw => ?_)
  refine lv_aload_n hx hb dX0_become_77 rfl (hl.at rfl) ?_
  refine w_get C hw (c0 := 20) (i0 := j) rfl inA0 8 (by decide) mw116 rfl dX0_become_78 (hG2 20 (by decide) (by decide)) rfl rfl rfl ?_
  refine lv_iconst (v := 0) hx hb dX0_become_81 (by decide) ?_
  refine lv_aload_n hx hb dX0_become_82 rfl (hl.at rfl) ?_
  refine w_get C hw (c0 := 20) (i0 := i) rfl inA0 8 (by decide) mw116 rfl dX0_become_83 (hG 20 (by decide) (by decide)) rfl rfl rfl ?_
  refine lv_iconst (v := 0) hx hb dX0_become_86 (by decide) ?_
  refine lv_sipush (v := 1024) hx hb dX0_become_87 (by decide) ?_
  simp only [upr_uu, upr_s, upr_i hij] at hw
  refine w_cpy C hw (c0 := 22) (i0 := j) (c1 := 22) (i1 := i) mw300 dX0_become_90 (hG2 22 (by decide) (by decide)) rfl rfl (hG 22 (by decide) (by decide)) rfl (fun _ => rfl) (by decide) (by decide) (by decide) (js := 0) (by decide) (jd := 0) (by decide) (jn := 1024) (by decide) (by decide) (by decide) hl.1.1 (Nat.le_of_ble_eq_true rfl) (Nat.le_of_ble_eq_true rfl) (fun H locs hw => ?_)
  refine lv_aload_n hx hb dX0_become_93 rfl (hl.at rfl) ?_
  refine w_get C hw (c0 := 20) (i0 := j) rfl inA0 9 (by decide) mw117 rfl dX0_become_94 (hG2 20 (by decide) (by decide)) rfl rfl rfl ?_
  refine lv_iconst (v := 0) hx hb dX0_become_97 (by decide) ?_
  refine lv_aload_n hx hb dX0_become_98 rfl (hl.at rfl) ?_
  refine w_get C hw (c0 := 20) (i0 := i) rfl inA0 9 (by decide) mw117 rfl dX0_become_99 (hG 20 (by decide) (by decide)) rfl rfl rfl ?_
  refine lv_iconst (v := 0) hx hb dX0_become_102 (by decide) ?_
  refine lv_bipush (v := 8) hx hb dX0_become_103 (by decide) ?_
  refine w_cpy C hw (c0 := 23) (i0 := j) (c1 := 23) (i1 := i) mw300 dX0_become_105 (hG2 23 (by decide) (by decide)) rfl rfl (hG 23 (by decide) (by decide)) rfl (fun _ => rfl) (by decide) (by decide) (by decide) (js := 0) (by decide) (jd := 0) (by decide) (jn := 8) (by decide) (by decide) (by decide) hl.1.1 (Nat.le_of_ble_eq_true rfl) (Nat.le_of_ble_eq_true rfl) (fun H locs hw => ?_)
  refine lv_aload_n hx hb dX0_become_108 rfl (hl.at rfl) ?_
  refine w_get C hw (c0 := 20) (i0 := j) rfl inA0 10 (by decide) mw118 rfl dX0_become_109 (hG2 20 (by decide) (by decide)) rfl rfl rfl ?_
  refine lv_iconst (v := 0) hx hb dX0_become_112 (by decide) ?_
  refine lv_aload_n hx hb dX0_become_113 rfl (hl.at rfl) ?_
  refine w_get C hw (c0 := 20) (i0 := i) rfl inA0 10 (by decide) mw118 rfl dX0_become_114 (hG 20 (by decide) (by decide)) rfl rfl rfl ?_
  refine lv_iconst (v := 0) hx hb dX0_become_117 (by decide) ?_
  refine lv_bipush (v := 10) hx hb dX0_become_118 (by decide) ?_
  refine w_cpy C hw (c0 := 24) (i0 := j) (c1 := 24) (i1 := i) mw300 dX0_become_120 (hG2 24 (by decide) (by decide)) rfl rfl (hG 24 (by decide) (by decide)) rfl (fun _ => rfl) (by decide) (by decide) (by decide) (js := 0) (by decide) (jd := 0) (by decide) (jn := 10) (by decide) (by decide) (by decide) hl.1.1 (Nat.le_of_ble_eq_true rfl) (Nat.le_of_ble_eq_true rfl) (fun H locs hw => ?_)
  refine lv_aload_n hx hb dX0_become_123 rfl (hl.at rfl) ?_
  refine w_get C hw (c0 := 20) (i0 := j) rfl inA0 11 (by decide) mw119 rfl dX0_become_124 (hG2 20 (by decide) (by decide)) rfl rfl rfl ?_
  refine lv_iconst (v := 0) hx hb dX0_become_127 (by decide) ?_
  refine lv_aload_n hx hb dX0_become_128 rfl (hl.at rfl) ?_
  refine w_get C hw (c0 := 20) (i0 := i) rfl inA0 11 (by decide) mw119 rfl dX0_become_129 (hG 20 (by decide) (by decide)) rfl rfl rfl ?_
  refine lv_iconst (v := 0) hx hb dX0_become_132 (by decide) ?_
  refine lv_sipush (v := 256) hx hb dX0_become_133 (by decide) ?_
  refine w_cpy C hw (c0 := 25) (i0 := j) (c1 := 25) (i1 := i) mw300 dX0_become_136 (hG2 25 (by decide) (by decide)) rfl rfl (hG 25 (by decide) (by decide)) rfl (fun _ => rfl) (by decide) (by decide) (by decide) (js := 0) (by decide) (jd := 0) (by decide) (jn := 256) (by decide) (by decide) (by decide) hl.1.1 (Nat.le_of_ble_eq_true rfl) (Nat.le_of_ble_eq_true rfl) (fun H locs hw => ?_)
  refine lv_aload_n hx hb dX0_become_139 rfl (hl.at rfl) ?_
  refine w_get C hw (c0 := 20) (i0 := j) rfl inA0 12 (by decide) mw120 rfl dX0_become_140 (hG2 20 (by decide) (by decide)) rfl rfl rfl ?_
  refine lv_iconst (v := 0) hx hb dX0_become_143 (by decide) ?_
  refine lv_aload_n hx hb dX0_become_144 rfl (hl.at rfl) ?_
  refine w_get C hw (c0 := 20) (i0 := i) rfl inA0 12 (by decide) mw120 rfl dX0_become_145 (hG 20 (by decide) (by decide)) rfl rfl rfl ?_
  refine lv_iconst (v := 0) hx hb dX0_become_148 (by decide) ?_
  refine lv_bipush (v := 64) hx hb dX0_become_149 (by decide) ?_
  refine w_cpy C hw (c0 := 26) (i0 := j) (c1 := 26) (i1 := i) mw300 dX0_become_151 (hG2 26 (by decide) (by decide)) rfl rfl (hG 26 (by decide) (by decide)) rfl (fun _ => rfl) (by decide) (by decide) (by decide) (js := 0) (by decide) (jd := 0) (by decide) (jn := 64) (by decide) (by decide) (by decide) hl.1.1 (Nat.le_of_ble_eq_true rfl) (Nat.le_of_ble_eq_true rfl) (fun H locs hw => ?_)
  refine lv_aload_n hx hb dX0_become_154 rfl (hl.at rfl) ?_
  refine w_get C hw (c0 := 20) (i0 := j) rfl inA0 15 (by decide) mw121 rfl dX0_become_155 (hG2 20 (by decide) (by decide)) rfl rfl rfl ?_
  refine lv_iconst (v := 0) hx hb dX0_become_158 (by decide) ?_
  refine lv_aload_n hx hb dX0_become_159 rfl (hl.at rfl) ?_
  refine w_get C hw (c0 := 20) (i0 := i) rfl inA0 15 (by decide) mw121 rfl dX0_become_160 (hG 20 (by decide) (by decide)) rfl rfl rfl ?_
  refine lv_iconst (v := 0) hx hb dX0_become_163 (by decide) ?_
  refine lv_sipush (v := 1000) hx hb dX0_become_164 (by decide) ?_
  refine w_cpy C hw (c0 := 27) (i0 := j) (c1 := 27) (i1 := i) mw300 dX0_become_167 (hG2 27 (by decide) (by decide)) rfl rfl (hG 27 (by decide) (by decide)) rfl (fun _ => rfl) (by decide) (by decide) (by decide) (js := 0) (by decide) (jd := 0) (by decide) (jn := 1000) (by decide) (by decide) (by decide) hl.1.1 (Nat.le_of_ble_eq_true rfl) (Nat.le_of_ble_eq_true rfl) (fun H locs hw => ?_)
  simp only [upr_k (show (22 : Nat) ≠ 20 by decide), upr_k (show (23 : Nat) ≠ 20 by decide), upr_k (show (24 : Nat) ≠ 20 by decide), upr_k (show (25 : Nat) ≠ 20 by decide), upr_k (show (26 : Nat) ≠ 20 by decide), upr_k (show (27 : Nat) ≠ 20 by decide), upr_k (show (23 : Nat) ≠ 22 by decide), upr_k (show (24 : Nat) ≠ 22 by decide), upr_k (show (24 : Nat) ≠ 23 by decide), upr_k (show (25 : Nat) ≠ 22 by decide), upr_k (show (25 : Nat) ≠ 23 by decide), upr_k (show (25 : Nat) ≠ 24 by decide), upr_k (show (26 : Nat) ≠ 22 by decide), upr_k (show (26 : Nat) ≠ 23 by decide), upr_k (show (26 : Nat) ≠ 24 by decide), upr_k (show (26 : Nat) ≠ 25 by decide), upr_k (show (27 : Nat) ≠ 22 by decide), upr_k (show (27 : Nat) ≠ 23 by decide), upr_k (show (27 : Nat) ≠ 24 by decide), upr_k (show (27 : Nat) ≠ 25 by decide), upr_k (show (27 : Nat) ≠ 26 by decide)] at hw
  refine w_vret C hw hr hlocks dX0_become_170 ⟨rfl, rfl, rfl, rfl, rfl, ?_, ?_, ?_, ?_, ?_, ?_, ?_, ?_⟩
  · intro c b q
    rw [upr_n (by omega), upr_n (by omega), upr_n (by omega), upr_n (by omega), upr_n (by omega), upr_n (by omega), upr_n (by omega)]
  · rw [upr_k (by decide), upr_k (by decide), upr_k (by decide), upr_k (by decide), upr_k (by decide), upr_k (by decide), upr_s]
    refine ⟨rfl, fun k hk => ?_⟩
    have h9 : k = 1 ∨ k = 2 ∨ k = 3 ∨ k = 4 ∨ k = 5 ∨ k = 6 ∨ k = 13 ∨ k = 14 ∨ k = 16 := by omega
    rcases h9 with rfl | rfl | rfl | rfl | rfl | rfl | rfl | rfl | rfl <;> rfl
  · exact fun k hk => by
      simp only [upr_s, upr_k (show (22 : Nat) ≠ 23 by decide), upr_k (show (22 : Nat) ≠ 24 by decide), upr_k (show (22 : Nat) ≠ 25 by decide), upr_k (show (22 : Nat) ≠ 26 by decide), upr_k (show (22 : Nat) ≠ 27 by decide)]
      show (if 0 ≤ k ∧ k < 0 + 1024 then Z 22 j (0 + (k - 0)) else _) = _
      rw [if_pos ⟨Nat.zero_le _, by omega⟩]; congr 1; omega
  · exact fun k hk => by
      simp only [upr_s, upr_k (show (23 : Nat) ≠ 24 by decide), upr_k (show (23 : Nat) ≠ 25 by decide), upr_k (show (23 : Nat) ≠ 26 by decide), upr_k (show (23 : Nat) ≠ 27 by decide)]
      show (if 0 ≤ k ∧ k < 0 + 8 then Z 23 j (0 + (k - 0)) else _) = _
      rw [if_pos ⟨Nat.zero_le _, by omega⟩]; congr 1; omega
  · exact fun k hk => by
      simp only [upr_s, upr_k (show (24 : Nat) ≠ 25 by decide), upr_k (show (24 : Nat) ≠ 26 by decide), upr_k (show (24 : Nat) ≠ 27 by decide)]
      show (if 0 ≤ k ∧ k < 0 + 10 then Z 24 j (0 + (k - 0)) else _) = _
      rw [if_pos ⟨Nat.zero_le _, by omega⟩]; congr 1; omega
  · exact fun k hk => by
      simp only [upr_s, upr_k (show (25 : Nat) ≠ 26 by decide), upr_k (show (25 : Nat) ≠ 27 by decide)]
      show (if 0 ≤ k ∧ k < 0 + 256 then Z 25 j (0 + (k - 0)) else _) = _
      rw [if_pos ⟨Nat.zero_le _, by omega⟩]; congr 1; omega
  · exact fun k hk => by
      simp only [upr_s, upr_k (show (26 : Nat) ≠ 27 by decide)]
      show (if 0 ≤ k ∧ k < 0 + 64 then Z 26 j (0 + (k - 0)) else _) = _
      rw [if_pos ⟨Nat.zero_le _, by omega⟩]; congr 1; omega
  · exact fun k hk => by
      simp only [upr_s]
      show (if 0 ≤ k ∧ k < 0 + 1000 then Z 27 j (0 + (k - 0)) else _) = _
      rw [if_pos ⟨Nat.zero_le _, by omega⟩]; congr 1; omega
