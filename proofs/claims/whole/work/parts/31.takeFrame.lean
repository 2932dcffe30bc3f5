set_option maxHeartbeats 4000000 in
set_option maxRecDepth 100000 in
theorem c_X1_takeFrame (l : Launch) (sz0 : Nat) (D : va_G) (cs : Nat → ClassId) (X : Sh) (Z : ZT) (Y : va_W) (hX : HXI X) (hU : HUI X) (h o hd g3 g4 kc ks : Nat) (kp : Int32) (hH : HA X Z h o hd g3 g4) (hkp : kp = -1 ∨ ∃ kf, kf < o ∧ kp = nI kf ∧ Z 5 0 kf ≠ -1) (hkc : g3 ≤ kc) (hks : 32768 * g3 ≤ ks) : Ctr l yX1_takeFrame (wsM yX1_takeFrame cX1_takeFrame 5 (some .int)) ({ frames := 2, cells := kc, slots := ks, locals := 48 } : Room) sz0 D cs [.ref (X.1 2 0), .int kp] X Z Y (fun X' Z' Y' v k n => Y = Y' ∧ ∃ f, v = some (.int (nI f)) ∧ TF X Z h o g3 g4 kp X' Z' f k n) := by
  refine Ctr.ofW (by decide +kernel) (by intro v hv; simp at hv; rcases hv with rfl | rfl <;> rfl) (Nat.le_of_ble_eq_true rfl) ?_
  intro p e s m below meth c ls C hr hlocks hname hl hN hw
  obtain ⟨hx, hb, hml, hown, hts⟩ := id C
  have hH0 := hH
  obtain ⟨⟨a1, a2, a3, a4⟩, ⟨b1, b2, b3⟩, ⟨c11, c12, c13, c14⟩, c2, c3, c4, c5, c6, c7⟩ := hH
  have hh31 : h < 2 ^ 31 := by omega
  have ho31 : o < 2 ^ 31 := by omega
  refine lv_aload_n hx hb dX1_takeFrame_0 rfl (hl.at rfl) ?_
  refine w_get C hw (c0 := 2) (i0 := 0) rfl inA1 1 (by decide) mw55 rfl dX1_takeFrame_1 (hX 2 (by decide)) rfl rfl rfl ?_
  refine lv_topi (fun y ey => ?_)
  obtain rfl : y = nI o := ey.trans b2
  refine lv_aload_n hx hb dX1_takeFrame_4 rfl (hl.at rfl) ?_
  refine w_get C hw (c0 := 2) (i0 := 0) rfl inA1 0 (by decide) mw54 rfl dX1_takeFrame_5 (hX 2 (by decide)) rfl rfl rfl ?_
  refine lv_topi (fun y ey => ?_)
  obtain rfl : y = nI h := ey.trans b1
  refine lv_icmp_ge (tgt := 61) hx hb dX1_takeFrame_8 (by decide) (fun h8 => ?_) (fun h8 => ?_)
  · have hoh : o = h := by
      have := (nI_leI hh31 ho31).mp h8
      omega
    subst hoh
    have hne : ∀ a : Nat, (a + 1) % o = if a % o + 1 < o then a % o + 1 else 0 := by
      intro a
      rw [Nat.add_mod]
      have h1 : (1 : Nat) % o = 1 := Nat.mod_eq_of_lt (by omega)
      rw [h1]
      have h2 : a % o < o := Nat.mod_lt _ (by omega)
      split
      · exact Nat.mod_eq_of_lt (by assumption)
      · have : a % o + 1 = o := by omega
        rw [this, Nat.mod_self]
    refine lv_iconst (v := 0) hx hb dX1_takeFrame_61 (by decide) ?_
    refine w_istore_n hx hb dX1_takeFrame_62 rfl hl (Nat.le_of_ble_eq_true rfl) (fun ls hl => ?_)
    have loop : ∀ (d t : Nat), t + d = o + 1 → ∀ (r : Nat → Int32), (∀ u, u < t → r ((hd + u) % o) = 0) → (t = o + 1 → nI ((hd + o) % o) = kp) → ∀ (H : Heap) (locs : List Loc) (ls : Array Slot) (sa sb : Option Value), lo ls [some (.ref (X.1 2 0)), some (.int kp), some (.int (nI t)), sa, sb] → Wd sz0 D cs s X (tfZ Z r ((hd + t) % o)) Y H locs → W p l e ({ frames := 2, cells := kc, slots := ks, locals := 48 } : Room) s m ([.ref (X.1 2 0), .int kp] : List Value).toArray below meth c H locs 0 0 (xQ below (CQ sz0 D cs (fun X' Z' Y' v k n => Y = Y' ∧ ∃ f, v = some (.int (nI f)) ∧ TF X Z o o g3 g4 kp X' Z' f k n)) ([.ref (X.1 2 0), .int kp] : List Value).toArray s (Asz sz0)) (F0 m 63 ls []) := by
      intro d
      induction d with
      | zero =>
        intro t htd r hr0 hr1 H locs ls sa sb hl hw
        obtain ⟨x, hxe⟩ : ∃ x, x = (hd + t) % o := ⟨_, rfl⟩
        have hxo : x < o := by rw [hxe]; exact Nat.mod_lt _ (by omega)
        rw [← hxe] at hw
        refine lv_iload_n hx hb dX1_takeFrame_63 rfl (hl.at rfl) ?_
        refine lv_iconst (v := 2) hx hb dX1_takeFrame_64 (by decide) ?_
        refine lv_aload_n hx hb dX1_takeFrame_65 rfl (hl.at rfl) ?_
        refine w_get C hw (c0 := 2) (i0 := 0) rfl inA1 0 (by decide) mw54 rfl dX1_takeFrame_66 (hX 2 (by decide)) rfl rfl rfl ?_
        refine lv_topi (fun y ey => ?_)
        obtain rfl : y = nI o := ey.trans (by rw [tfZ_2, upd_n (by decide)]; exact b1)
        refine lv_imul hx hb dX1_takeFrame_69 ?_
        refine lv_icmp_ge (tgt := 205) hx hb dX1_takeFrame_70 (by decide) (fun h70 => ?_) (fun h70 => ?_)
        · exfalso
          have h1 := (nI_leI (show 2 * o < 2 ^ 31 by omega) (show t < 2 ^ 31 by omega)).mp (by rw [← pk_mul]; exact h70)
          omega
        · refine lv_aload_n hx hb dX1_takeFrame_73 rfl (hl.at rfl) ?_
          refine w_get C hw (c0 := 2) (i0 := 0) rfl inA1 2 (by decide) mw56 rfl dX1_takeFrame_74 (hX 2 (by decide)) rfl rfl rfl ?_
          refine lv_topi (fun y ey => ?_)
          obtain rfl : y = nI x := ey.trans (by rw [tfZ_2, upd_s])
          refine w_istore_n hx hb dX1_takeFrame_77 rfl hl (Nat.le_of_ble_eq_true rfl) (fun ls hl => ?_)
          refine lv_aload_n hx hb dX1_takeFrame_78 rfl (hl.at rfl) ?_
          refine lv_aload_n hx hb dX1_takeFrame_79 rfl (hl.at rfl) ?_
          refine w_get C hw (c0 := 2) (i0 := 0) rfl inA1 2 (by decide) mw56 rfl dX1_takeFrame_80 (hX 2 (by decide)) rfl rfl rfl ?_
          refine lv_topi (fun y ey => ?_)
          obtain rfl : y = nI x := ey.trans (by rw [tfZ_2, upd_s])
          refine lv_iconst (v := 1) hx hb dX1_takeFrame_83 (by decide) ?_
          refine lv_iadd hx hb dX1_takeFrame_84 ?_
          refine lv_aload_n hx hb dX1_takeFrame_85 rfl (hl.at rfl) ?_
          refine w_get C hw (c0 := 2) (i0 := 0) rfl inA1 0 (by decide) mw54 rfl dX1_takeFrame_86 (hX 2 (by decide)) rfl rfl rfl ?_
          refine lv_topi (fun y ey => ?_)
          obtain rfl : y = nI o := ey.trans (by rw [tfZ_2, upd_n (by decide)]; exact b1)
          have hxn : (hd + (t + 1)) % o = if x + 1 < o then x + 1 else 0 := by rw [← Nat.add_assoc, hne, ← hxe]
          have hxn2 : (hd + (t + 1)) % o < o := Nat.mod_lt _ (by omega)
          have join : ∀ (H : Heap) (locs : List Loc) (ls : Array Slot), lo ls [some (.ref (X.1 2 0)), some (.int kp), some (.int (nI t)), some (.int (nI x)), sb] → Wd sz0 D cs s X (tfZ Z r x) Y H locs → W p l e ({ frames := 2, cells := kc, slots := ks, locals := 48 } : Room) s m ([.ref (X.1 2 0), .int kp] : List Value).toArray below meth c H locs 0 0 (xQ below (CQ sz0 D cs (fun X' Z' Y' v k n => Y = Y' ∧ ∃ f, v = some (.int (nI f)) ∧ TF X Z o o g3 g4 kp X' Z' f k n)) ([.ref (X.1 2 0), .int kp] : List Value).toArray s (Asz sz0)) (F0 m 102 ls [.int (nI ((hd + (t + 1)) % o)), .ref (X.1 2 0)]) := by
            intro H locs ls hl hw
            refine w_put C hw (c0 := 2) (i0 := 0) rfl inA1 tyX1_ok nmX1 2 (by decide) mw56 rfl rfl rfl dX1_takeFrame_102 (hX 2 (by decide)) rfl rfl rfl rfl (Nat.le_of_ble_eq_true rfl) rfl (fun H locs hw => ?_)
            rw [tfZ_put] at hw
            refine lv_aload_n hx hb dX1_takeFrame_105 rfl (hl.at rfl) ?_
            refine w_get C hw (c0 := 2) (i0 := 0) rfl inA1 6 (by decide) mw29 rfl dX1_takeFrame_106 (hX 2 (by decide)) rfl rfl rfl ?_
            refine lv_iload_n hx hb dX1_takeFrame_109 rfl (hl.at rfl) ?_
            refine w_ild C hw (c0 := 5) (i0 := 0) dX1_takeFrame_110 (hX 5 (by decide)) rfl rfl (vp_in_nI (show x < 256 by omega) (by omega)) (nI_clamp (by omega)) ?_
            rw [tfZ_o (c := 5) (by decide) (by decide)]
            refine w_istore hx hb dX1_takeFrame_111 hl (Nat.le_of_ble_eq_true rfl) (fun ls hl => ?_)
            refine lv_iload hx hb dX1_takeFrame_113 (hl.at rfl) ?_
            refine lv_iconst (v := -1) hx hb dX1_takeFrame_115 (by decide) ?_
            refine lv_icmp_ne (tgt := 121) hx hb dX1_takeFrame_116 (by decide) (fun h116 => ?_) (fun h116 => ?_)
            · have hex := (c4 x (by omega)).resolve_left h116
              obtain ⟨sh, hsh, hxo2, e5, e8⟩ := hex
              rw [e5] at hl
              have again : ∀ (H : Heap) (locs : List Loc) (ls : Array Slot), lo ls [some (.ref (X.1 2 0)), some (.int kp), some (.int (nI t)), some (.int (nI x)), some (.int (nI sh))] → Wd sz0 D cs s X (tfZ Z r ((hd + (t + 1)) % o)) Y H locs → (t < o ∨ nI x = kp) → W p l e ({ frames := 2, cells := kc, slots := ks, locals := 48 } : Room) s m ([.ref (X.1 2 0), .int kp] : List Value).toArray below meth c H locs 0 0 (xQ below (CQ sz0 D cs (fun X' Z' Y' v k n => Y = Y' ∧ ∃ f, v = some (.int (nI f)) ∧ TF X Z o o g3 g4 kp X' Z' f k n)) ([.ref (X.1 2 0), .int kp] : List Value).toArray s (Asz sz0)) (F0 m 192 ls []) := by
                intro H locs ls hl hw hkx
                refine lv_aload_n hx hb dX1_takeFrame_192 rfl (hl.at rfl) ?_
                refine w_get C hw (c0 := 2) (i0 := 0) rfl inA1 7 (by decide) mw31 rfl dX1_takeFrame_193 (hX 2 (by decide)) rfl rfl rfl ?_
                refine lv_iload_n hx hb dX1_takeFrame_196 rfl (hl.at rfl) ?_
                refine lv_iconst (v := 0) hx hb dX1_takeFrame_197 (by decide) ?_
                refine w_zst C hw (c0 := 6) (i0 := 0) dX1_takeFrame_198 (hX 6 (by decide)) rfl (fun _ => rfl) (vp_in_nI (show x < 256 by omega) (by omega)) (nI_clamp (by omega)) (by decide) (fun H locs hw => ?_)
                rw [tfZ_rec] at hw
                refine w_iinc hx hb dX1_takeFrame_199 hl rfl rfl (fun ls hl => ?_)
                refine lv_goto (tgt := 63) hx hb dX1_takeFrame_202 (by decide) ?_
                exfalso
                have ht : t = o + 1 := by omega
                have h1 := hr1 ht
                rcases hkx with hk | hk
                · omega
                · have h2 : x = (hd + o) % o := nI_inj (by omega) (by have := Nat.mod_lt (hd + o) (show 0 < o by omega); omega) (hk.trans h1.symm)
                  rw [hxe, ht, ← Nat.add_assoc, hne, Nat.add_mod_right] at h2
                  have h3 := Nat.mod_lt hd (show 0 < o by omega)
                  split at h2 <;> omega
              refine lv_iload_n hx hb dX1_takeFrame_121 rfl (hl.at rfl) ?_
              refine lv_iload_n hx hb dX1_takeFrame_122 rfl (hl.at rfl) ?_
              refine lv_icmp_eq (tgt := 192) hx hb dX1_takeFrame_123 (by decide) (fun h123 => ?_) (fun h123 => ?_)
              · exact again _ _ _ hl hw (Or.inr h123)
              · refine lv_aload_n hx hb dX1_takeFrame_126 rfl (hl.at rfl) ?_
                refine w_get C hw (c0 := 2) (i0 := 0) rfl inA1 7 (by decide) mw31 rfl dX1_takeFrame_127 (hX 2 (by decide)) rfl rfl rfl ?_
                refine lv_iload_n hx hb dX1_takeFrame_130 rfl (hl.at rfl) ?_
                refine w_zld C hw (c0 := 6) (i0 := 0) dX1_takeFrame_131 (hX 6 (by decide)) rfl rfl (vp_in_nI (show x < 256 by omega) (by omega)) (nI_clamp (by omega)) ?_
                rw [tfZ_6]
                refine lv_if_ne (tgt := 192) hx hb dX1_takeFrame_132 (by decide) (fun h132 => ?_) (fun h132 => ?_)
                · refine again _ _ _ hl hw (Or.inl ?_)
                  rcases Nat.lt_or_ge t o with q | q
                  · exact q
                  · exfalso
                    apply h132
                    have := hr0 (t - o) (by omega)
                    rw [← this]
                    congr 1
                    rw [hxe, show hd + t = hd + (t - o) + o by omega, Nat.add_mod_right]
                · refine lv_aload_n hx hb dX1_takeFrame_135 rfl (hl.at rfl) ?_
                  refine w_get C hw (c0 := 2) (i0 := 0) rfl inA1 10 (by decide) mw34 rfl dX1_takeFrame_136 (hX 2 (by decide)) rfl rfl rfl ?_
                  refine lv_iload hx hb dX1_takeFrame_139 (hl.at rfl) ?_
                  refine w_zld C hw (c0 := 9) (i0 := 0) dX1_takeFrame_141 (hX 9 (by decide)) rfl rfl (vp_in_nI hsh (by omega)) (nI_clamp (by omega)) ?_
                  rw [tfZ_o (c := 9) (by decide) (by decide)]
                  have hkp9 : ∀ s, s < 513 → Z 8 0 s = kp → s ≠ sh := fun s hs e q => h123 (by rw [← e8, ← q]; exact e)
                  have fin : ∀ (a : Nat → Int32) (H : Heap) (locs : List Loc) (ls : Array Slot), lo ls [some (.ref (X.1 2 0)), some (.int kp), some (.int (nI t)), some (.int (nI x)), some (.int (nI sh))] → (∀ j, j < 64 → a (64 * sh + j) = Z 3 0 (64 * x + j)) → (∀ j, ¬ (64 * sh ≤ j ∧ j < 64 * sh + 64) → a j = Z 4 0 j) → Wd sz0 D cs s X (upr (upr (tfZ Z r ((hd + (t + 1)) % o)) 4 0 a) 9 0 (upd (Z 9 0) sh 0)) Y H locs → W p l e ({ frames := 2, cells := kc, slots := ks, locals := 48 } : Room) s m ([.ref (X.1 2 0), .int kp] : List Value).toArray below meth c H locs 0 0 (xQ below (CQ sz0 D cs (fun X' Z' Y' v k n => Y = Y' ∧ ∃ f, v = some (.int (nI f)) ∧ TF X Z o o g3 g4 kp X' Z' f k n)) ([.ref (X.1 2 0), .int kp] : List Value).toArray s (Asz sz0)) (F0 m 175 ls []) := by
                    intro a H locs ls hl ha hb9 hw
                    refine lv_aload_n hx hb dX1_takeFrame_175 rfl (hl.at rfl) ?_
                    refine w_get C hw (c0 := 2) (i0 := 0) rfl inA1 9 (by decide) mw33 rfl dX1_takeFrame_176 (hX 2 (by decide)) rfl rfl rfl ?_
                    refine lv_iload hx hb dX1_takeFrame_179 (hl.at rfl) ?_
                    refine lv_iconst (v := -1) hx hb dX1_takeFrame_181 (by decide) ?_
                    refine w_ist C hw (c0 := 8) (i0 := 0) dX1_takeFrame_182 (hX 8 (by decide)) rfl (fun _ => rfl) (vp_in_nI hsh (by omega)) (nI_clamp (by omega)) (fun H locs hw => ?_)
                    refine lv_aload_n hx hb dX1_takeFrame_183 rfl (hl.at rfl) ?_
                    refine w_get C hw (c0 := 2) (i0 := 0) rfl inA1 6 (by decide) mw29 rfl dX1_takeFrame_184 (hX 2 (by decide)) rfl rfl rfl ?_
                    refine lv_iload_n hx hb dX1_takeFrame_187 rfl (hl.at rfl) ?_
                    refine lv_iconst (v := -1) hx hb dX1_takeFrame_188 (by decide) ?_
                    refine w_ist C hw (c0 := 5) (i0 := 0) dX1_takeFrame_189 (hX 5 (by decide)) rfl (fun _ => rfl) (vp_in_nI (show x < 256 by omega) (by omega)) (nI_clamp (by omega)) (fun H locs hw => ?_)
                    refine lv_iload_n hx hb dX1_takeFrame_190 rfl (hl.at rfl) ?_
                    have eZ : upr (upr (upr (upr (tfZ Z r ((hd + (t + 1)) % o)) 4 0 a) 9 0 (upd (Z 9 0) sh 0)) 8 0 (upd (upr (upr (tfZ Z r ((hd + (t + 1)) % o)) 4 0 a) 9 0 (upd (Z 9 0) sh 0) 8 0) sh (-1))) 5 0 (upd (upr (upr (upr (tfZ Z r ((hd + (t + 1)) % o)) 4 0 a) 9 0 (upd (Z 9 0) sh 0)) 8 0 (upd (upr (upr (tfZ Z r ((hd + (t + 1)) % o)) 4 0 a) 9 0 (upd (Z 9 0) sh 0) 8 0) sh (-1)) 5 0) x (-1)) = evZ (tfZ Z r ((hd + (t + 1)) % o)) x sh a := by
                      unfold evZ
                      rw [upr_k (show (5 : Nat) ≠ 8 by decide), upr_k (show (5 : Nat) ≠ 9 by decide), upr_k (show (5 : Nat) ≠ 4 by decide), upr_k (show (8 : Nat) ≠ 9 by decide), upr_k (show (8 : Nat) ≠ 4 by decide), tfZ_o (c := 9) (by decide) (by decide)]
                    rw [eZ] at hw
                    have hT := tfZ_HA (r := r) hH0 hxn2
                    obtain ⟨m1, m2⟩ := ev_main (a := a) hT hsh hxo (by rw [tfZ_o (c := 5) (by decide) (by decide)]; exact e5) (by rw [tfZ_o (c := 8) (by decide) (by decide)]; exact e8) (by rw [tfZ_o (c := 3) (by decide) (by decide)]; exact ha) (by rw [tfZ_o (c := 4) (by decide) (by decide)]; exact hb9)
                    refine w_iret C hw hr hlocks dX1_takeFrame_191 ⟨rfl, x, rfl, X.2.1, o, _, g3, rfl, rfl, rfl, h123, hxo, Nat.le_refl _, m1, by omega, by omega, by rw [evZ_5, upd_s], fun s hs e => ?_, fun s hs => ?_, fun s j hs hj => ?_, fun c i hc => ?_, fun j h1 h2 => ?_⟩
                    · have hne := hkp9 s hs e
                      rw [evZ_8, evZ_9, upd_n hne, upd_n hne, tfZ_o (c := 8) (by decide) (by decide), tfZ_o (c := 9) (by decide) (by decide)]
                      exact ⟨e, rfl⟩
                    · rw [evZ_8, tfZ_o (c := 8) (by decide) (by decide)]
                      by_cases e : s = sh
                      · subst e; exact Or.inl upd_s
                      · exact Or.inr (upd_n e)
                    · rw [m2 s j hs hj, tfZ_scn]
                    · by_cases hi : i = 0
                      · subst hi
                        have : ∀ k, (k = 2 ∨ k = 3 ∨ k = 4 ∨ k = 5 ∨ k = 6 ∨ k = 8 ∨ k = 9) → c ≠ k := fun k hk e => hc ⟨rfl, by rw [e]; exact hk⟩
                        rw [evZ_o (this 4 (by decide)) (this 5 (by decide)) (this 8 (by decide)) (this 9 (by decide)), tfZ_o (this 2 (by decide)) (this 6 (by decide))]
                      · unfold evZ tfZ
                        rw [upr_i hi, upr_i hi, upr_i hi, upr_i hi, upr_i hi, upr_i hi]
                    · rw [evZ_o (by decide) (by decide) (by decide) (by decide), tfZ_2, upd_n h2]
                  refine lv_if_eq (tgt := 175) hx hb dX1_takeFrame_142 (by decide) (fun h142 => ?_) (fun h142 => ?_)
                  · have hA : ∀ j, j < 64 → Z 4 0 (64 * sh + j) = Z 3 0 (64 * x + j) := fun j hj => (c6 sh x j hsh hxo hj e8 h142).symm
                    refine fin (Z 4 0) _ _ _ hl hA (fun _ _ => rfl) ?_
                    have e9 : upr (upr (tfZ Z r ((hd + (t + 1)) % o)) 4 0 (Z 4 0)) 9 0 (upd (Z 9 0) sh 0) = tfZ Z r ((hd + (t + 1)) % o) := by
                      have u1 : upd (Z 9 0) sh 0 = Z 9 0 := by
                        funext j
                        by_cases e : j = sh
                        · subst e; rw [upd_s]; exact h142.symm
                        · rw [upd_n e]
                      rw [u1]
                      have u2 : Z 4 0 = tfZ Z r ((hd + (t + 1)) % o) 4 0 := (tfZ_o (by decide) (by decide)).symm
                      rw [u2, upr_id]
                      have u3 : Z 9 0 = tfZ Z r ((hd + (t + 1)) % o) 9 0 := (tfZ_o (by decide) (by decide)).symm
                      rw [u3, upr_id]
                    rw [e9]
                    exact hw
                  · refine lv_aload_n hx hb dX1_takeFrame_145 rfl (hl.at rfl) ?_
                    refine w_get C hw (c0 := 2) (i0 := 0) rfl inA1 4 (by decide) mw27 rfl dX1_takeFrame_146 (hX 2 (by decide)) rfl rfl rfl ?_
                    refine lv_iload_n hx hb dX1_takeFrame_149 rfl (hl.at rfl) ?_
                    refine lv_bipush (v := 64) hx hb dX1_takeFrame_150 (by decide) ?_
                    refine lv_imul hx hb dX1_takeFrame_152 ?_
                    refine lv_aload_n hx hb dX1_takeFrame_153 rfl (hl.at rfl) ?_
                    refine w_get C hw (c0 := 2) (i0 := 0) rfl inA1 5 (by decide) mw28 rfl dX1_takeFrame_154 (hX 2 (by decide)) rfl rfl rfl ?_
                    refine lv_iload hx hb dX1_takeFrame_157 (hl.at rfl) ?_
                    refine lv_bipush (v := 64) hx hb dX1_takeFrame_159 (by decide) ?_
                    refine lv_imul hx hb dX1_takeFrame_161 ?_
                    refine lv_bipush (v := 64) hx hb dX1_takeFrame_162 (by decide) ?_
                    have hle4 : 64 * (sh + 1) ≤ X.2.1 4 := by
                      rcases c3 sh hsh with q | ⟨_, _, _, _, q⟩
                      · rw [q] at e8; exact absurd e8.symm (nI_ne_m1 (by omega))
                      · exact q
                    have ex : nI x * 64 = nI (64 * x) := by rw [show nI x * 64 = nI x * nI 64 from rfl, pk_mul, Nat.mul_comm]
                    have es : nI sh * 64 = nI (64 * sh) := by rw [show nI sh * 64 = nI sh * nI 64 from rfl, pk_mul, Nat.mul_comm]
                    rw [ex, es]
                    refine w_cpy C hw (c0 := 3) (i0 := 0) (c1 := 4) (i1 := 0) mw195 dX1_takeFrame_164 (hX 3 (by decide)) rfl rfl (hX 4 (by decide)) rfl (fun _ => rfl) (nI_pos (by omega)) (nI_pos (by omega)) (by decide) (nI_clamp (by omega)) (nI_clamp (by omega)) (jn := 64) (by decide) (by omega) (by omega) hl.1.1 (Nat.le_of_ble_eq_true rfl) (Nat.le_of_ble_eq_true rfl) (fun H locs hw => ?_)
                    refine lv_aload_n hx hb dX1_takeFrame_167 rfl (hl.at rfl) ?_
                    refine w_get C hw (c0 := 2) (i0 := 0) rfl inA1 10 (by decide) mw34 rfl dX1_takeFrame_168 (hX 2 (by decide)) rfl rfl rfl ?_
                    refine lv_iload hx hb dX1_takeFrame_171 (hl.at rfl) ?_
                    refine lv_iconst (v := 0) hx hb dX1_takeFrame_173 (by decide) ?_
                    refine w_zst C hw (c0 := 9) (i0 := 0) dX1_takeFrame_174 (hX 9 (by decide)) rfl (fun _ => rfl) (vp_in_nI hsh (by omega)) (nI_clamp (by omega)) (by decide) (fun H locs hw => ?_)
                    rw [upr_k (show (9 : Nat) ≠ 4 by decide), tfZ_o (c := 9) (by decide) (by decide), tfZ_o (c := 3) (by decide) (by decide), tfZ_o (c := 4) (by decide) (by decide)] at hw
                    refine fin _ _ _ _ hl (fun j hj => ?_) (fun j hj => ?_) hw
                    · rw [pk_cpy_in (by omega) (by omega)]
                      congr 1
                      omega
                    · exact pk_cpy_out (by omega)
            · refine lv_iload_n hx hb dX1_takeFrame_119 rfl (hl.at rfl) ?_
              have hT := tfZ_HA (r := r) hH0 hxn2
              refine w_iret C hw hr hlocks dX1_takeFrame_120 ⟨rfl, x, rfl, X.2.1, o, _, g3, rfl, rfl, rfl, ?_, hxo, Nat.le_refl _, hT, by omega, by omega, by rw [tfZ_o (c := 5) (by decide) (by decide)]; exact h116, fun s hs e => ?_, fun s hs => ?_, fun s j hs hj => tfZ_scn, fun c i hc => ?_, fun j h1 h2 => ?_⟩
              · rcases hkp with rfl | ⟨kf, q1, rfl, q2⟩
                · exact nI_ne_m1 (by omega)
                · intro e
                  have := nI_inj (by omega) (by omega) e
                  subst this
                  exact q2 h116
              · rw [tfZ_o (c := 8) (by decide) (by decide), tfZ_o (c := 9) (by decide) (by decide)]
                exact ⟨e, rfl⟩
              · rw [tfZ_o (c := 8) (by decide) (by decide)]
                exact Or.inr rfl
              · by_cases hi : i = 0
                · subst hi
                  have : ∀ k, (k = 2 ∨ k = 3 ∨ k = 4 ∨ k = 5 ∨ k = 6 ∨ k = 8 ∨ k = 9) → c ≠ k := fun k hk e => hc ⟨rfl, by rw [e]; exact hk⟩
                  rw [tfZ_o (this 2 (by decide)) (this 6 (by decide))]
                · unfold tfZ
                  rw [upr_i hi, upr_i hi]
              · rw [tfZ_2, upd_n h2]
          refine lv_icmp_ge (tgt := 101) hx hb dX1_takeFrame_89 (by decide) (fun h89 => ?_) (fun h89 => ?_)
          · refine lv_iconst (v := 0) hx hb dX1_takeFrame_101 (by decide) ?_
            have e1 : (0 : Int32) = nI ((hd + (t + 1)) % o) := by
              rw [nI_1] at h89
              rw [hxn, if_neg (fun q => nI_ge q hh31 h89)]; rfl
            rw [e1]
            exact join _ _ _ hl hw
          · refine lv_aload_n hx hb dX1_takeFrame_92 rfl (hl.at rfl) ?_
            refine w_get C hw (c0 := 2) (i0 := 0) rfl inA1 2 (by decide) mw56 rfl dX1_takeFrame_93 (hX 2 (by decide)) rfl rfl rfl ?_
            refine lv_topi (fun y ey => ?_)
            obtain rfl : y = nI x := ey.trans (by rw [tfZ_2, upd_s])
            refine lv_iconst (v := 1) hx hb dX1_takeFrame_96 (by decide) ?_
            refine lv_iadd hx hb dX1_takeFrame_97 ?_
            refine lv_goto (tgt := 102) hx hb dX1_takeFrame_98 (by decide) ?_
            have e1 : nI x + 1 = nI ((hd + (t + 1)) % o) := by
              rw [nI_1] at h89 ⊢
              rw [hxn, if_pos]
              rcases Nat.lt_or_ge (x + 1) o with q | q
              · exact q
              · exact absurd (nI_le q (by omega)) h89
            rw [e1]
            exact join _ _ _ hl hw
      | succ d ih =>
        intro t htd r hr0 hr1 H locs ls sa sb hl hw
        obtain ⟨x, hxe⟩ : ∃ x, x = (hd + t) % o := ⟨_, rfl⟩
        have hxo : x < o := by rw [hxe]; exact Nat.mod_lt _ (by omega)
        rw [← hxe] at hw
        refine lv_iload_n hx hb dX1_takeFrame_63 rfl (hl.at rfl) ?_
        refine lv_iconst (v := 2) hx hb dX1_takeFrame_64 (by decide) ?_
        refine lv_aload_n hx hb dX1_takeFrame_65 rfl (hl.at rfl) ?_
        refine w_get C hw (c0 := 2) (i0 := 0) rfl inA1 0 (by decide) mw54 rfl dX1_takeFrame_66 (hX 2 (by decide)) rfl rfl rfl ?_
        refine lv_topi (fun y ey => ?_)
        obtain rfl : y = nI o := ey.trans (by rw [tfZ_2, upd_n (by decide)]; exact b1)
        refine lv_imul hx hb dX1_takeFrame_69 ?_
        refine lv_icmp_ge (tgt := 205) hx hb dX1_takeFrame_70 (by decide) (fun h70 => ?_) (fun h70 => ?_)
        · exfalso
          have h1 := (nI_leI (show 2 * o < 2 ^ 31 by omega) (show t < 2 ^ 31 by omega)).mp (by rw [← pk_mul]; exact h70)
          omega
        · refine lv_aload_n hx hb dX1_takeFrame_73 rfl (hl.at rfl) ?_
          refine w_get C hw (c0 := 2) (i0 := 0) rfl inA1 2 (by decide) mw56 rfl dX1_takeFrame_74 (hX 2 (by decide)) rfl rfl rfl ?_
          refine lv_topi (fun y ey => ?_)
          obtain rfl : y = nI x := ey.trans (by rw [tfZ_2, upd_s])
          refine w_istore_n hx hb dX1_takeFrame_77 rfl hl (Nat.le_of_ble_eq_true rfl) (fun ls hl => ?_)
          refine lv_aload_n hx hb dX1_takeFrame_78 rfl (hl.at rfl) ?_
          refine lv_aload_n hx hb dX1_takeFrame_79 rfl (hl.at rfl) ?_
          refine w_get C hw (c0 := 2) (i0 := 0) rfl inA1 2 (by decide) mw56 rfl dX1_takeFrame_80 (hX 2 (by decide)) rfl rfl rfl ?_
          refine lv_topi (fun y ey => ?_)
          obtain rfl : y = nI x := ey.trans (by rw [tfZ_2, upd_s])
          refine lv_iconst (v := 1) hx hb dX1_takeFrame_83 (by decide) ?_
          refine lv_iadd hx hb dX1_takeFrame_84 ?_
          refine lv_aload_n hx hb dX1_takeFrame_85 rfl (hl.at rfl) ?_
          refine w_get C hw (c0 := 2) (i0 := 0) rfl inA1 0 (by decide) mw54 rfl dX1_takeFrame_86 (hX 2 (by decide)) rfl rfl rfl ?_
          refine lv_topi (fun y ey => ?_)
          obtain rfl : y = nI o := ey.trans (by rw [tfZ_2, upd_n (by decide)]; exact b1)
          have hxn : (hd + (t + 1)) % o = if x + 1 < o then x + 1 else 0 := by rw [← Nat.add_assoc, hne, ← hxe]
          have hxn2 : (hd + (t + 1)) % o < o := Nat.mod_lt _ (by omega)
          have join : ∀ (H : Heap) (locs : List Loc) (ls : Array Slot), lo ls [some (.ref (X.1 2 0)), some (.int kp), some (.int (nI t)), some (.int (nI x)), sb] → Wd sz0 D cs s X (tfZ Z r x) Y H locs → W p l e ({ frames := 2, cells := kc, slots := ks, locals := 48 } : Room) s m ([.ref (X.1 2 0), .int kp] : List Value).toArray below meth c H locs 0 0 (xQ below (CQ sz0 D cs (fun X' Z' Y' v k n => Y = Y' ∧ ∃ f, v = some (.int (nI f)) ∧ TF X Z o o g3 g4 kp X' Z' f k n)) ([.ref (X.1 2 0), .int kp] : List Value).toArray s (Asz sz0)) (F0 m 102 ls [.int (nI ((hd + (t + 1)) % o)), .ref (X.1 2 0)]) := by
            intro H locs ls hl hw
            refine w_put C hw (c0 := 2) (i0 := 0) rfl inA1 tyX1_ok nmX1 2 (by decide) mw56 rfl rfl rfl dX1_takeFrame_102 (hX 2 (by decide)) rfl rfl rfl rfl (Nat.le_of_ble_eq_true rfl) rfl (fun H locs hw => ?_)
            rw [tfZ_put] at hw
            refine lv_aload_n hx hb dX1_takeFrame_105 rfl (hl.at rfl) ?_
            refine w_get C hw (c0 := 2) (i0 := 0) rfl inA1 6 (by decide) mw29 rfl dX1_takeFrame_106 (hX 2 (by decide)) rfl rfl rfl ?_
            refine lv_iload_n hx hb dX1_takeFrame_109 rfl (hl.at rfl) ?_
            refine w_ild C hw (c0 := 5) (i0 := 0) dX1_takeFrame_110 (hX 5 (by decide)) rfl rfl (vp_in_nI (show x < 256 by omega) (by omega)) (nI_clamp (by omega)) ?_
            rw [tfZ_o (c := 5) (by decide) (by decide)]
            refine w_istore hx hb dX1_takeFrame_111 hl (Nat.le_of_ble_eq_true rfl) (fun ls hl => ?_)
            refine lv_iload hx hb dX1_takeFrame_113 (hl.at rfl) ?_
            refine lv_iconst (v := -1) hx hb dX1_takeFrame_115 (by decide) ?_
            refine lv_icmp_ne (tgt := 121) hx hb dX1_takeFrame_116 (by decide) (fun h116 => ?_) (fun h116 => ?_)
            · have hex := (c4 x (by omega)).resolve_left h116
              obtain ⟨sh, hsh, hxo2, e5, e8⟩ := hex
              rw [e5] at hl
              have again : ∀ (H : Heap) (locs : List Loc) (ls : Array Slot), lo ls [some (.ref (X.1 2 0)), some (.int kp), some (.int (nI t)), some (.int (nI x)), some (.int (nI sh))] → Wd sz0 D cs s X (tfZ Z r ((hd + (t + 1)) % o)) Y H locs → (t < o ∨ nI x = kp) → W p l e ({ frames := 2, cells := kc, slots := ks, locals := 48 } : Room) s m ([.ref (X.1 2 0), .int kp] : List Value).toArray below meth c H locs 0 0 (xQ below (CQ sz0 D cs (fun X' Z' Y' v k n => Y = Y' ∧ ∃ f, v = some (.int (nI f)) ∧ TF X Z o o g3 g4 kp X' Z' f k n)) ([.ref (X.1 2 0), .int kp] : List Value).toArray s (Asz sz0)) (F0 m 192 ls []) := by
                intro H locs ls hl hw hkx
                refine lv_aload_n hx hb dX1_takeFrame_192 rfl (hl.at rfl) ?_
                refine w_get C hw (c0 := 2) (i0 := 0) rfl inA1 7 (by decide) mw31 rfl dX1_takeFrame_193 (hX 2 (by decide)) rfl rfl rfl ?_
                refine lv_iload_n hx hb dX1_takeFrame_196 rfl (hl.at rfl) ?_
                refine lv_iconst (v := 0) hx hb dX1_takeFrame_197 (by decide) ?_
                refine w_zst C hw (c0 := 6) (i0 := 0) dX1_takeFrame_198 (hX 6 (by decide)) rfl (fun _ => rfl) (vp_in_nI (show x < 256 by omega) (by omega)) (nI_clamp (by omega)) (by decide) (fun H locs hw => ?_)
                rw [tfZ_rec] at hw
                refine w_iinc hx hb dX1_takeFrame_199 hl rfl rfl (fun ls hl => ?_)
                refine lv_goto (tgt := 63) hx hb dX1_takeFrame_202 (by decide) ?_
                refine ih (t + 1) (by omega) (upd r x 0) (fun u hu => ?_) (fun hto => ?_) H locs ls _ _ (by rw [← nI_1]; exact hl) hw
                · by_cases e : (hd + u) % o = x
                  · rw [e, upd_s]
                  · rw [upd_n e]
                    refine hr0 u ?_
                    rcases Nat.lt_or_ge u t with q | q
                    · exact q
                    · exact absurd (by rw [hxe, show u = t by omega]) e
                · rcases hkx with hk | hk
                  · omega
                  · rw [← hk, hxe, show t = o by omega]
              refine lv_iload_n hx hb dX1_takeFrame_121 rfl (hl.at rfl) ?_
              refine lv_iload_n hx hb dX1_takeFrame_122 rfl (hl.at rfl) ?_
              refine lv_icmp_eq (tgt := 192) hx hb dX1_takeFrame_123 (by decide) (fun h123 => ?_) (fun h123 => ?_)
              · exact again _ _ _ hl hw (Or.inr h123)
              · refine lv_aload_n hx hb dX1_takeFrame_126 rfl (hl.at rfl) ?_
                refine w_get C hw (c0 := 2) (i0 := 0) rfl inA1 7 (by decide) mw31 rfl dX1_takeFrame_127 (hX 2 (by decide)) rfl rfl rfl ?_
                refine lv_iload_n hx hb dX1_takeFrame_130 rfl (hl.at rfl) ?_
                refine w_zld C hw (c0 := 6) (i0 := 0) dX1_takeFrame_131 (hX 6 (by decide)) rfl rfl (vp_in_nI (show x < 256 by omega) (by omega)) (nI_clamp (by omega)) ?_
                rw [tfZ_6]
                refine lv_if_ne (tgt := 192) hx hb dX1_takeFrame_132 (by decide) (fun h132 => ?_) (fun h132 => ?_)
                · refine again _ _ _ hl hw (Or.inl ?_)
                  rcases Nat.lt_or_ge t o with q | q
                  · exact q
                  · exfalso
                    apply h132
                    have := hr0 (t - o) (by omega)
                    rw [← this]
                    congr 1
                    rw [hxe, show hd + t = hd + (t - o) + o by omega, Nat.add_mod_right]
                · refine lv_aload_n hx hb dX1_takeFrame_135 rfl (hl.at rfl) ?_
                  refine w_get C hw (c0 := 2) (i0 := 0) rfl inA1 10 (by decide) mw34 rfl dX1_takeFrame_136 (hX 2 (by decide)) rfl rfl rfl ?_
                  refine lv_iload hx hb dX1_takeFrame_139 (hl.at rfl) ?_
                  refine w_zld C hw (c0 := 9) (i0 := 0) dX1_takeFrame_141 (hX 9 (by decide)) rfl rfl (vp_in_nI hsh (by omega)) (nI_clamp (by omega)) ?_
                  rw [tfZ_o (c := 9) (by decide) (by decide)]
                  have hkp9 : ∀ s, s < 513 → Z 8 0 s = kp → s ≠ sh := fun s hs e q => h123 (by rw [← e8, ← q]; exact e)
                  have fin : ∀ (a : Nat → Int32) (H : Heap) (locs : List Loc) (ls : Array Slot), lo ls [some (.ref (X.1 2 0)), some (.int kp), some (.int (nI t)), some (.int (nI x)), some (.int (nI sh))] → (∀ j, j < 64 → a (64 * sh + j) = Z 3 0 (64 * x + j)) → (∀ j, ¬ (64 * sh ≤ j ∧ j < 64 * sh + 64) → a j = Z 4 0 j) → Wd sz0 D cs s X (upr (upr (tfZ Z r ((hd + (t + 1)) % o)) 4 0 a) 9 0 (upd (Z 9 0) sh 0)) Y H locs → W p l e ({ frames := 2, cells := kc, slots := ks, locals := 48 } : Room) s m ([.ref (X.1 2 0), .int kp] : List Value).toArray below meth c H locs 0 0 (xQ below (CQ sz0 D cs (fun X' Z' Y' v k n => Y = Y' ∧ ∃ f, v = some (.int (nI f)) ∧ TF X Z o o g3 g4 kp X' Z' f k n)) ([.ref (X.1 2 0), .int kp] : List Value).toArray s (Asz sz0)) (F0 m 175 ls []) := by
                    intro a H locs ls hl ha hb9 hw
                    refine lv_aload_n hx hb dX1_takeFrame_175 rfl (hl.at rfl) ?_
                    refine w_get C hw (c0 := 2) (i0 := 0) rfl inA1 9 (by decide) mw33 rfl dX1_takeFrame_176 (hX 2 (by decide)) rfl rfl rfl ?_
                    refine lv_iload hx hb dX1_takeFrame_179 (hl.at rfl) ?_
                    refine lv_iconst (v := -1) hx hb dX1_takeFrame_181 (by decide) ?_
                    refine w_ist C hw (c0 := 8) (i0 := 0) dX1_takeFrame_182 (hX 8 (by decide)) rfl (fun _ => rfl) (vp_in_nI hsh (by omega)) (nI_clamp (by omega)) (fun H locs hw => ?_)
                    refine lv_aload_n hx hb dX1_takeFrame_183 rfl (hl.at rfl) ?_
                    refine w_get C hw (c0 := 2) (i0 := 0) rfl inA1 6 (by decide) mw29 rfl dX1_takeFrame_184 (hX 2 (by decide)) rfl rfl rfl ?_
                    refine lv_iload_n hx hb dX1_takeFrame_187 rfl (hl.at rfl) ?_
                    refine lv_iconst (v := -1) hx hb dX1_takeFrame_188 (by decide) ?_
                    refine w_ist C hw (c0 := 5) (i0 := 0) dX1_takeFrame_189 (hX 5 (by decide)) rfl (fun _ => rfl) (vp_in_nI (show x < 256 by omega) (by omega)) (nI_clamp (by omega)) (fun H locs hw => ?_)
                    refine lv_iload_n hx hb dX1_takeFrame_190 rfl (hl.at rfl) ?_
                    have eZ : upr (upr (upr (upr (tfZ Z r ((hd + (t + 1)) % o)) 4 0 a) 9 0 (upd (Z 9 0) sh 0)) 8 0 (upd (upr (upr (tfZ Z r ((hd + (t + 1)) % o)) 4 0 a) 9 0 (upd (Z 9 0) sh 0) 8 0) sh (-1))) 5 0 (upd (upr (upr (upr (tfZ Z r ((hd + (t + 1)) % o)) 4 0 a) 9 0 (upd (Z 9 0) sh 0)) 8 0 (upd (upr (upr (tfZ Z r ((hd + (t + 1)) % o)) 4 0 a) 9 0 (upd (Z 9 0) sh 0) 8 0) sh (-1)) 5 0) x (-1)) = evZ (tfZ Z r ((hd + (t + 1)) % o)) x sh a := by
                      unfold evZ
                      rw [upr_k (show (5 : Nat) ≠ 8 by decide), upr_k (show (5 : Nat) ≠ 9 by decide), upr_k (show (5 : Nat) ≠ 4 by decide), upr_k (show (8 : Nat) ≠ 9 by decide), upr_k (show (8 : Nat) ≠ 4 by decide), tfZ_o (c := 9) (by decide) (by decide)]
                    rw [eZ] at hw
                    have hT := tfZ_HA (r := r) hH0 hxn2
                    obtain ⟨m1, m2⟩ := ev_main (a := a) hT hsh hxo (by rw [tfZ_o (c := 5) (by decide) (by decide)]; exact e5) (by rw [tfZ_o (c := 8) (by decide) (by decide)]; exact e8) (by rw [tfZ_o (c := 3) (by decide) (by decide)]; exact ha) (by rw [tfZ_o (c := 4) (by decide) (by decide)]; exact hb9)
                    refine w_iret C hw hr hlocks dX1_takeFrame_191 ⟨rfl, x, rfl, X.2.1, o, _, g3, rfl, rfl, rfl, h123, hxo, Nat.le_refl _, m1, by omega, by omega, by rw [evZ_5, upd_s], fun s hs e => ?_, fun s hs => ?_, fun s j hs hj => ?_, fun c i hc => ?_, fun j h1 h2 => ?_⟩
                    · have hne := hkp9 s hs e
                      rw [evZ_8, evZ_9, upd_n hne, upd_n hne, tfZ_o (c := 8) (by decide) (by decide), tfZ_o (c := 9) (by decide) (by decide)]
                      exact ⟨e, rfl⟩
                    · rw [evZ_8, tfZ_o (c := 8) (by decide) (by decide)]
                      by_cases e : s = sh
                      · subst e; exact Or.inl upd_s
                      · exact Or.inr (upd_n e)
                    · rw [m2 s j hs hj, tfZ_scn]
                    · by_cases hi : i = 0
                      · subst hi
                        have : ∀ k, (k = 2 ∨ k = 3 ∨ k = 4 ∨ k = 5 ∨ k = 6 ∨ k = 8 ∨ k = 9) → c ≠ k := fun k hk e => hc ⟨rfl, by rw [e]; exact hk⟩
                        rw [evZ_o (this 4 (by decide)) (this 5 (by decide)) (this 8 (by decide)) (this 9 (by decide)), tfZ_o (this 2 (by decide)) (this 6 (by decide))]
                      · unfold evZ tfZ
                        rw [upr_i hi, upr_i hi, upr_i hi, upr_i hi, upr_i hi, upr_i hi]
                    · rw [evZ_o (by decide) (by decide) (by decide) (by decide), tfZ_2, upd_n h2]
                  refine lv_if_eq (tgt := 175) hx hb dX1_takeFrame_142 (by decide) (fun h142 => ?_) (fun h142 => ?_)
                  · have hA : ∀ j, j < 64 → Z 4 0 (64 * sh + j) = Z 3 0 (64 * x + j) := fun j hj => (c6 sh x j hsh hxo hj e8 h142).symm
                    refine fin (Z 4 0) _ _ _ hl hA (fun _ _ => rfl) ?_
                    have e9 : upr (upr (tfZ Z r ((hd + (t + 1)) % o)) 4 0 (Z 4 0)) 9 0 (upd (Z 9 0) sh 0) = tfZ Z r ((hd + (t + 1)) % o) := by
                      have u1 : upd (Z 9 0) sh 0 = Z 9 0 := by
                        funext j
                        by_cases e : j = sh
                        · subst e; rw [upd_s]; exact h142.symm
                        · rw [upd_n e]
                      rw [u1]
                      have u2 : Z 4 0 = tfZ Z r ((hd + (t + 1)) % o) 4 0 := (tfZ_o (by decide) (by decide)).symm
                      rw [u2, upr_id]
                      have u3 : Z 9 0 = tfZ Z r ((hd + (t + 1)) % o) 9 0 := (tfZ_o (by decide) (by decide)).symm
                      rw [u3, upr_id]
                    rw [e9]
                    exact hw
                  · refine lv_aload_n hx hb dX1_takeFrame_145 rfl (hl.at rfl) ?_
                    refine w_get C hw (c0 := 2) (i0 := 0) rfl inA1 4 (by decide) mw27 rfl dX1_takeFrame_146 (hX 2 (by decide)) rfl rfl rfl ?_
                    refine lv_iload_n hx hb dX1_takeFrame_149 rfl (hl.at rfl) ?_
                    refine lv_bipush (v := 64) hx hb dX1_takeFrame_150 (by decide) ?_
                    refine lv_imul hx hb dX1_takeFrame_152 ?_
                    refine lv_aload_n hx hb dX1_takeFrame_153 rfl (hl.at rfl) ?_
                    refine w_get C hw (c0 := 2) (i0 := 0) rfl inA1 5 (by decide) mw28 rfl dX1_takeFrame_154 (hX 2 (by decide)) rfl rfl rfl ?_
                    refine lv_iload hx hb dX1_takeFrame_157 (hl.at rfl) ?_
                    refine lv_bipush (v := 64) hx hb dX1_takeFrame_159 (by decide) ?_
                    refine lv_imul hx hb dX1_takeFrame_161 ?_
                    refine lv_bipush (v := 64) hx hb dX1_takeFrame_162 (by decide) ?_
                    have hle4 : 64 * (sh + 1) ≤ X.2.1 4 := by
                      rcases c3 sh hsh with q | ⟨_, _, _, _, q⟩
                      · rw [q] at e8; exact absurd e8.symm (nI_ne_m1 (by omega))
                      · exact q
                    have ex : nI x * 64 = nI (64 * x) := by rw [show nI x * 64 = nI x * nI 64 from rfl, pk_mul, Nat.mul_comm]
                    have es : nI sh * 64 = nI (64 * sh) := by rw [show nI sh * 64 = nI sh * nI 64 from rfl, pk_mul, Nat.mul_comm]
                    rw [ex, es]
                    refine w_cpy C hw (c0 := 3) (i0 := 0) (c1 := 4) (i1 := 0) mw195 dX1_takeFrame_164 (hX 3 (by decide)) rfl rfl (hX 4 (by decide)) rfl (fun _ => rfl) (nI_pos (by omega)) (nI_pos (by omega)) (by decide) (nI_clamp (by omega)) (nI_clamp (by omega)) (jn := 64) (by decide) (by omega) (by omega) hl.1.1 (Nat.le_of_ble_eq_true rfl) (Nat.le_of_ble_eq_true rfl) (fun H locs hw => ?_)
                    refine lv_aload_n hx hb dX1_takeFrame_167 rfl (hl.at rfl) ?_
                    refine w_get C hw (c0 := 2) (i0 := 0) rfl inA1 10 (by decide) mw34 rfl dX1_takeFrame_168 (hX 2 (by decide)) rfl rfl rfl ?_
                    refine lv_iload hx hb dX1_takeFrame_171 (hl.at rfl) ?_
                    refine lv_iconst (v := 0) hx hb dX1_takeFrame_173 (by decide) ?_
                    refine w_zst C hw (c0 := 9) (i0 := 0) dX1_takeFrame_174 (hX 9 (by decide)) rfl (fun _ => rfl) (vp_in_nI hsh (by omega)) (nI_clamp (by omega)) (by decide) (fun H locs hw => ?_)
                    rw [upr_k (show (9 : Nat) ≠ 4 by decide), tfZ_o (c := 9) (by decide) (by decide), tfZ_o (c := 3) (by decide) (by decide), tfZ_o (c := 4) (by decide) (by decide)] at hw
                    refine fin _ _ _ _ hl (fun j hj => ?_) (fun j hj => ?_) hw
                    · rw [pk_cpy_in (by omega) (by omega)]
                      congr 1
                      omega
                    · exact pk_cpy_out (by omega)
            · refine lv_iload_n hx hb dX1_takeFrame_119 rfl (hl.at rfl) ?_
              have hT := tfZ_HA (r := r) hH0 hxn2
              refine w_iret C hw hr hlocks dX1_takeFrame_120 ⟨rfl, x, rfl, X.2.1, o, _, g3, rfl, rfl, rfl, ?_, hxo, Nat.le_refl _, hT, by omega, by omega, by rw [tfZ_o (c := 5) (by decide) (by decide)]; exact h116, fun s hs e => ?_, fun s hs => ?_, fun s j hs hj => tfZ_scn, fun c i hc => ?_, fun j h1 h2 => ?_⟩
              · rcases hkp with rfl | ⟨kf, q1, rfl, q2⟩
                · exact nI_ne_m1 (by omega)
                · intro e
                  have := nI_inj (by omega) (by omega) e
                  subst this
                  exact q2 h116
              · rw [tfZ_o (c := 8) (by decide) (by decide), tfZ_o (c := 9) (by decide) (by decide)]
                exact ⟨e, rfl⟩
              · rw [tfZ_o (c := 8) (by decide) (by decide)]
                exact Or.inr rfl
              · by_cases hi : i = 0
                · subst hi
                  have : ∀ k, (k = 2 ∨ k = 3 ∨ k = 4 ∨ k = 5 ∨ k = 6 ∨ k = 8 ∨ k = 9) → c ≠ k := fun k hk e => hc ⟨rfl, by rw [e]; exact hk⟩
                  rw [tfZ_o (this 2 (by decide)) (this 6 (by decide))]
                · unfold tfZ
                  rw [upr_i hi, upr_i hi]
              · rw [tfZ_2, upd_n h2]
          refine lv_icmp_ge (tgt := 101) hx hb dX1_takeFrame_89 (by decide) (fun h89 => ?_) (fun h89 => ?_)
          · refine lv_iconst (v := 0) hx hb dX1_takeFrame_101 (by decide) ?_
            have e1 : (0 : Int32) = nI ((hd + (t + 1)) % o) := by
              rw [nI_1] at h89
              rw [hxn, if_neg (fun q => nI_ge q hh31 h89)]; rfl
            rw [e1]
            exact join _ _ _ hl hw
          · refine lv_aload_n hx hb dX1_takeFrame_92 rfl (hl.at rfl) ?_
            refine w_get C hw (c0 := 2) (i0 := 0) rfl inA1 2 (by decide) mw56 rfl dX1_takeFrame_93 (hX 2 (by decide)) rfl rfl rfl ?_
            refine lv_topi (fun y ey => ?_)
            obtain rfl : y = nI x := ey.trans (by rw [tfZ_2, upd_s])
            refine lv_iconst (v := 1) hx hb dX1_takeFrame_96 (by decide) ?_
            refine lv_iadd hx hb dX1_takeFrame_97 ?_
            refine lv_goto (tgt := 102) hx hb dX1_takeFrame_98 (by decide) ?_
            have e1 : nI x + 1 = nI ((hd + (t + 1)) % o) := by
              rw [nI_1] at h89 ⊢
              rw [hxn, if_pos]
              rcases Nat.lt_or_ge (x + 1) o with q | q
              · exact q
              · exact absurd (nI_le q (by omega)) h89
            rw [e1]
            exact join _ _ _ hl hw
    have e0 : Wd sz0 D cs s X (tfZ Z (Z 6 0) ((hd + 0) % o)) Y s.heap [] := by
      have e1 : tfZ Z (Z 6 0) ((hd + 0) % o) = Z := by
        unfold tfZ
        rw [upr_id, Nat.add_zero, Nat.mod_eq_of_lt a4]
        have e2 : upd (Z 2 0) 2 (nI hd) = Z 2 0 := by
          funext j
          by_cases e : j = 2
          · subst e; rw [upd_s]; exact b3.symm
          · rw [upd_n e]
        rw [e2, upr_id]
      rw [e1]
      exact hw
    exact loop (o + 1) 0 (by omega) (Z 6 0) (fun u hu => absurd hu (Nat.not_lt_zero u)) (fun q => by omega) _ _ _ _ _ hl e0
  · have hoh : o < h := by
      rcases Nat.lt_or_ge o h with q | q
      · exact q
      · exact absurd (nI_le q (by omega)) h8
    refine lv_aload_n hx hb dX1_takeFrame_11 rfl (hl.at rfl) ?_
    refine lv_dup hx hb dX1_takeFrame_12 rfl ?_
    refine w_get C hw (c0 := 2) (i0 := 0) rfl inA1 1 (by decide) mw55 rfl dX1_takeFrame_13 (hX 2 (by decide)) rfl rfl rfl ?_
    refine lv_topi (fun y ey => ?_)
    obtain rfl : y = nI o := ey.trans b2
    refine lv_iconst (v := 1) hx hb dX1_takeFrame_16 (by decide) ?_
    refine lv_iadd hx hb dX1_takeFrame_17 ?_
    refine lv_topi (fun y ey => ?_)
    obtain rfl : y = nI (o + 1) := ey.trans (nI_1 o)
    refine w_put C hw (c0 := 2) (i0 := 0) rfl inA1 tyX1_ok nmX1 1 (by decide) mw55 rfl rfl rfl dX1_takeFrame_18 (hX 2 (by decide)) rfl rfl rfl rfl (Nat.le_of_ble_eq_true rfl) rfl (fun H locs hw => ?_)
    refine lv_aload_n hx hb dX1_takeFrame_21 rfl (hl.at rfl) ?_
    refine w_get C hw (c0 := 2) (i0 := 0) rfl inA1 4 (by decide) mw27 rfl dX1_takeFrame_22 (hX 2 (by decide)) rfl rfl rfl ?_
    refine w_len C hw (c0 := 3) (i0 := 0) (ty := 0) dX1_takeFrame_25 (hX 3 (by decide)) rfl rfl rfl rfl rfl ?_
    refine lv_aload_n hx hb dX1_takeFrame_26 rfl (hl.at rfl) ?_
    refine w_get C hw (c0 := 2) (i0 := 0) rfl inA1 1 (by decide) mw55 rfl dX1_takeFrame_27 (hX 2 (by decide)) rfl rfl rfl ?_
    refine lv_topi (fun y ey => ?_)
    obtain rfl : y = nI (o + 1) := ey.trans (by rw [upr_s, upd_s])
    refine lv_bipush (v := 64) hx hb dX1_takeFrame_30 (by decide) ?_
    refine lv_imul hx hb dX1_takeFrame_32 ?_
    have em : nI (o + 1) * 64 = nI (64 * (o + 1)) := by rw [show nI (o + 1) * 64 = nI (o + 1) * nI 64 from rfl, pk_mul, Nat.mul_comm]
    rw [em]
    have hkpo : nI o ≠ kp := by
      rcases hkp with rfl | ⟨kf, q1, rfl, -⟩
      · exact nI_ne_m1 ho31
      · intro e; have := nI_inj ho31 (by omega) e; omega
    refine lv_icmp_ge (tgt := 54) hx hb dX1_takeFrame_33 (by decide) (fun h33 => ?_) (fun h33 => ?_)
    · refine lv_aload_n hx hb dX1_takeFrame_54 rfl (hl.at rfl) ?_
      refine w_get C hw (c0 := 2) (i0 := 0) rfl inA1 1 (by decide) mw55 rfl dX1_takeFrame_55 (hX 2 (by decide)) rfl rfl rfl ?_
      refine lv_topi (fun y ey => ?_)
      obtain rfl : y = nI (o + 1) := ey.trans (by rw [upr_s, upd_s])
      refine lv_iconst (v := 1) hx hb dX1_takeFrame_58 (by decide) ?_
      refine lv_isub hx hb dX1_takeFrame_59 ?_
      refine lv_topi (fun y ey => ?_)
      obtain rfl : y = nI o := ey.trans (nI_pred o)
      have hle := (nI_leI (show 64 * (o + 1) < 2 ^ 31 by omega) (show X.2.1 3 < 2 ^ 31 by omega)).mp h33
      obtain ⟨m1, m2, m3⟩ := op_main (X' := X) (Z' := upr Z 2 0 (upd (Z 2 0) 1 (nI (o + 1)))) (g3' := g3) hH0 hoh rfl ⟨hle, c12, c13, c14⟩ (by rw [upr_s]) (fun j _ => by rw [upr_k (by decide)]) (fun c h2 h3 => by rw [upr_k h2])
      refine w_iret C hw hr hlocks dX1_takeFrame_60 ⟨rfl, o, rfl, X.2.1, o + 1, hd, g3, rfl, rfl, rfl, hkpo, by omega, by omega, m1, by omega, by omega, m3, fun s hs e => ?_, fun s hs => ?_, m2, fun c i hc => ?_, fun j h1 h2 => ?_⟩
      · rw [upr_k (by decide), upr_k (by decide)]; exact ⟨e, rfl⟩
      · rw [upr_k (by decide)]; exact Or.inr rfl
      · exact upr_n (fun q => hc ⟨q.2, Or.inl q.1⟩)
      · rw [upr_s, upd_n h1]
    · refine lv_aload_n hx hb dX1_takeFrame_36 rfl (hl.at rfl) ?_
      refine lv_aload_n hx hb dX1_takeFrame_37 rfl (hl.at rfl) ?_
      refine w_get C hw (c0 := 2) (i0 := 0) rfl inA1 4 (by decide) mw27 rfl dX1_takeFrame_38 (hX 2 (by decide)) rfl rfl rfl ?_
      refine lv_iconst (v := 2) hx hb dX1_takeFrame_41 (by decide) ?_
      refine lv_aload_n hx hb dX1_takeFrame_42 rfl (hl.at rfl) ?_
      refine w_get C hw (c0 := 2) (i0 := 0) rfl inA1 4 (by decide) mw27 rfl dX1_takeFrame_43 (hX 2 (by decide)) rfl rfl rfl ?_
      have hlt : X.2.1 3 < 64 * (o + 1) := by
        rcases Nat.lt_or_ge (X.2.1 3) (64 * (o + 1)) with q | q
        · exact q
        · exact absurd (nI_le q (by omega)) h33
      have hg3 : 1 ≤ g3 := by
        rcases g3 with _ | g
        · simp at c14; omega
        · omega
      refine w_len C hw (c0 := 3) (i0 := 0) (ty := 0) dX1_takeFrame_46 (hX 3 (by decide)) rfl rfl rfl rfl rfl ?_
      refine lv_imul hx hb dX1_takeFrame_47 ?_
      refine lv_topi (fun y ey => ?_)
      obtain rfl : y = nI (2 * X.2.1 3) := ey.trans (pk_mul 2 (X.2.1 3))
      refine w_callS C hN hw (c_copyOf l sz0 D cs X _ Y 3 0 (X.2.1 3) (2 * X.2.1 3) kc ks (hX 3 (by decide)) (fun _ => rfl) (by omega) (by omega) (by omega) (by omega)) ⟨(Nat.le_of_ble_eq_true rfl), (Nat.le_of_ble_eq_true rfl), mw209, mw60, cy_J7_copyOf_59c91⟩ mw207 mw208 rfl hl.1.1 rfl (Nat.le_of_ble_eq_true rfl) dX1_takeFrame_48 ⟨by show 0 + kc ≤ kc; omega, by show 0 + ks ≤ ks; omega⟩ (fun X' Z' Y' v k n H locs hp hw => ?_)
      obtain ⟨rfl, rfl, rfl, rfl, q, rfl, rfl⟩ := hp
      refine w_putM C hw (c0 := 3) (k0 := 4) (Or.inl rfl) rfl mw27 dX1_takeFrame_51 (hX 2 (by decide)) (fun i hi => hU 3 i (by decide) hi) (fun i hi => hU 2 i (by decide) hi) (fun H locs hw => ?_)
      refine lv_aload_n hx hb dX1_takeFrame_54 rfl (hl.at rfl) ?_
      refine w_get C hw (c0 := 2) (i0 := 0) rfl inA1 1 (by decide) mw55 rfl dX1_takeFrame_55 (hX 2 (by decide)) rfl rfl rfl ?_
      refine lv_topi (fun y ey => ?_)
      obtain rfl : y = nI (o + 1) := ey.trans (by rw [upr_k (by decide), upr_s, upd_s])
      refine lv_iconst (v := 1) hx hb dX1_takeFrame_58 (by decide) ?_
      refine lv_isub hx hb dX1_takeFrame_59 ?_
      refine lv_topi (fun y ey => ?_)
      obtain rfl : y = nI o := ey.trans (nI_pred o)
      obtain ⟨m1, m2, m3⟩ := op_main (X' := shM X 3 q (2 * X.2.1 3)) (Z' := upr (upr Z 2 0 (upd (Z 2 0) 1 (nI (o + 1)))) 3 0 (fun j => if j < X.2.1 3 then (upr Z 2 0 (upd (Z 2 0) 1 (nI (o + 1)))) 3 0 j else 0)) (g3' := g3 - 1) hH0 hoh (by simp [va_up]) (by
          have e1 : (shM X 3 q (2 * X.2.1 3)).2.1 3 = 2 * X.2.1 3 := by simp [va_up]
          rw [e1]
          refine ⟨by omega, by omega, by omega, ?_⟩
          obtain ⟨g, rfl⟩ : ∃ g, g3 = g + 1 := ⟨g3 - 1, by omega⟩
          rw [Nat.add_sub_cancel]
          rw [Nat.pow_succ] at c14
          rw [Nat.mul_comm 2, Nat.mul_assoc, Nat.mul_comm 2]
          exact c14) (by rw [upr_k (by decide), upr_s]) (fun j hj => by rw [upr_s, if_pos (by omega), upr_k (by decide)]) (fun c h2 h3 => by rw [upr_k h3, upr_k h2])
      refine w_iret C hw hr hlocks dX1_takeFrame_60 ⟨rfl, o, rfl, _, o + 1, hd, g3 - 1, rfl, by simp [va_up], by simp [va_up], hkpo, by omega, by omega, m1, by show 0 + 1 + (g3 - 1) ≤ g3; omega, by show 0 + 2 * X.2.1 3 ≤ 32768 * (0 + 1); omega, m3, fun s hs e => ?_, fun s hs => ?_, m2, fun c i hc => ?_, fun j h1 h2 => ?_⟩
      · rw [upr_k (by decide), upr_k (by decide), upr_k (by decide), upr_k (by decide)]; exact ⟨e, rfl⟩
      · rw [upr_k (by decide), upr_k (by decide)]; exact Or.inr rfl
      · rw [upr_n (fun q => hc ⟨q.2, Or.inr (Or.inl q.1)⟩), upr_n (fun q => hc ⟨q.2, Or.inl q.1⟩)]
      · rw [upr_k (by decide), upr_s, upd_n h1]
