/-! ===== the law: its nineteen calls ===== -/

set_option maxHeartbeats 4000000 in
set_option maxRecDepth 100000 in
theorem law_c0 {p : Program} {l : Launch} {e : Env} {s : State} {m : MethodId} {below : List Frame} {meth : Method} {c : Code} {H : Heap} {locs : List Loc} {cells slots : Nat} {ls : Array Slot} {D : va_G} {cs : Nat → ClassId} {X : Sh} {Z : ZT} {S : HS} {h gp b a am L : Nat} {xs : Nat → Int32} {iv : Int32} {Q : State → Prop}
    (C : CallFix p m c cL_law 4 s #[Value.ref b] wsA RL) (hN : NW s) (hXs : va_X b L xs s s.heap) (hbl : b < s.heap.size) (hw : Wd s.heap.size D cs s X Z [] H locs) (hl : lo ls [some (.ref b), some (.ref a), some (.ref am), some (.int iv)]) (hV : LV a am X Z S h gp cells slots) (i1 : vp_in (iv + 1) L) (i2 : vp_in (iv + 2) L) (i3 : vp_in (iv + 3) L)
    (kk : ∀ (X1 : Sh) (Z1 : ZT) (S1 : HS) (h1 gp1 cells1 slots1 : Nat) (H1 : Heap) (locs1 : List Loc), Wd s.heap.size D cs s X1 Z1 [] H1 locs1 → LV a am X1 Z1 S1 h1 gp1 cells1 slots1 → W p l e room_1 s m #[Value.ref b] below meth c H1 locs1 cells1 slots1 Q (F0 m 681 ls [])) : W p l e room_1 s m #[Value.ref b] below meth c H locs cells slots Q (F0 m 124 ls []) := by
  obtain ⟨hx, hb, hml, hown, hts⟩ := id C
  have hbA : ¬ Asz s.heap.size b := Nat.not_le.mpr hbl
  obtain ⟨e0, e30, hS, hCX, hCR, hMX, hMR, hq, hz⟩ := hV
  subst e0
  have hX := hCX.1
  refine lv_aload_n hx hb dL_law_124 rfl (hl.at rfl) ?_
  refine lv_aload_n hx hb dL_law_125 rfl (hl.at rfl) ?_
  refine lv_iload_n hx hb dL_law_126 rfl (hl.at rfl) ?_
  refine lv_iconst (v := 1) hx hb dL_law_127 (by decide) ?_
  refine lv_iadd hx hb dL_law_128 ?_
  refine va_sld hx hb hXs hbl hbA hw.2.2.2.1 i1 dL_law_129 ?_
  refine lv_aload_n hx hb dL_law_130 rfl (hl.at rfl) ?_
  refine lv_iload_n hx hb dL_law_131 rfl (hl.at rfl) ?_
  refine lv_iconst (v := 2) hx hb dL_law_132 (by decide) ?_
  refine lv_iadd hx hb dL_law_133 ?_
  refine va_sld hx hb hXs hbl hbA hw.2.2.2.1 i2 dL_law_134 ?_
  refine w_callV C hN hw (c_X3_install l s.heap.size D cs X Z [] S hS hCX h gp hCR (xs (iv + 1).toNatClampNeg) (xs (iv + 2).toNatClampNeg)) ⟨(Nat.le_of_ble_eq_true rfl), (Nat.le_of_ble_eq_true rfl), mw86, mw3, cy_X3_install⟩ mw83 mw84 mw85 (w_rec hw (c0 := 0) (i0 := 0) (hX 0 (by decide)) rfl rfl) rfl hl.1.1 rfl (Nat.le_of_ble_eq_true rfl) dL_law_135 ⟨by show cells + 0 ≤ 600000; omega, by show slots + 0 ≤ 7302250; omega⟩ (fun X1 Z1 Y1 v1 k1 n1 H locs hp hw => ?_)
  obtain ⟨rfl, rfl, h1, gp1, hCX1, hCR1, hq1, hz1, hKX, h30⟩ := hp
  have e30 : X1.1 30 0 = am := (hKX.1 30 0 (Or.inr (by decide))).trans e30
  subst e30
  have hMX := hKX.mr hMX
  have hM := hMX.1
  have hMR := MR_rows hMR h30
  refine lv_aload_n hx hb dL_law_138 rfl (hl.at rfl) ?_
  refine lv_aload_n hx hb dL_law_139 rfl (hl.at rfl) ?_
  refine lv_iload_n hx hb dL_law_140 rfl (hl.at rfl) ?_
  refine lv_iconst (v := 1) hx hb dL_law_141 (by decide) ?_
  refine lv_iadd hx hb dL_law_142 ?_
  refine va_sld hx hb hXs hbl hbA hw.2.2.2.1 i1 dL_law_143 ?_
  refine lv_aload_n hx hb dL_law_144 rfl (hl.at rfl) ?_
  refine lv_iload_n hx hb dL_law_145 rfl (hl.at rfl) ?_
  refine lv_iconst (v := 2) hx hb dL_law_146 (by decide) ?_
  refine lv_iadd hx hb dL_law_147 ?_
  refine va_sld hx hb hXs hbl hbA hw.2.2.2.1 i2 dL_law_148 ?_
  refine w_callV C hN hw (c_X5_install l s.heap.size D cs X1 Z1 [] S hS hMX hMR (xs (iv + 1).toNatClampNeg) (xs (iv + 2).toNatClampNeg)) ⟨(Nat.le_of_ble_eq_true rfl), (Nat.le_of_ble_eq_true rfl), mw90, mw6, cy_X5_install⟩ mw87 mw88 mw89 (w_rec hw (c0 := 30) (i0 := 0) (hM 30 (by decide) (by decide)) rfl rfl) rfl hl.1.1 rfl (Nat.le_of_ble_eq_true rfl) dL_law_149 ⟨by show cells + k1 + 0 ≤ 600000; omega, by show slots + n1 + 0 ≤ 7302250; omega⟩ (fun X2 Z2 Y2 v2 k2 n2 H locs hp hw => ?_)
  obtain ⟨rfl, rfl, rfl, rfl, rfl, hMR1, hFM⟩ := hp
  refine lv_icmp_eq (tgt := 681) hx hb dL_law_152 (by decide) (fun _ => ?_) (fun q => absurd rfl q)
  exact kk _ _ _ _ _ _ _ _ _ hw ⟨hKX.1 0 0 (Or.inl (by decide)), rfl, HOK_ins hS, hCX1, CR_rows hCR1 hFM, hMX, hMR1, by omega, by omega⟩

set_option maxHeartbeats 4000000 in
set_option maxRecDepth 100000 in
theorem law_c1 {p : Program} {l : Launch} {e : Env} {s : State} {m : MethodId} {below : List Frame} {meth : Method} {c : Code} {H : Heap} {locs : List Loc} {cells slots : Nat} {ls : Array Slot} {D : va_G} {cs : Nat → ClassId} {X : Sh} {Z : ZT} {S : HS} {h gp b a am L : Nat} {xs : Nat → Int32} {iv : Int32} {Q : State → Prop}
    (C : CallFix p m c cL_law 4 s #[Value.ref b] wsA RL) (hN : NW s) (hXs : va_X b L xs s s.heap) (hbl : b < s.heap.size) (hw : Wd s.heap.size D cs s X Z [] H locs) (hl : lo ls [some (.ref b), some (.ref a), some (.ref am), some (.int iv)]) (hV : LV a am X Z S h gp cells slots) (i1 : vp_in (iv + 1) L) (i2 : vp_in (iv + 2) L) (i3 : vp_in (iv + 3) L)
    (kk : ∀ (X1 : Sh) (Z1 : ZT) (S1 : HS) (h1 gp1 cells1 slots1 : Nat) (H1 : Heap) (locs1 : List Loc), Wd s.heap.size D cs s X1 Z1 [] H1 locs1 → LV a am X1 Z1 S1 h1 gp1 cells1 slots1 → W p l e room_1 s m #[Value.ref b] below meth c H1 locs1 cells1 slots1 Q (F0 m 681 ls [])) : W p l e room_1 s m #[Value.ref b] below meth c H locs cells slots Q (F0 m 157 ls []) := by
  obtain ⟨hx, hb, hml, hown, hts⟩ := id C
  have hbA : ¬ Asz s.heap.size b := Nat.not_le.mpr hbl
  obtain ⟨e0, e30, hS, hCX, hCR, hMX, hMR, hq, hz⟩ := hV
  subst e0
  have hX := hCX.1
  refine lv_aload_n hx hb dL_law_157 rfl (hl.at rfl) ?_
  refine lv_aload_n hx hb dL_law_158 rfl (hl.at rfl) ?_
  refine lv_iload_n hx hb dL_law_159 rfl (hl.at rfl) ?_
  refine lv_iconst (v := 1) hx hb dL_law_160 (by decide) ?_
  refine lv_iadd hx hb dL_law_161 ?_
  refine va_sld hx hb hXs hbl hbA hw.2.2.2.1 i1 dL_law_162 ?_
  refine w_callV C hN hw (c_X3_guest l s.heap.size D cs X Z [] S hS hCX h gp hCR _ _ (Nat.le_refl _) (Nat.le_refl _) (xs (iv + 1).toNatClampNeg)) ⟨(Nat.le_of_ble_eq_true rfl), (Nat.le_of_ble_eq_true rfl), mw97, mw3, cy_X3_guest⟩ mw94 mw95 mw96 (w_rec hw (c0 := 0) (i0 := 0) (hX 0 (by decide)) rfl rfl) rfl hl.1.1 rfl (Nat.le_of_ble_eq_true rfl) dL_law_163 ⟨by show cells + 8 * unm X ≤ 600000; omega, by show slots + 32832 * (8 * unm X) ≤ 7302250; omega⟩ (fun X1 Z1 Y1 v1 k1 n1 H locs hp hw => ?_)
  obtain ⟨rfl, rfl, h1, gp1, hCX1, hCR1, hq1, hz1, hKX, h30⟩ := hp
  have e30 : X1.1 30 0 = am := (hKX.1 30 0 (Or.inr (by decide))).trans e30
  subst e30
  have hMX := hKX.mr hMX
  have hM := hMX.1
  have hMR := MR_rows hMR h30
  refine lv_aload_n hx hb dL_law_166 rfl (hl.at rfl) ?_
  refine lv_aload_n hx hb dL_law_167 rfl (hl.at rfl) ?_
  refine lv_iload_n hx hb dL_law_168 rfl (hl.at rfl) ?_
  refine lv_iconst (v := 1) hx hb dL_law_169 (by decide) ?_
  refine lv_iadd hx hb dL_law_170 ?_
  refine va_sld hx hb hXs hbl hbA hw.2.2.2.1 i1 dL_law_171 ?_
  refine w_callV C hN hw (c_X5_guest l s.heap.size D cs X1 Z1 [] S hS hMX hMR (xs (iv + 1).toNatClampNeg)) ⟨(Nat.le_of_ble_eq_true rfl), (Nat.le_of_ble_eq_true rfl), mw152, mw6, cy_X5_guest⟩ mw149 mw150 mw151 (w_rec hw (c0 := 30) (i0 := 0) (hM 30 (by decide) (by decide)) rfl rfl) rfl hl.1.1 rfl (Nat.le_of_ble_eq_true rfl) dL_law_172 ⟨by show cells + k1 + 0 ≤ 600000; omega, by show slots + n1 + 0 ≤ 7302250; omega⟩ (fun X2 Z2 Y2 v2 k2 n2 H locs hp hw => ?_)
  obtain ⟨rfl, rfl, rfl, rfl, rfl, hMR1, hFM⟩ := hp
  refine lv_icmp_eq (tgt := 681) hx hb dL_law_175 (by decide) (fun _ => ?_) (fun q => absurd rfl q)
  exact kk _ _ _ _ _ _ _ _ _ hw ⟨hKX.1 0 0 (Or.inl (by decide)), rfl, HOK_gst hS, hCX1, CR_rows hCR1 hFM, hMX, hMR1, by omega, by omega⟩

set_option maxHeartbeats 4000000 in
set_option maxRecDepth 100000 in
theorem law_c2 {p : Program} {l : Launch} {e : Env} {s : State} {m : MethodId} {below : List Frame} {meth : Method} {c : Code} {H : Heap} {locs : List Loc} {cells slots : Nat} {ls : Array Slot} {D : va_G} {cs : Nat → ClassId} {X : Sh} {Z : ZT} {S : HS} {h gp b a am L : Nat} {xs : Nat → Int32} {iv : Int32} {Q : State → Prop}
    (C : CallFix p m c cL_law 4 s #[Value.ref b] wsA RL) (hN : NW s) (hXs : va_X b L xs s s.heap) (hbl : b < s.heap.size) (hw : Wd s.heap.size D cs s X Z [] H locs) (hl : lo ls [some (.ref b), some (.ref a), some (.ref am), some (.int iv)]) (hV : LV a am X Z S h gp cells slots) (i1 : vp_in (iv + 1) L) (i2 : vp_in (iv + 2) L) (i3 : vp_in (iv + 3) L)
    (kk : ∀ (X1 : Sh) (Z1 : ZT) (S1 : HS) (h1 gp1 cells1 slots1 : Nat) (H1 : Heap) (locs1 : List Loc), Wd s.heap.size D cs s X1 Z1 [] H1 locs1 → LV a am X1 Z1 S1 h1 gp1 cells1 slots1 → W p l e room_1 s m #[Value.ref b] below meth c H1 locs1 cells1 slots1 Q (F0 m 681 ls [])) : W p l e room_1 s m #[Value.ref b] below meth c H locs cells slots Q (F0 m 180 ls []) := by
  obtain ⟨hx, hb, hml, hown, hts⟩ := id C
  have hbA : ¬ Asz s.heap.size b := Nat.not_le.mpr hbl
  obtain ⟨e0, e30, hS, hCX, hCR, hMX, hMR, hq, hz⟩ := hV
  subst e0
  have hX := hCX.1
  refine lv_aload_n hx hb dL_law_180 rfl (hl.at rfl) ?_
  refine lv_aload_n hx hb dL_law_181 rfl (hl.at rfl) ?_
  refine lv_iload_n hx hb dL_law_182 rfl (hl.at rfl) ?_
  refine lv_iconst (v := 1) hx hb dL_law_183 (by decide) ?_
  refine lv_iadd hx hb dL_law_184 ?_
  refine va_sld hx hb hXs hbl hbA hw.2.2.2.1 i1 dL_law_185 ?_
  refine lv_aload_n hx hb dL_law_186 rfl (hl.at rfl) ?_
  refine lv_iload_n hx hb dL_law_187 rfl (hl.at rfl) ?_
  refine lv_iconst (v := 2) hx hb dL_law_188 (by decide) ?_
  refine lv_iadd hx hb dL_law_189 ?_
  refine va_sld hx hb hXs hbl hbA hw.2.2.2.1 i2 dL_law_190 ?_
  refine lv_aload_n hx hb dL_law_191 rfl (hl.at rfl) ?_
  refine lv_iload_n hx hb dL_law_192 rfl (hl.at rfl) ?_
  refine lv_iconst (v := 3) hx hb dL_law_193 (by decide) ?_
  refine lv_iadd hx hb dL_law_194 ?_
  refine va_sld hx hb hXs hbl hbA hw.2.2.2.1 i3 dL_law_195 ?_
  refine w_callV C hN hw (c_X3_poke l s.heap.size D cs X Z [] S hS hCX h gp hCR _ _ (Nat.le_refl _) (Nat.le_refl _) (xs (iv + 1).toNatClampNeg) (xs (iv + 2).toNatClampNeg) (xs (iv + 3).toNatClampNeg)) ⟨(Nat.le_of_ble_eq_true rfl), (Nat.le_of_ble_eq_true rfl), mw181, mw3, cy_X3_poke⟩ mw178 mw179 mw180 (w_rec hw (c0 := 0) (i0 := 0) (hX 0 (by decide)) rfl rfl) rfl hl.1.1 rfl (Nat.le_of_ble_eq_true rfl) dL_law_196 ⟨by show cells + gp ≤ 600000; omega, by show slots + 32832 * gp ≤ 7302250; omega⟩ (fun X1 Z1 Y1 v1 k1 n1 H locs hp hw => ?_)
  obtain ⟨rfl, rfl, h1, gp1, hCX1, hCR1, hq1, hz1, hKX, h30⟩ := hp
  have e30 : X1.1 30 0 = am := (hKX.1 30 0 (Or.inr (by decide))).trans e30
  subst e30
  have hMX := hKX.mr hMX
  have hM := hMX.1
  have hMR := MR_rows hMR h30
  refine lv_aload_n hx hb dL_law_199 rfl (hl.at rfl) ?_
  refine lv_aload_n hx hb dL_law_200 rfl (hl.at rfl) ?_
  refine lv_iload_n hx hb dL_law_201 rfl (hl.at rfl) ?_
  refine lv_iconst (v := 1) hx hb dL_law_202 (by decide) ?_
  refine lv_iadd hx hb dL_law_203 ?_
  refine va_sld hx hb hXs hbl hbA hw.2.2.2.1 i1 dL_law_204 ?_
  refine lv_aload_n hx hb dL_law_205 rfl (hl.at rfl) ?_
  refine lv_iload_n hx hb dL_law_206 rfl (hl.at rfl) ?_
  refine lv_iconst (v := 2) hx hb dL_law_207 (by decide) ?_
  refine lv_iadd hx hb dL_law_208 ?_
  refine va_sld hx hb hXs hbl hbA hw.2.2.2.1 i2 dL_law_209 ?_
  refine lv_aload_n hx hb dL_law_210 rfl (hl.at rfl) ?_
  refine lv_iload_n hx hb dL_law_211 rfl (hl.at rfl) ?_
  refine lv_iconst (v := 3) hx hb dL_law_212 (by decide) ?_
  refine lv_iadd hx hb dL_law_213 ?_
  refine va_sld hx hb hXs hbl hbA hw.2.2.2.1 i3 dL_law_214 ?_
  refine w_callV C hN hw (c_X5_poke l s.heap.size D cs X1 Z1 [] S hS hMX hMR (xs (iv + 1).toNatClampNeg) (xs (iv + 2).toNatClampNeg) (xs (iv + 3).toNatClampNeg)) ⟨(Nat.le_of_ble_eq_true rfl), (Nat.le_of_ble_eq_true rfl), mw237, mw6, cy_X5_poke⟩ mw234 mw235 mw236 (w_rec hw (c0 := 30) (i0 := 0) (hM 30 (by decide) (by decide)) rfl rfl) rfl hl.1.1 rfl (Nat.le_of_ble_eq_true rfl) dL_law_215 ⟨by show cells + k1 + 0 ≤ 600000; omega, by show slots + n1 + 0 ≤ 7302250; omega⟩ (fun X2 Z2 Y2 v2 k2 n2 H locs hp hw => ?_)
  obtain ⟨rfl, rfl, rfl, rfl, rfl, hMR1, hFM⟩ := hp
  refine lv_icmp_eq (tgt := 681) hx hb dL_law_218 (by decide) (fun _ => ?_) (fun q => absurd rfl q)
  exact kk _ _ _ _ _ _ _ _ _ hw ⟨hKX.1 0 0 (Or.inl (by decide)), rfl, HOK_pk hS, hCX1, CR_rows hCR1 hFM, hMX, hMR1, by omega, by omega⟩

set_option maxHeartbeats 4000000 in
set_option maxRecDepth 100000 in
theorem law_c3 {p : Program} {l : Launch} {e : Env} {s : State} {m : MethodId} {below : List Frame} {meth : Method} {c : Code} {H : Heap} {locs : List Loc} {cells slots : Nat} {ls : Array Slot} {D : va_G} {cs : Nat → ClassId} {X : Sh} {Z : ZT} {S : HS} {h gp b a am L : Nat} {xs : Nat → Int32} {iv : Int32} {Q : State → Prop}
    (C : CallFix p m c cL_law 4 s #[Value.ref b] wsA RL) (hN : NW s) (hXs : va_X b L xs s s.heap) (hbl : b < s.heap.size) (hw : Wd s.heap.size D cs s X Z [] H locs) (hl : lo ls [some (.ref b), some (.ref a), some (.ref am), some (.int iv)]) (hV : LV a am X Z S h gp cells slots) (i1 : vp_in (iv + 1) L) (i2 : vp_in (iv + 2) L) (i3 : vp_in (iv + 3) L)
    (kk : ∀ (X1 : Sh) (Z1 : ZT) (S1 : HS) (h1 gp1 cells1 slots1 : Nat) (H1 : Heap) (locs1 : List Loc), Wd s.heap.size D cs s X1 Z1 [] H1 locs1 → LV a am X1 Z1 S1 h1 gp1 cells1 slots1 → W p l e room_1 s m #[Value.ref b] below meth c H1 locs1 cells1 slots1 Q (F0 m 681 ls [])) : W p l e room_1 s m #[Value.ref b] below meth c H locs cells slots Q (F0 m 223 ls []) := by
  obtain ⟨hx, hb, hml, hown, hts⟩ := id C
  have hbA : ¬ Asz s.heap.size b := Nat.not_le.mpr hbl
  obtain ⟨e0, e30, hS, hCX, hCR, hMX, hMR, hq, hz⟩ := hV
  subst e0
  have hX := hCX.1
  refine lv_aload_n hx hb dL_law_223 rfl (hl.at rfl) ?_
  refine lv_aload_n hx hb dL_law_224 rfl (hl.at rfl) ?_
  refine lv_iload_n hx hb dL_law_225 rfl (hl.at rfl) ?_
  refine lv_iconst (v := 1) hx hb dL_law_226 (by decide) ?_
  refine lv_iadd hx hb dL_law_227 ?_
  refine va_sld hx hb hXs hbl hbA hw.2.2.2.1 i1 dL_law_228 ?_
  refine lv_aload_n hx hb dL_law_229 rfl (hl.at rfl) ?_
  refine lv_iload_n hx hb dL_law_230 rfl (hl.at rfl) ?_
  refine lv_iconst (v := 2) hx hb dL_law_231 (by decide) ?_
  refine lv_iadd hx hb dL_law_232 ?_
  refine va_sld hx hb hXs hbl hbA hw.2.2.2.1 i2 dL_law_233 ?_
  refine lv_aload_n hx hb dL_law_234 rfl (hl.at rfl) ?_
  refine lv_iload_n hx hb dL_law_235 rfl (hl.at rfl) ?_
  refine lv_iconst (v := 3) hx hb dL_law_236 (by decide) ?_
  refine lv_iadd hx hb dL_law_237 ?_
  refine va_sld hx hb hXs hbl hbA hw.2.2.2.1 i3 dL_law_238 ?_
  refine w_callV C hN hw (c_X3_pokeDisk l s.heap.size D cs X Z [] S hS hCX h gp hCR (xs (iv + 1).toNatClampNeg) (xs (iv + 2).toNatClampNeg) (xs (iv + 3).toNatClampNeg)) ⟨(Nat.le_of_ble_eq_true rfl), (Nat.le_of_ble_eq_true rfl), mw254, mw3, cy_X3_pokeDisk⟩ mw251 mw252 mw253 (w_rec hw (c0 := 0) (i0 := 0) (hX 0 (by decide)) rfl rfl) rfl hl.1.1 rfl (Nat.le_of_ble_eq_true rfl) dL_law_239 ⟨by show cells + 0 ≤ 600000; omega, by show slots + 0 ≤ 7302250; omega⟩ (fun X1 Z1 Y1 v1 k1 n1 H locs hp hw => ?_)
  obtain ⟨rfl, rfl, h1, gp1, hCX1, hCR1, hq1, hz1, hKX, h30⟩ := hp
  have e30 : X1.1 30 0 = am := (hKX.1 30 0 (Or.inr (by decide))).trans e30
  subst e30
  have hMX := hKX.mr hMX
  have hM := hMX.1
  have hMR := MR_rows hMR h30
  refine lv_aload_n hx hb dL_law_242 rfl (hl.at rfl) ?_
  refine lv_aload_n hx hb dL_law_243 rfl (hl.at rfl) ?_
  refine lv_iload_n hx hb dL_law_244 rfl (hl.at rfl) ?_
  refine lv_iconst (v := 1) hx hb dL_law_245 (by decide) ?_
  refine lv_iadd hx hb dL_law_246 ?_
  refine va_sld hx hb hXs hbl hbA hw.2.2.2.1 i1 dL_law_247 ?_
  refine lv_aload_n hx hb dL_law_248 rfl (hl.at rfl) ?_
  refine lv_iload_n hx hb dL_law_249 rfl (hl.at rfl) ?_
  refine lv_iconst (v := 2) hx hb dL_law_250 (by decide) ?_
  refine lv_iadd hx hb dL_law_251 ?_
  refine va_sld hx hb hXs hbl hbA hw.2.2.2.1 i2 dL_law_252 ?_
  refine lv_aload_n hx hb dL_law_253 rfl (hl.at rfl) ?_
  refine lv_iload_n hx hb dL_law_254 rfl (hl.at rfl) ?_
  refine lv_iconst (v := 3) hx hb dL_law_255 (by decide) ?_
  refine lv_iadd hx hb dL_law_256 ?_
  refine va_sld hx hb hXs hbl hbA hw.2.2.2.1 i3 dL_law_257 ?_
  refine w_callV C hN hw (c_X5_pokeDisk l s.heap.size D cs X1 Z1 [] S hS hMX hMR (xs (iv + 1).toNatClampNeg) (xs (iv + 2).toNatClampNeg) (xs (iv + 3).toNatClampNeg)) ⟨(Nat.le_of_ble_eq_true rfl), (Nat.le_of_ble_eq_true rfl), mw258, mw6, cy_X5_pokeDisk⟩ mw255 mw256 mw257 (w_rec hw (c0 := 30) (i0 := 0) (hM 30 (by decide) (by decide)) rfl rfl) rfl hl.1.1 rfl (Nat.le_of_ble_eq_true rfl) dL_law_258 ⟨by show cells + k1 + 0 ≤ 600000; omega, by show slots + n1 + 0 ≤ 7302250; omega⟩ (fun X2 Z2 Y2 v2 k2 n2 H locs hp hw => ?_)
  obtain ⟨rfl, rfl, rfl, rfl, rfl, hMR1, hFM⟩ := hp
  refine lv_icmp_eq (tgt := 681) hx hb dL_law_261 (by decide) (fun _ => ?_) (fun q => absurd rfl q)
  exact kk _ _ _ _ _ _ _ _ _ hw ⟨hKX.1 0 0 (Or.inl (by decide)), rfl, HOK_pd hS, hCX1, CR_rows hCR1 hFM, hMX, hMR1, by omega, by omega⟩

set_option maxHeartbeats 4000000 in
set_option maxRecDepth 100000 in
theorem law_c4 {p : Program} {l : Launch} {e : Env} {s : State} {m : MethodId} {below : List Frame} {meth : Method} {c : Code} {H : Heap} {locs : List Loc} {cells slots : Nat} {ls : Array Slot} {D : va_G} {cs : Nat → ClassId} {X : Sh} {Z : ZT} {S : HS} {h gp b a am L : Nat} {xs : Nat → Int32} {iv : Int32} {Q : State → Prop}
    (C : CallFix p m c cL_law 4 s #[Value.ref b] wsA RL) (hN : NW s) (hXs : va_X b L xs s s.heap) (hbl : b < s.heap.size) (hw : Wd s.heap.size D cs s X Z [] H locs) (hl : lo ls [some (.ref b), some (.ref a), some (.ref am), some (.int iv)]) (hV : LV a am X Z S h gp cells slots) (i1 : vp_in (iv + 1) L) (i2 : vp_in (iv + 2) L) (i3 : vp_in (iv + 3) L)
    (kk : ∀ (X1 : Sh) (Z1 : ZT) (S1 : HS) (h1 gp1 cells1 slots1 : Nat) (H1 : Heap) (locs1 : List Loc), Wd s.heap.size D cs s X1 Z1 [] H1 locs1 → LV a am X1 Z1 S1 h1 gp1 cells1 slots1 → W p l e room_1 s m #[Value.ref b] below meth c H1 locs1 cells1 slots1 Q (F0 m 681 ls [])) : W p l e room_1 s m #[Value.ref b] below meth c H locs cells slots Q (F0 m 266 ls []) := by
  obtain ⟨hx, hb, hml, hown, hts⟩ := id C
  have hbA : ¬ Asz s.heap.size b := Nat.not_le.mpr hbl
  obtain ⟨e0, e30, hS, hCX, hCR, hMX, hMR, hq, hz⟩ := hV
  subst e0
  have hX := hCX.1
  refine lv_aload_n hx hb dL_law_266 rfl (hl.at rfl) ?_
  refine lv_aload_n hx hb dL_law_267 rfl (hl.at rfl) ?_
  refine lv_iload_n hx hb dL_law_268 rfl (hl.at rfl) ?_
  refine lv_iconst (v := 1) hx hb dL_law_269 (by decide) ?_
  refine lv_iadd hx hb dL_law_270 ?_
  refine va_sld hx hb hXs hbl hbA hw.2.2.2.1 i1 dL_law_271 ?_
  refine lv_aload_n hx hb dL_law_272 rfl (hl.at rfl) ?_
  refine lv_iload_n hx hb dL_law_273 rfl (hl.at rfl) ?_
  refine lv_iconst (v := 2) hx hb dL_law_274 (by decide) ?_
  refine lv_iadd hx hb dL_law_275 ?_
  refine va_sld hx hb hXs hbl hbA hw.2.2.2.1 i2 dL_law_276 ?_
  refine w_callV C hN hw (c_X3_start l s.heap.size D cs X Z [] S hS hCX h gp hCR (xs (iv + 1).toNatClampNeg) (xs (iv + 2).toNatClampNeg)) ⟨(Nat.le_of_ble_eq_true rfl), (Nat.le_of_ble_eq_true rfl), mw263, mw3, cy_X3_start⟩ mw260 mw261 mw262 (w_rec hw (c0 := 0) (i0 := 0) (hX 0 (by decide)) rfl rfl) rfl hl.1.1 rfl (Nat.le_of_ble_eq_true rfl) dL_law_277 ⟨by show cells + 0 ≤ 600000; omega, by show slots + 0 ≤ 7302250; omega⟩ (fun X1 Z1 Y1 v1 k1 n1 H locs hp hw => ?_)
  obtain ⟨rfl, rfl, h1, gp1, hCX1, hCR1, hq1, hz1, hKX, h30⟩ := hp
  have e30 : X1.1 30 0 = am := (hKX.1 30 0 (Or.inr (by decide))).trans e30
  subst e30
  have hMX := hKX.mr hMX
  have hM := hMX.1
  have hMR := MR_rows hMR h30
  refine lv_aload_n hx hb dL_law_280 rfl (hl.at rfl) ?_
  refine lv_aload_n hx hb dL_law_281 rfl (hl.at rfl) ?_
  refine lv_iload_n hx hb dL_law_282 rfl (hl.at rfl) ?_
  refine lv_iconst (v := 1) hx hb dL_law_283 (by decide) ?_
  refine lv_iadd hx hb dL_law_284 ?_
  refine va_sld hx hb hXs hbl hbA hw.2.2.2.1 i1 dL_law_285 ?_
  refine lv_aload_n hx hb dL_law_286 rfl (hl.at rfl) ?_
  refine lv_iload_n hx hb dL_law_287 rfl (hl.at rfl) ?_
  refine lv_iconst (v := 2) hx hb dL_law_288 (by decide) ?_
  refine lv_iadd hx hb dL_law_289 ?_
  refine va_sld hx hb hXs hbl hbA hw.2.2.2.1 i2 dL_law_290 ?_
  refine w_callV C hN hw (c_X5_start l s.heap.size D cs X1 Z1 [] S hS hMX hMR (xs (iv + 1).toNatClampNeg) (xs (iv + 2).toNatClampNeg)) ⟨(Nat.le_of_ble_eq_true rfl), (Nat.le_of_ble_eq_true rfl), mw268, mw6, cy_X5_start⟩ mw265 mw266 mw267 (w_rec hw (c0 := 30) (i0 := 0) (hM 30 (by decide) (by decide)) rfl rfl) rfl hl.1.1 rfl (Nat.le_of_ble_eq_true rfl) dL_law_291 ⟨by show cells + k1 + 0 ≤ 600000; omega, by show slots + n1 + 0 ≤ 7302250; omega⟩ (fun X2 Z2 Y2 v2 k2 n2 H locs hp hw => ?_)
  obtain ⟨rfl, rfl, rfl, rfl, rfl, hMR1, hFM⟩ := hp
  refine lv_icmp_eq (tgt := 681) hx hb dL_law_294 (by decide) (fun _ => ?_) (fun q => absurd rfl q)
  exact kk _ _ _ _ _ _ _ _ _ hw ⟨hKX.1 0 0 (Or.inl (by decide)), rfl, HOK_sta hS, hCX1, CR_rows hCR1 hFM, hMX, hMR1, by omega, by omega⟩

set_option maxHeartbeats 4000000 in
set_option maxRecDepth 100000 in
theorem law_c5 {p : Program} {l : Launch} {e : Env} {s : State} {m : MethodId} {below : List Frame} {meth : Method} {c : Code} {H : Heap} {locs : List Loc} {cells slots : Nat} {ls : Array Slot} {D : va_G} {cs : Nat → ClassId} {X : Sh} {Z : ZT} {S : HS} {h gp b a am L : Nat} {xs : Nat → Int32} {iv : Int32} {Q : State → Prop}
    (C : CallFix p m c cL_law 4 s #[Value.ref b] wsA RL) (hN : NW s) (hXs : va_X b L xs s s.heap) (hbl : b < s.heap.size) (hw : Wd s.heap.size D cs s X Z [] H locs) (hl : lo ls [some (.ref b), some (.ref a), some (.ref am), some (.int iv)]) (hV : LV a am X Z S h gp cells slots) (i1 : vp_in (iv + 1) L) (i2 : vp_in (iv + 2) L) (i3 : vp_in (iv + 3) L)
    (kk : ∀ (X1 : Sh) (Z1 : ZT) (S1 : HS) (h1 gp1 cells1 slots1 : Nat) (H1 : Heap) (locs1 : List Loc), Wd s.heap.size D cs s X1 Z1 [] H1 locs1 → LV a am X1 Z1 S1 h1 gp1 cells1 slots1 → W p l e room_1 s m #[Value.ref b] below meth c H1 locs1 cells1 slots1 Q (F0 m 681 ls [])) : W p l e room_1 s m #[Value.ref b] below meth c H locs cells slots Q (F0 m 299 ls []) := by
  obtain ⟨hx, hb, hml, hown, hts⟩ := id C
  have hbA : ¬ Asz s.heap.size b := Nat.not_le.mpr hbl
  obtain ⟨e0, e30, hS, hCX, hCR, hMX, hMR, hq, hz⟩ := hV
  subst e0
  have hX := hCX.1
  refine lv_aload_n hx hb dL_law_299 rfl (hl.at rfl) ?_
  refine lv_aload_n hx hb dL_law_300 rfl (hl.at rfl) ?_
  refine lv_iload_n hx hb dL_law_301 rfl (hl.at rfl) ?_
  refine lv_iconst (v := 1) hx hb dL_law_302 (by decide) ?_
  refine lv_iadd hx hb dL_law_303 ?_
  refine va_sld hx hb hXs hbl hbA hw.2.2.2.1 i1 dL_law_304 ?_
  refine w_callV C hN hw (c_X3_stop l s.heap.size D cs X Z [] S hS hCX h gp hCR (xs (iv + 1).toNatClampNeg)) ⟨(Nat.le_of_ble_eq_true rfl), (Nat.le_of_ble_eq_true rfl), mw273, mw3, cy_X3_stop⟩ mw270 mw271 mw272 (w_rec hw (c0 := 0) (i0 := 0) (hX 0 (by decide)) rfl rfl) rfl hl.1.1 rfl (Nat.le_of_ble_eq_true rfl) dL_law_305 ⟨by show cells + 0 ≤ 600000; omega, by show slots + 0 ≤ 7302250; omega⟩ (fun X1 Z1 Y1 v1 k1 n1 H locs hp hw => ?_)
  obtain ⟨rfl, rfl, h1, gp1, hCX1, hCR1, hq1, hz1, hKX, h30⟩ := hp
  have e30 : X1.1 30 0 = am := (hKX.1 30 0 (Or.inr (by decide))).trans e30
  subst e30
  have hMX := hKX.mr hMX
  have hM := hMX.1
  have hMR := MR_rows hMR h30
  refine lv_aload_n hx hb dL_law_308 rfl (hl.at rfl) ?_
  refine lv_aload_n hx hb dL_law_309 rfl (hl.at rfl) ?_
  refine lv_iload_n hx hb dL_law_310 rfl (hl.at rfl) ?_
  refine lv_iconst (v := 1) hx hb dL_law_311 (by decide) ?_
  refine lv_iadd hx hb dL_law_312 ?_
  refine va_sld hx hb hXs hbl hbA hw.2.2.2.1 i1 dL_law_313 ?_
  refine w_callV C hN hw (c_X5_stop l s.heap.size D cs X1 Z1 [] S hS hMX hMR (xs (iv + 1).toNatClampNeg)) ⟨(Nat.le_of_ble_eq_true rfl), (Nat.le_of_ble_eq_true rfl), mw277, mw6, cy_X5_stop⟩ mw274 mw275 mw276 (w_rec hw (c0 := 30) (i0 := 0) (hM 30 (by decide) (by decide)) rfl rfl) rfl hl.1.1 rfl (Nat.le_of_ble_eq_true rfl) dL_law_314 ⟨by show cells + k1 + 0 ≤ 600000; omega, by show slots + n1 + 0 ≤ 7302250; omega⟩ (fun X2 Z2 Y2 v2 k2 n2 H locs hp hw => ?_)
  obtain ⟨rfl, rfl, rfl, rfl, rfl, hMR1, hFM⟩ := hp
  refine lv_icmp_eq (tgt := 681) hx hb dL_law_317 (by decide) (fun _ => ?_) (fun q => absurd rfl q)
  exact kk _ _ _ _ _ _ _ _ _ hw ⟨hKX.1 0 0 (Or.inl (by decide)), rfl, HOK_sp hS, hCX1, CR_rows hCR1 hFM, hMX, hMR1, by omega, by omega⟩

set_option maxHeartbeats 4000000 in
set_option maxRecDepth 100000 in
theorem law_c6 {p : Program} {l : Launch} {e : Env} {s : State} {m : MethodId} {below : List Frame} {meth : Method} {c : Code} {H : Heap} {locs : List Loc} {cells slots : Nat} {ls : Array Slot} {D : va_G} {cs : Nat → ClassId} {X : Sh} {Z : ZT} {S : HS} {h gp b a am L : Nat} {xs : Nat → Int32} {iv : Int32} {Q : State → Prop}
    (C : CallFix p m c cL_law 4 s #[Value.ref b] wsA RL) (hN : NW s) (hXs : va_X b L xs s s.heap) (hbl : b < s.heap.size) (hw : Wd s.heap.size D cs s X Z [] H locs) (hl : lo ls [some (.ref b), some (.ref a), some (.ref am), some (.int iv)]) (hV : LV a am X Z S h gp cells slots) (i1 : vp_in (iv + 1) L) (i2 : vp_in (iv + 2) L) (i3 : vp_in (iv + 3) L)
    (kk : ∀ (X1 : Sh) (Z1 : ZT) (S1 : HS) (h1 gp1 cells1 slots1 : Nat) (H1 : Heap) (locs1 : List Loc), Wd s.heap.size D cs s X1 Z1 [] H1 locs1 → LV a am X1 Z1 S1 h1 gp1 cells1 slots1 → W p l e room_1 s m #[Value.ref b] below meth c H1 locs1 cells1 slots1 Q (F0 m 681 ls [])) : W p l e room_1 s m #[Value.ref b] below meth c H locs cells slots Q (F0 m 322 ls []) := by
  obtain ⟨hx, hb, hml, hown, hts⟩ := id C
  have hbA : ¬ Asz s.heap.size b := Nat.not_le.mpr hbl
  obtain ⟨e0, e30, hS, hCX, hCR, hMX, hMR, hq, hz⟩ := hV
  subst e0
  have hX := hCX.1
  refine lv_aload_n hx hb dL_law_322 rfl (hl.at rfl) ?_
  refine lv_aload_n hx hb dL_law_323 rfl (hl.at rfl) ?_
  refine lv_iload_n hx hb dL_law_324 rfl (hl.at rfl) ?_
  refine lv_iconst (v := 1) hx hb dL_law_325 (by decide) ?_
  refine lv_iadd hx hb dL_law_326 ?_
  refine va_sld hx hb hXs hbl hbA hw.2.2.2.1 i1 dL_law_327 ?_
  refine lv_aload_n hx hb dL_law_328 rfl (hl.at rfl) ?_
  refine lv_iload_n hx hb dL_law_329 rfl (hl.at rfl) ?_
  refine lv_iconst (v := 2) hx hb dL_law_330 (by decide) ?_
  refine lv_iadd hx hb dL_law_331 ?_
  refine va_sld hx hb hXs hbl hbA hw.2.2.2.1 i2 dL_law_332 ?_
  refine w_callV C hN hw (c_X3_input l s.heap.size D cs X Z [] S hS hCX h gp hCR (xs (iv + 1).toNatClampNeg) (xs (iv + 2).toNatClampNeg)) ⟨(Nat.le_of_ble_eq_true rfl), (Nat.le_of_ble_eq_true rfl), mw281, mw3, cy_X3_input⟩ mw278 mw279 mw280 (w_rec hw (c0 := 0) (i0 := 0) (hX 0 (by decide)) rfl rfl) rfl hl.1.1 rfl (Nat.le_of_ble_eq_true rfl) dL_law_333 ⟨by show cells + 0 ≤ 600000; omega, by show slots + 0 ≤ 7302250; omega⟩ (fun X1 Z1 Y1 v1 k1 n1 H locs hp hw => ?_)
  obtain ⟨rfl, rfl, h1, gp1, hCX1, hCR1, hq1, hz1, hKX, h30⟩ := hp
  have e30 : X1.1 30 0 = am := (hKX.1 30 0 (Or.inr (by decide))).trans e30
  subst e30
  have hMX := hKX.mr hMX
  have hM := hMX.1
  have hMR := MR_rows hMR h30
  refine lv_aload_n hx hb dL_law_336 rfl (hl.at rfl) ?_
  refine lv_aload_n hx hb dL_law_337 rfl (hl.at rfl) ?_
  refine lv_iload_n hx hb dL_law_338 rfl (hl.at rfl) ?_
  refine lv_iconst (v := 1) hx hb dL_law_339 (by decide) ?_
  refine lv_iadd hx hb dL_law_340 ?_
  refine va_sld hx hb hXs hbl hbA hw.2.2.2.1 i1 dL_law_341 ?_
  refine lv_aload_n hx hb dL_law_342 rfl (hl.at rfl) ?_
  refine lv_iload_n hx hb dL_law_343 rfl (hl.at rfl) ?_
  refine lv_iconst (v := 2) hx hb dL_law_344 (by decide) ?_
  refine lv_iadd hx hb dL_law_345 ?_
  refine va_sld hx hb hXs hbl hbA hw.2.2.2.1 i2 dL_law_346 ?_
  refine w_callV C hN hw (c_X5_input l s.heap.size D cs X1 Z1 [] S hS hMX hMR (xs (iv + 1).toNatClampNeg) (xs (iv + 2).toNatClampNeg)) ⟨(Nat.le_of_ble_eq_true rfl), (Nat.le_of_ble_eq_true rfl), mw289, mw6, cy_X5_input⟩ mw286 mw287 mw288 (w_rec hw (c0 := 30) (i0 := 0) (hM 30 (by decide) (by decide)) rfl rfl) rfl hl.1.1 rfl (Nat.le_of_ble_eq_true rfl) dL_law_347 ⟨by show cells + k1 + 0 ≤ 600000; omega, by show slots + n1 + 0 ≤ 7302250; omega⟩ (fun X2 Z2 Y2 v2 k2 n2 H locs hp hw => ?_)
  obtain ⟨rfl, rfl, rfl, rfl, rfl, hMR1, hFM⟩ := hp
  refine lv_icmp_eq (tgt := 681) hx hb dL_law_350 (by decide) (fun _ => ?_) (fun q => absurd rfl q)
  exact kk _ _ _ _ _ _ _ _ _ hw ⟨hKX.1 0 0 (Or.inl (by decide)), rfl, HOK_ip hS, hCX1, CR_rows hCR1 hFM, hMX, hMR1, by omega, by omega⟩

set_option maxHeartbeats 4000000 in
set_option maxRecDepth 100000 in
theorem law_c7 {p : Program} {l : Launch} {e : Env} {s : State} {m : MethodId} {below : List Frame} {meth : Method} {c : Code} {H : Heap} {locs : List Loc} {cells slots : Nat} {ls : Array Slot} {D : va_G} {cs : Nat → ClassId} {X : Sh} {Z : ZT} {S : HS} {h gp b a am L : Nat} {xs : Nat → Int32} {iv : Int32} {Q : State → Prop}
    (C : CallFix p m c cL_law 4 s #[Value.ref b] wsA RL) (hN : NW s) (hXs : va_X b L xs s s.heap) (hbl : b < s.heap.size) (hw : Wd s.heap.size D cs s X Z [] H locs) (hl : lo ls [some (.ref b), some (.ref a), some (.ref am), some (.int iv)]) (hV : LV a am X Z S h gp cells slots) (i1 : vp_in (iv + 1) L) (i2 : vp_in (iv + 2) L) (i3 : vp_in (iv + 3) L)
    (kk : ∀ (X1 : Sh) (Z1 : ZT) (S1 : HS) (h1 gp1 cells1 slots1 : Nat) (H1 : Heap) (locs1 : List Loc), Wd s.heap.size D cs s X1 Z1 [] H1 locs1 → LV a am X1 Z1 S1 h1 gp1 cells1 slots1 → W p l e room_1 s m #[Value.ref b] below meth c H1 locs1 cells1 slots1 Q (F0 m 681 ls [])) : W p l e room_1 s m #[Value.ref b] below meth c H locs cells slots Q (F0 m 355 ls []) := by
  obtain ⟨hx, hb, hml, hown, hts⟩ := id C
  have hbA : ¬ Asz s.heap.size b := Nat.not_le.mpr hbl
  obtain ⟨e0, e30, hS, hCX, hCR, hMX, hMR, hq, hz⟩ := hV
  subst e0
  have hX := hCX.1
  refine lv_aload_n hx hb dL_law_355 rfl (hl.at rfl) ?_
  refine lv_aload_n hx hb dL_law_356 rfl (hl.at rfl) ?_
  refine lv_iload_n hx hb dL_law_357 rfl (hl.at rfl) ?_
  refine lv_iconst (v := 1) hx hb dL_law_358 (by decide) ?_
  refine lv_iadd hx hb dL_law_359 ?_
  refine va_sld hx hb hXs hbl hbA hw.2.2.2.1 i1 dL_law_360 ?_
  refine w_callV C hN hw (c_X3_copy l s.heap.size D cs X Z [] S hS hCX h gp hCR _ _ (Nat.le_refl _) (Nat.le_refl _) (xs (iv + 1).toNatClampNeg)) ⟨(Nat.le_of_ble_eq_true rfl), (Nat.le_of_ble_eq_true rfl), mw295, mw3, cy_X3_copy⟩ mw292 mw293 mw294 (w_rec hw (c0 := 0) (i0 := 0) (hX 0 (by decide)) rfl rfl) rfl hl.1.1 rfl (Nat.le_of_ble_eq_true rfl) dL_law_361 ⟨by show cells + 8 * unm X ≤ 600000; omega, by show slots + 32832 * (8 * unm X) ≤ 7302250; omega⟩ (fun X1 Z1 Y1 v1 k1 n1 H locs hp hw => ?_)
  obtain ⟨rfl, rfl, h1, gp1, hCX1, hCR1, hq1, hz1, hKX, h30⟩ := hp
  have e30 : X1.1 30 0 = am := (hKX.1 30 0 (Or.inr (by decide))).trans e30
  subst e30
  have hMX := hKX.mr hMX
  have hM := hMX.1
  have hMR := MR_rows hMR h30
  refine lv_aload_n hx hb dL_law_364 rfl (hl.at rfl) ?_
  refine lv_aload_n hx hb dL_law_365 rfl (hl.at rfl) ?_
  refine lv_iload_n hx hb dL_law_366 rfl (hl.at rfl) ?_
  refine lv_iconst (v := 1) hx hb dL_law_367 (by decide) ?_
  refine lv_iadd hx hb dL_law_368 ?_
  refine va_sld hx hb hXs hbl hbA hw.2.2.2.1 i1 dL_law_369 ?_
  refine w_callV C hN hw (c_X5_copy l s.heap.size D cs X1 Z1 [] S hS hMX hMR (xs (iv + 1).toNatClampNeg)) ⟨(Nat.le_of_ble_eq_true rfl), (Nat.le_of_ble_eq_true rfl), mw308, mw6, cy_X5_copy⟩ mw305 mw306 mw307 (w_rec hw (c0 := 30) (i0 := 0) (hM 30 (by decide) (by decide)) rfl rfl) rfl hl.1.1 rfl (Nat.le_of_ble_eq_true rfl) dL_law_370 ⟨by show cells + k1 + 0 ≤ 600000; omega, by show slots + n1 + 0 ≤ 7302250; omega⟩ (fun X2 Z2 Y2 v2 k2 n2 H locs hp hw => ?_)
  obtain ⟨rfl, rfl, rfl, rfl, rfl, hMR1, hFM⟩ := hp
  refine lv_icmp_eq (tgt := 681) hx hb dL_law_373 (by decide) (fun _ => ?_) (fun q => absurd rfl q)
  exact kk _ _ _ _ _ _ _ _ _ hw ⟨hKX.1 0 0 (Or.inl (by decide)), rfl, HOK_cp hS, hCX1, CR_rows hCR1 hFM, hMX, hMR1, by omega, by omega⟩

set_option maxHeartbeats 4000000 in
set_option maxRecDepth 100000 in
theorem law_c8 {p : Program} {l : Launch} {e : Env} {s : State} {m : MethodId} {below : List Frame} {meth : Method} {c : Code} {H : Heap} {locs : List Loc} {cells slots : Nat} {ls : Array Slot} {D : va_G} {cs : Nat → ClassId} {X : Sh} {Z : ZT} {S : HS} {h gp b a am L : Nat} {xs : Nat → Int32} {iv : Int32} {Q : State → Prop}
    (C : CallFix p m c cL_law 4 s #[Value.ref b] wsA RL) (hN : NW s) (hXs : va_X b L xs s s.heap) (hbl : b < s.heap.size) (hw : Wd s.heap.size D cs s X Z [] H locs) (hl : lo ls [some (.ref b), some (.ref a), some (.ref am), some (.int iv)]) (hV : LV a am X Z S h gp cells slots) (i1 : vp_in (iv + 1) L) (i2 : vp_in (iv + 2) L) (i3 : vp_in (iv + 3) L)
    (kk : ∀ (X1 : Sh) (Z1 : ZT) (S1 : HS) (h1 gp1 cells1 slots1 : Nat) (H1 : Heap) (locs1 : List Loc), Wd s.heap.size D cs s X1 Z1 [] H1 locs1 → LV a am X1 Z1 S1 h1 gp1 cells1 slots1 → W p l e room_1 s m #[Value.ref b] below meth c H1 locs1 cells1 slots1 Q (F0 m 681 ls [])) : W p l e room_1 s m #[Value.ref b] below meth c H locs cells slots Q (F0 m 378 ls []) := by
  obtain ⟨hx, hb, hml, hown, hts⟩ := id C
  have hbA : ¬ Asz s.heap.size b := Nat.not_le.mpr hbl
  obtain ⟨e0, e30, hS, hCX, hCR, hMX, hMR, hq, hz⟩ := hV
  subst e0
  have hX := hCX.1
  refine lv_aload_n hx hb dL_law_378 rfl (hl.at rfl) ?_
  refine lv_aload_n hx hb dL_law_379 rfl (hl.at rfl) ?_
  refine lv_iload_n hx hb dL_law_380 rfl (hl.at rfl) ?_
  refine lv_iconst (v := 1) hx hb dL_law_381 (by decide) ?_
  refine lv_iadd hx hb dL_law_382 ?_
  refine va_sld hx hb hXs hbl hbA hw.2.2.2.1 i1 dL_law_383 ?_
  refine w_callV C hN hw (c_X3_drop l s.heap.size D cs X Z [] S hS hCX h gp hCR (xs (iv + 1).toNatClampNeg)) ⟨(Nat.le_of_ble_eq_true rfl), (Nat.le_of_ble_eq_true rfl), mw316, mw3, cy_X3_drop⟩ mw313 mw314 mw315 (w_rec hw (c0 := 0) (i0 := 0) (hX 0 (by decide)) rfl rfl) rfl hl.1.1 rfl (Nat.le_of_ble_eq_true rfl) dL_law_384 ⟨by show cells + 0 ≤ 600000; omega, by show slots + 0 ≤ 7302250; omega⟩ (fun X1 Z1 Y1 v1 k1 n1 H locs hp hw => ?_)
  obtain ⟨rfl, rfl, h1, gp1, hCX1, hCR1, hq1, hz1, hKX, h30⟩ := hp
  have e30 : X1.1 30 0 = am := (hKX.1 30 0 (Or.inr (by decide))).trans e30
  subst e30
  have hMX := hKX.mr hMX
  have hM := hMX.1
  have hMR := MR_rows hMR h30
  refine lv_aload_n hx hb dL_law_387 rfl (hl.at rfl) ?_
  refine lv_aload_n hx hb dL_law_388 rfl (hl.at rfl) ?_
  refine lv_iload_n hx hb dL_law_389 rfl (hl.at rfl) ?_
  refine lv_iconst (v := 1) hx hb dL_law_390 (by decide) ?_
  refine lv_iadd hx hb dL_law_391 ?_
  refine va_sld hx hb hXs hbl hbA hw.2.2.2.1 i1 dL_law_392 ?_
  refine w_callV C hN hw (c_X5_drop l s.heap.size D cs X1 Z1 [] S hS hMX hMR (xs (iv + 1).toNatClampNeg)) ⟨(Nat.le_of_ble_eq_true rfl), (Nat.le_of_ble_eq_true rfl), mw328, mw6, cy_X5_drop⟩ mw325 mw326 mw327 (w_rec hw (c0 := 30) (i0 := 0) (hM 30 (by decide) (by decide)) rfl rfl) rfl hl.1.1 rfl (Nat.le_of_ble_eq_true rfl) dL_law_393 ⟨by show cells + k1 + 0 ≤ 600000; omega, by show slots + n1 + 0 ≤ 7302250; omega⟩ (fun X2 Z2 Y2 v2 k2 n2 H locs hp hw => ?_)
  obtain ⟨rfl, rfl, rfl, rfl, rfl, hMR1, hFM⟩ := hp
  refine lv_icmp_eq (tgt := 681) hx hb dL_law_396 (by decide) (fun _ => ?_) (fun q => absurd rfl q)
  exact kk _ _ _ _ _ _ _ _ _ hw ⟨hKX.1 0 0 (Or.inl (by decide)), rfl, HOK_dr hS, hCX1, CR_rows hCR1 hFM, hMX, hMR1, by omega, by omega⟩

set_option maxHeartbeats 4000000 in
set_option maxRecDepth 100000 in
theorem law_c9 {p : Program} {l : Launch} {e : Env} {s : State} {m : MethodId} {below : List Frame} {meth : Method} {c : Code} {H : Heap} {locs : List Loc} {cells slots : Nat} {ls : Array Slot} {D : va_G} {cs : Nat → ClassId} {X : Sh} {Z : ZT} {S : HS} {h gp b a am L : Nat} {xs : Nat → Int32} {iv : Int32} {Q : State → Prop}
    (C : CallFix p m c cL_law 4 s #[Value.ref b] wsA RL) (hN : NW s) (hXs : va_X b L xs s s.heap) (hbl : b < s.heap.size) (hw : Wd s.heap.size D cs s X Z [] H locs) (hl : lo ls [some (.ref b), some (.ref a), some (.ref am), some (.int iv)]) (hV : LV a am X Z S h gp cells slots) (i1 : vp_in (iv + 1) L) (i2 : vp_in (iv + 2) L) (i3 : vp_in (iv + 3) L)
    (kk : ∀ (X1 : Sh) (Z1 : ZT) (S1 : HS) (h1 gp1 cells1 slots1 : Nat) (H1 : Heap) (locs1 : List Loc), Wd s.heap.size D cs s X1 Z1 [] H1 locs1 → LV a am X1 Z1 S1 h1 gp1 cells1 slots1 → W p l e room_1 s m #[Value.ref b] below meth c H1 locs1 cells1 slots1 Q (F0 m 681 ls [])) : W p l e room_1 s m #[Value.ref b] below meth c H locs cells slots Q (F0 m 401 ls []) := by
  obtain ⟨hx, hb, hml, hown, hts⟩ := id C
  have hbA : ¬ Asz s.heap.size b := Nat.not_le.mpr hbl
  obtain ⟨e0, e30, hS, hCX, hCR, hMX, hMR, hq, hz⟩ := hV
  subst e0
  have hX := hCX.1
  refine lv_aload_n hx hb dL_law_401 rfl (hl.at rfl) ?_
  refine lv_aload_n hx hb dL_law_402 rfl (hl.at rfl) ?_
  refine lv_iload_n hx hb dL_law_403 rfl (hl.at rfl) ?_
  refine lv_iconst (v := 1) hx hb dL_law_404 (by decide) ?_
  refine lv_iadd hx hb dL_law_405 ?_
  refine va_sld hx hb hXs hbl hbA hw.2.2.2.1 i1 dL_law_406 ?_
  refine w_callV C hN hw (c_X3_run l s.heap.size D cs X Z [] S hS hCX h gp hCR _ _ (Nat.le_refl _) (Nat.le_refl _) (xs (iv + 1).toNatClampNeg)) ⟨(Nat.le_of_ble_eq_true rfl), (Nat.le_of_ble_eq_true rfl), mw332, mw3, cy_X3_run⟩ mw329 mw330 mw331 (w_rec hw (c0 := 0) (i0 := 0) (hX 0 (by decide)) rfl rfl) rfl hl.1.1 rfl (Nat.le_of_ble_eq_true rfl) dL_law_407 ⟨by show cells + gp ≤ 600000; omega, by show slots + 32832 * gp ≤ 7302250; omega⟩ (fun X1 Z1 Y1 v1 k1 n1 H locs hp hw => ?_)
  obtain ⟨rfl, rfl, h1, gp1, hCX1, hCR1, hq1, hz1, hKX, h30⟩ := hp
  have e30 : X1.1 30 0 = am := (hKX.1 30 0 (Or.inr (by decide))).trans e30
  subst e30
  have hMX := hKX.mr hMX
  have hM := hMX.1
  have hMR := MR_rows hMR h30
  refine lv_aload_n hx hb dL_law_410 rfl (hl.at rfl) ?_
  refine lv_aload_n hx hb dL_law_411 rfl (hl.at rfl) ?_
  refine lv_iload_n hx hb dL_law_412 rfl (hl.at rfl) ?_
  refine lv_iconst (v := 1) hx hb dL_law_413 (by decide) ?_
  refine lv_iadd hx hb dL_law_414 ?_
  refine va_sld hx hb hXs hbl hbA hw.2.2.2.1 i1 dL_law_415 ?_
  refine w_callV C hN hw (c_X5_run l s.heap.size D cs X1 Z1 [] S hS hMX hMR (xs (iv + 1).toNatClampNeg)) ⟨(Nat.le_of_ble_eq_true rfl), (Nat.le_of_ble_eq_true rfl), mw444, mw6, cy_X5_run⟩ mw441 mw442 mw443 (w_rec hw (c0 := 30) (i0 := 0) (hM 30 (by decide) (by decide)) rfl rfl) rfl hl.1.1 rfl (Nat.le_of_ble_eq_true rfl) dL_law_416 ⟨by show cells + k1 + 0 ≤ 600000; omega, by show slots + n1 + 0 ≤ 7302250; omega⟩ (fun X2 Z2 Y2 v2 k2 n2 H locs hp hw => ?_)
  obtain ⟨rfl, rfl, rfl, rfl, rfl, hMR1, hFM⟩ := hp
  refine lv_icmp_eq (tgt := 681) hx hb dL_law_419 (by decide) (fun _ => ?_) (fun q => absurd rfl q)
  exact kk _ _ _ _ _ _ _ _ _ hw ⟨hKX.1 0 0 (Or.inl (by decide)), rfl, HOK_run hS, hCX1, CR_rows hCR1 hFM, hMX, hMR1, by omega, by omega⟩

set_option maxHeartbeats 4000000 in
set_option maxRecDepth 100000 in
theorem law_c10 {p : Program} {l : Launch} {e : Env} {s : State} {m : MethodId} {below : List Frame} {meth : Method} {c : Code} {H : Heap} {locs : List Loc} {cells slots : Nat} {ls : Array Slot} {D : va_G} {cs : Nat → ClassId} {X : Sh} {Z : ZT} {S : HS} {h gp b a am L : Nat} {xs : Nat → Int32} {iv : Int32} {Q : State → Prop}
    (C : CallFix p m c cL_law 4 s #[Value.ref b] wsA RL) (hN : NW s) (hXs : va_X b L xs s s.heap) (hbl : b < s.heap.size) (hw : Wd s.heap.size D cs s X Z [] H locs) (hl : lo ls [some (.ref b), some (.ref a), some (.ref am), some (.int iv)]) (hV : LV a am X Z S h gp cells slots) (i1 : vp_in (iv + 1) L) (i2 : vp_in (iv + 2) L) (i3 : vp_in (iv + 3) L)
    (kk : ∀ (X1 : Sh) (Z1 : ZT) (S1 : HS) (h1 gp1 cells1 slots1 : Nat) (H1 : Heap) (locs1 : List Loc), Wd s.heap.size D cs s X1 Z1 [] H1 locs1 → LV a am X1 Z1 S1 h1 gp1 cells1 slots1 → W p l e room_1 s m #[Value.ref b] below meth c H1 locs1 cells1 slots1 Q (F0 m 681 ls [])) : W p l e room_1 s m #[Value.ref b] below meth c H locs cells slots Q (F0 m 424 ls []) := by
  obtain ⟨hx, hb, hml, hown, hts⟩ := id C
  have hbA : ¬ Asz s.heap.size b := Nat.not_le.mpr hbl
  obtain ⟨e0, e30, hS, hCX, hCR, hMX, hMR, hq, hz⟩ := hV
  subst e0
  have hX := hCX.1
  refine lv_aload_n hx hb dL_law_424 rfl (hl.at rfl) ?_
  refine lv_aload_n hx hb dL_law_425 rfl (hl.at rfl) ?_
  refine lv_iload_n hx hb dL_law_426 rfl (hl.at rfl) ?_
  refine lv_iconst (v := 1) hx hb dL_law_427 (by decide) ?_
  refine lv_iadd hx hb dL_law_428 ?_
  refine va_sld hx hb hXs hbl hbA hw.2.2.2.1 i1 dL_law_429 ?_
  refine lv_aload_n hx hb dL_law_430 rfl (hl.at rfl) ?_
  refine lv_iload_n hx hb dL_law_431 rfl (hl.at rfl) ?_
  refine lv_iconst (v := 2) hx hb dL_law_432 (by decide) ?_
  refine lv_iadd hx hb dL_law_433 ?_
  refine va_sld hx hb hXs hbl hbA hw.2.2.2.1 i2 dL_law_434 ?_
  refine w_callV C hN hw (c_X3_only l s.heap.size D cs X Z [] S hS hCX h gp hCR _ _ (Nat.le_refl _) (Nat.le_refl _) (xs (iv + 1).toNatClampNeg) (xs (iv + 2).toNatClampNeg)) ⟨(Nat.le_of_ble_eq_true rfl), (Nat.le_of_ble_eq_true rfl), mw513, mw3, cy_X3_only⟩ mw510 mw511 mw512 (w_rec hw (c0 := 0) (i0 := 0) (hX 0 (by decide)) rfl rfl) rfl hl.1.1 rfl (Nat.le_of_ble_eq_true rfl) dL_law_435 ⟨by show cells + gp ≤ 600000; omega, by show slots + 32832 * gp ≤ 7302250; omega⟩ (fun X1 Z1 Y1 v1 k1 n1 H locs hp hw => ?_)
  obtain ⟨rfl, rfl, h1, gp1, hCX1, hCR1, hq1, hz1, hKX, h30⟩ := hp
  have e30 : X1.1 30 0 = am := (hKX.1 30 0 (Or.inr (by decide))).trans e30
  subst e30
  have hMX := hKX.mr hMX
  have hM := hMX.1
  have hMR := MR_rows hMR h30
  refine lv_aload_n hx hb dL_law_438 rfl (hl.at rfl) ?_
  refine lv_aload_n hx hb dL_law_439 rfl (hl.at rfl) ?_
  refine lv_iload_n hx hb dL_law_440 rfl (hl.at rfl) ?_
  refine lv_iconst (v := 1) hx hb dL_law_441 (by decide) ?_
  refine lv_iadd hx hb dL_law_442 ?_
  refine va_sld hx hb hXs hbl hbA hw.2.2.2.1 i1 dL_law_443 ?_
  refine lv_aload_n hx hb dL_law_444 rfl (hl.at rfl) ?_
  refine lv_iload_n hx hb dL_law_445 rfl (hl.at rfl) ?_
  refine lv_iconst (v := 2) hx hb dL_law_446 (by decide) ?_
  refine lv_iadd hx hb dL_law_447 ?_
  refine va_sld hx hb hXs hbl hbA hw.2.2.2.1 i2 dL_law_448 ?_
  refine w_callV C hN hw (c_X5_only l s.heap.size D cs X1 Z1 [] S hS hMX hMR (xs (iv + 1).toNatClampNeg) (xs (iv + 2).toNatClampNeg)) ⟨(Nat.le_of_ble_eq_true rfl), (Nat.le_of_ble_eq_true rfl), mw517, mw6, cy_X5_only⟩ mw514 mw515 mw516 (w_rec hw (c0 := 30) (i0 := 0) (hM 30 (by decide) (by decide)) rfl rfl) rfl hl.1.1 rfl (Nat.le_of_ble_eq_true rfl) dL_law_449 ⟨by show cells + k1 + 0 ≤ 600000; omega, by show slots + n1 + 0 ≤ 7302250; omega⟩ (fun X2 Z2 Y2 v2 k2 n2 H locs hp hw => ?_)
  obtain ⟨rfl, rfl, rfl, rfl, rfl, hMR1, hFM⟩ := hp
  refine lv_icmp_eq (tgt := 681) hx hb dL_law_452 (by decide) (fun _ => ?_) (fun q => absurd rfl q)
  exact kk _ _ _ _ _ _ _ _ _ hw ⟨hKX.1 0 0 (Or.inl (by decide)), rfl, HOK_on hS, hCX1, CR_rows hCR1 hFM, hMX, hMR1, by omega, by omega⟩

set_option maxHeartbeats 4000000 in
set_option maxRecDepth 100000 in
theorem law_c11 {p : Program} {l : Launch} {e : Env} {s : State} {m : MethodId} {below : List Frame} {meth : Method} {c : Code} {H : Heap} {locs : List Loc} {cells slots : Nat} {ls : Array Slot} {D : va_G} {cs : Nat → ClassId} {X : Sh} {Z : ZT} {S : HS} {h gp b a am L : Nat} {xs : Nat → Int32} {iv : Int32} {Q : State → Prop}
    (C : CallFix p m c cL_law 4 s #[Value.ref b] wsA RL) (hN : NW s) (hXs : va_X b L xs s s.heap) (hbl : b < s.heap.size) (hw : Wd s.heap.size D cs s X Z [] H locs) (hl : lo ls [some (.ref b), some (.ref a), some (.ref am), some (.int iv)]) (hV : LV a am X Z S h gp cells slots) (i1 : vp_in (iv + 1) L) (i2 : vp_in (iv + 2) L) (i3 : vp_in (iv + 3) L)
    (kk : ∀ (X1 : Sh) (Z1 : ZT) (S1 : HS) (h1 gp1 cells1 slots1 : Nat) (H1 : Heap) (locs1 : List Loc), Wd s.heap.size D cs s X1 Z1 [] H1 locs1 → LV a am X1 Z1 S1 h1 gp1 cells1 slots1 → W p l e room_1 s m #[Value.ref b] below meth c H1 locs1 cells1 slots1 Q (F0 m 681 ls [])) : W p l e room_1 s m #[Value.ref b] below meth c H locs cells slots Q (F0 m 457 ls []) := by
  obtain ⟨hx, hb, hml, hown, hts⟩ := id C
  have hbA : ¬ Asz s.heap.size b := Nat.not_le.mpr hbl
  obtain ⟨e0, e30, hS, hCX, hCR, hMX, hMR, hq, hz⟩ := hV
  subst e0
  have hX := hCX.1
  refine lv_aload_n hx hb dL_law_457 rfl (hl.at rfl) ?_
  refine lv_aload_n hx hb dL_law_458 rfl (hl.at rfl) ?_
  refine lv_iload_n hx hb dL_law_459 rfl (hl.at rfl) ?_
  refine lv_iconst (v := 1) hx hb dL_law_460 (by decide) ?_
  refine lv_iadd hx hb dL_law_461 ?_
  refine va_sld hx hb hXs hbl hbA hw.2.2.2.1 i1 dL_law_462 ?_
  refine w_callV C hN hw (c_X3_state l s.heap.size D cs X Z [] S hS hCX h gp hCR (xs (iv + 1).toNatClampNeg)) ⟨(Nat.le_of_ble_eq_true rfl), (Nat.le_of_ble_eq_true rfl), mw521, mw3, cy_X3_state⟩ mw518 mw519 mw520 (w_rec hw (c0 := 0) (i0 := 0) (hX 0 (by decide)) rfl rfl) rfl hl.1.1 rfl (Nat.le_of_ble_eq_true rfl) dL_law_463 ⟨by show cells + 0 ≤ 600000; omega, by show slots + 0 ≤ 7302250; omega⟩ (fun X1 Z1 Y1 v1 k1 n1 H locs hp hw => ?_)
  obtain ⟨rfl, rfl, h1, gp1, hCX1, hCR1, hq1, hz1, hKX, h30⟩ := hp
  have e30 : X1.1 30 0 = am := (hKX.1 30 0 (Or.inr (by decide))).trans e30
  subst e30
  have hMX := hKX.mr hMX
  have hM := hMX.1
  have hMR := MR_rows hMR h30
  refine lv_aload_n hx hb dL_law_466 rfl (hl.at rfl) ?_
  refine lv_aload_n hx hb dL_law_467 rfl (hl.at rfl) ?_
  refine lv_iload_n hx hb dL_law_468 rfl (hl.at rfl) ?_
  refine lv_iconst (v := 1) hx hb dL_law_469 (by decide) ?_
  refine lv_iadd hx hb dL_law_470 ?_
  refine va_sld hx hb hXs hbl hbA hw.2.2.2.1 i1 dL_law_471 ?_
  refine w_callV C hN hw (c_X5_state l s.heap.size D cs X1 Z1 [] S hS hMX hMR (xs (iv + 1).toNatClampNeg)) ⟨(Nat.le_of_ble_eq_true rfl), (Nat.le_of_ble_eq_true rfl), mw525, mw6, cy_X5_state⟩ mw522 mw523 mw524 (w_rec hw (c0 := 30) (i0 := 0) (hM 30 (by decide) (by decide)) rfl rfl) rfl hl.1.1 rfl (Nat.le_of_ble_eq_true rfl) dL_law_472 ⟨by show cells + k1 + 0 ≤ 600000; omega, by show slots + n1 + 0 ≤ 7302250; omega⟩ (fun X2 Z2 Y2 v2 k2 n2 H locs hp hw => ?_)
  obtain ⟨rfl, rfl, rfl, rfl, rfl, rfl⟩ := hp
  refine lv_icmp_eq (tgt := 681) hx hb dL_law_475 (by decide) (fun _ => ?_) (fun q => absurd rfl q)
  exact kk _ _ _ _ _ _ _ _ _ hw ⟨hKX.1 0 0 (Or.inl (by decide)), rfl, hS, hCX1, hCR1, hMX, hMR, by omega, by omega⟩

set_option maxHeartbeats 4000000 in
set_option maxRecDepth 100000 in
theorem law_c12 {p : Program} {l : Launch} {e : Env} {s : State} {m : MethodId} {below : List Frame} {meth : Method} {c : Code} {H : Heap} {locs : List Loc} {cells slots : Nat} {ls : Array Slot} {D : va_G} {cs : Nat → ClassId} {X : Sh} {Z : ZT} {S : HS} {h gp b a am L : Nat} {xs : Nat → Int32} {iv : Int32} {Q : State → Prop}
    (C : CallFix p m c cL_law 4 s #[Value.ref b] wsA RL) (hN : NW s) (hXs : va_X b L xs s s.heap) (hbl : b < s.heap.size) (hw : Wd s.heap.size D cs s X Z [] H locs) (hl : lo ls [some (.ref b), some (.ref a), some (.ref am), some (.int iv)]) (hV : LV a am X Z S h gp cells slots) (i1 : vp_in (iv + 1) L) (i2 : vp_in (iv + 2) L) (i3 : vp_in (iv + 3) L)
    (kk : ∀ (X1 : Sh) (Z1 : ZT) (S1 : HS) (h1 gp1 cells1 slots1 : Nat) (H1 : Heap) (locs1 : List Loc), Wd s.heap.size D cs s X1 Z1 [] H1 locs1 → LV a am X1 Z1 S1 h1 gp1 cells1 slots1 → W p l e room_1 s m #[Value.ref b] below meth c H1 locs1 cells1 slots1 Q (F0 m 681 ls [])) : W p l e room_1 s m #[Value.ref b] below meth c H locs cells slots Q (F0 m 480 ls []) := by
  obtain ⟨hx, hb, hml, hown, hts⟩ := id C
  have hbA : ¬ Asz s.heap.size b := Nat.not_le.mpr hbl
  obtain ⟨e0, e30, hS, hCX, hCR, hMX, hMR, hq, hz⟩ := hV
  subst e0
  have hX := hCX.1
  refine lv_aload_n hx hb dL_law_480 rfl (hl.at rfl) ?_
  refine lv_aload_n hx hb dL_law_481 rfl (hl.at rfl) ?_
  refine lv_iload_n hx hb dL_law_482 rfl (hl.at rfl) ?_
  refine lv_iconst (v := 1) hx hb dL_law_483 (by decide) ?_
  refine lv_iadd hx hb dL_law_484 ?_
  refine va_sld hx hb hXs hbl hbA hw.2.2.2.1 i1 dL_law_485 ?_
  refine lv_aload_n hx hb dL_law_486 rfl (hl.at rfl) ?_
  refine lv_iload_n hx hb dL_law_487 rfl (hl.at rfl) ?_
  refine lv_iconst (v := 2) hx hb dL_law_488 (by decide) ?_
  refine lv_iadd hx hb dL_law_489 ?_
  refine va_sld hx hb hXs hbl hbA hw.2.2.2.1 i2 dL_law_490 ?_
  refine w_callV C hN hw (c_X3_told l s.heap.size D cs X Z [] S hS hCX h gp hCR (xs (iv + 1).toNatClampNeg) (xs (iv + 2).toNatClampNeg)) ⟨(Nat.le_of_ble_eq_true rfl), (Nat.le_of_ble_eq_true rfl), mw529, mw3, cy_X3_told⟩ mw526 mw527 mw528 (w_rec hw (c0 := 0) (i0 := 0) (hX 0 (by decide)) rfl rfl) rfl hl.1.1 rfl (Nat.le_of_ble_eq_true rfl) dL_law_491 ⟨by show cells + 0 ≤ 600000; omega, by show slots + 0 ≤ 7302250; omega⟩ (fun X1 Z1 Y1 v1 k1 n1 H locs hp hw => ?_)
  obtain ⟨rfl, rfl, h1, gp1, hCX1, hCR1, hq1, hz1, hKX, h30⟩ := hp
  have e30 : X1.1 30 0 = am := (hKX.1 30 0 (Or.inr (by decide))).trans e30
  subst e30
  have hMX := hKX.mr hMX
  have hM := hMX.1
  have hMR := MR_rows hMR h30
  refine lv_aload_n hx hb dL_law_494 rfl (hl.at rfl) ?_
  refine lv_aload_n hx hb dL_law_495 rfl (hl.at rfl) ?_
  refine lv_iload_n hx hb dL_law_496 rfl (hl.at rfl) ?_
  refine lv_iconst (v := 1) hx hb dL_law_497 (by decide) ?_
  refine lv_iadd hx hb dL_law_498 ?_
  refine va_sld hx hb hXs hbl hbA hw.2.2.2.1 i1 dL_law_499 ?_
  refine lv_aload_n hx hb dL_law_500 rfl (hl.at rfl) ?_
  refine lv_iload_n hx hb dL_law_501 rfl (hl.at rfl) ?_
  refine lv_iconst (v := 2) hx hb dL_law_502 (by decide) ?_
  refine lv_iadd hx hb dL_law_503 ?_
  refine va_sld hx hb hXs hbl hbA hw.2.2.2.1 i2 dL_law_504 ?_
  refine w_callV C hN hw (c_X5_told l s.heap.size D cs X1 Z1 [] S hS hMX hMR (xs (iv + 1).toNatClampNeg) (xs (iv + 2).toNatClampNeg)) ⟨(Nat.le_of_ble_eq_true rfl), (Nat.le_of_ble_eq_true rfl), mw537, mw6, cy_X5_told⟩ mw534 mw535 mw536 (w_rec hw (c0 := 30) (i0 := 0) (hM 30 (by decide) (by decide)) rfl rfl) rfl hl.1.1 rfl (Nat.le_of_ble_eq_true rfl) dL_law_505 ⟨by show cells + k1 + 0 ≤ 600000; omega, by show slots + n1 + 0 ≤ 7302250; omega⟩ (fun X2 Z2 Y2 v2 k2 n2 H locs hp hw => ?_)
  obtain ⟨rfl, rfl, rfl, rfl, rfl, rfl⟩ := hp
  refine lv_icmp_eq (tgt := 681) hx hb dL_law_508 (by decide) (fun _ => ?_) (fun q => absurd rfl q)
  exact kk _ _ _ _ _ _ _ _ _ hw ⟨hKX.1 0 0 (Or.inl (by decide)), rfl, hS, hCX1, hCR1, hMX, hMR, by omega, by omega⟩

set_option maxHeartbeats 4000000 in
set_option maxRecDepth 100000 in
theorem law_c13 {p : Program} {l : Launch} {e : Env} {s : State} {m : MethodId} {below : List Frame} {meth : Method} {c : Code} {H : Heap} {locs : List Loc} {cells slots : Nat} {ls : Array Slot} {D : va_G} {cs : Nat → ClassId} {X : Sh} {Z : ZT} {S : HS} {h gp b a am L : Nat} {xs : Nat → Int32} {iv : Int32} {Q : State → Prop}
    (C : CallFix p m c cL_law 4 s #[Value.ref b] wsA RL) (hN : NW s) (hXs : va_X b L xs s s.heap) (hbl : b < s.heap.size) (hw : Wd s.heap.size D cs s X Z [] H locs) (hl : lo ls [some (.ref b), some (.ref a), some (.ref am), some (.int iv)]) (hV : LV a am X Z S h gp cells slots) (i1 : vp_in (iv + 1) L) (i2 : vp_in (iv + 2) L) (i3 : vp_in (iv + 3) L)
    (kk : ∀ (X1 : Sh) (Z1 : ZT) (S1 : HS) (h1 gp1 cells1 slots1 : Nat) (H1 : Heap) (locs1 : List Loc), Wd s.heap.size D cs s X1 Z1 [] H1 locs1 → LV a am X1 Z1 S1 h1 gp1 cells1 slots1 → W p l e room_1 s m #[Value.ref b] below meth c H1 locs1 cells1 slots1 Q (F0 m 681 ls [])) : W p l e room_1 s m #[Value.ref b] below meth c H locs cells slots Q (F0 m 513 ls []) := by
  obtain ⟨hx, hb, hml, hown, hts⟩ := id C
  have hbA : ¬ Asz s.heap.size b := Nat.not_le.mpr hbl
  obtain ⟨e0, e30, hS, hCX, hCR, hMX, hMR, hq, hz⟩ := hV
  subst e0
  have hX := hCX.1
  refine lv_aload_n hx hb dL_law_513 rfl (hl.at rfl) ?_
  refine lv_aload_n hx hb dL_law_514 rfl (hl.at rfl) ?_
  refine lv_iload_n hx hb dL_law_515 rfl (hl.at rfl) ?_
  refine lv_iconst (v := 1) hx hb dL_law_516 (by decide) ?_
  refine lv_iadd hx hb dL_law_517 ?_
  refine va_sld hx hb hXs hbl hbA hw.2.2.2.1 i1 dL_law_518 ?_
  refine lv_aload_n hx hb dL_law_519 rfl (hl.at rfl) ?_
  refine lv_iload_n hx hb dL_law_520 rfl (hl.at rfl) ?_
  refine lv_iconst (v := 2) hx hb dL_law_521 (by decide) ?_
  refine lv_iadd hx hb dL_law_522 ?_
  refine va_sld hx hb hXs hbl hbA hw.2.2.2.1 i2 dL_law_523 ?_
  refine w_callV C hN hw (c_X3_peek l s.heap.size D cs X Z [] S hS hCX h gp hCR _ _ (Nat.le_refl _) (Nat.le_refl _) (xs (iv + 1).toNatClampNeg) (xs (iv + 2).toNatClampNeg)) ⟨(Nat.le_of_ble_eq_true rfl), (Nat.le_of_ble_eq_true rfl), mw549, mw3, cy_X3_peek⟩ mw546 mw547 mw548 (w_rec hw (c0 := 0) (i0 := 0) (hX 0 (by decide)) rfl rfl) rfl hl.1.1 rfl (Nat.le_of_ble_eq_true rfl) dL_law_524 ⟨by show cells + gp ≤ 600000; omega, by show slots + 32832 * gp ≤ 7302250; omega⟩ (fun X1 Z1 Y1 v1 k1 n1 H locs hp hw => ?_)
  obtain ⟨rfl, rfl, h1, gp1, hCX1, hCR1, hq1, hz1, hKX, h30⟩ := hp
  have e30 : X1.1 30 0 = am := (hKX.1 30 0 (Or.inr (by decide))).trans e30
  subst e30
  have hMX := hKX.mr hMX
  have hM := hMX.1
  have hMR := MR_rows hMR h30
  refine lv_aload_n hx hb dL_law_527 rfl (hl.at rfl) ?_
  refine lv_aload_n hx hb dL_law_528 rfl (hl.at rfl) ?_
  refine lv_iload_n hx hb dL_law_529 rfl (hl.at rfl) ?_
  refine lv_iconst (v := 1) hx hb dL_law_530 (by decide) ?_
  refine lv_iadd hx hb dL_law_531 ?_
  refine va_sld hx hb hXs hbl hbA hw.2.2.2.1 i1 dL_law_532 ?_
  refine lv_aload_n hx hb dL_law_533 rfl (hl.at rfl) ?_
  refine lv_iload_n hx hb dL_law_534 rfl (hl.at rfl) ?_
  refine lv_iconst (v := 2) hx hb dL_law_535 (by decide) ?_
  refine lv_iadd hx hb dL_law_536 ?_
  refine va_sld hx hb hXs hbl hbA hw.2.2.2.1 i2 dL_law_537 ?_
  refine w_callV C hN hw (c_X5_peek l s.heap.size D cs X1 Z1 [] S hS hMX hMR (xs (iv + 1).toNatClampNeg) (xs (iv + 2).toNatClampNeg)) ⟨(Nat.le_of_ble_eq_true rfl), (Nat.le_of_ble_eq_true rfl), mw554, mw6, cy_X5_peek⟩ mw551 mw552 mw553 (w_rec hw (c0 := 30) (i0 := 0) (hM 30 (by decide) (by decide)) rfl rfl) rfl hl.1.1 rfl (Nat.le_of_ble_eq_true rfl) dL_law_538 ⟨by show cells + k1 + 0 ≤ 600000; omega, by show slots + n1 + 0 ≤ 7302250; omega⟩ (fun X2 Z2 Y2 v2 k2 n2 H locs hp hw => ?_)
  obtain ⟨rfl, rfl, rfl, rfl, rfl, rfl⟩ := hp
  refine lv_icmp_eq (tgt := 681) hx hb dL_law_541 (by decide) (fun _ => ?_) (fun q => absurd rfl q)
  exact kk _ _ _ _ _ _ _ _ _ hw ⟨hKX.1 0 0 (Or.inl (by decide)), rfl, hS, hCX1, hCR1, hMX, hMR, by omega, by omega⟩

set_option maxHeartbeats 4000000 in
set_option maxRecDepth 100000 in
theorem law_c14 {p : Program} {l : Launch} {e : Env} {s : State} {m : MethodId} {below : List Frame} {meth : Method} {c : Code} {H : Heap} {locs : List Loc} {cells slots : Nat} {ls : Array Slot} {D : va_G} {cs : Nat → ClassId} {X : Sh} {Z : ZT} {S : HS} {h gp b a am L : Nat} {xs : Nat → Int32} {iv : Int32} {Q : State → Prop}
    (C : CallFix p m c cL_law 4 s #[Value.ref b] wsA RL) (hN : NW s) (hXs : va_X b L xs s s.heap) (hbl : b < s.heap.size) (hw : Wd s.heap.size D cs s X Z [] H locs) (hl : lo ls [some (.ref b), some (.ref a), some (.ref am), some (.int iv)]) (hV : LV a am X Z S h gp cells slots) (i1 : vp_in (iv + 1) L) (i2 : vp_in (iv + 2) L) (i3 : vp_in (iv + 3) L)
    (kk : ∀ (X1 : Sh) (Z1 : ZT) (S1 : HS) (h1 gp1 cells1 slots1 : Nat) (H1 : Heap) (locs1 : List Loc), Wd s.heap.size D cs s X1 Z1 [] H1 locs1 → LV a am X1 Z1 S1 h1 gp1 cells1 slots1 → W p l e room_1 s m #[Value.ref b] below meth c H1 locs1 cells1 slots1 Q (F0 m 681 ls [])) : W p l e room_1 s m #[Value.ref b] below meth c H locs cells slots Q (F0 m 546 ls []) := by
  obtain ⟨hx, hb, hml, hown, hts⟩ := id C
  have hbA : ¬ Asz s.heap.size b := Nat.not_le.mpr hbl
  obtain ⟨e0, e30, hS, hCX, hCR, hMX, hMR, hq, hz⟩ := hV
  subst e0
  have hX := hCX.1
  refine lv_aload_n hx hb dL_law_546 rfl (hl.at rfl) ?_
  refine lv_aload_n hx hb dL_law_547 rfl (hl.at rfl) ?_
  refine lv_iload_n hx hb dL_law_548 rfl (hl.at rfl) ?_
  refine lv_iconst (v := 1) hx hb dL_law_549 (by decide) ?_
  refine lv_iadd hx hb dL_law_550 ?_
  refine va_sld hx hb hXs hbl hbA hw.2.2.2.1 i1 dL_law_551 ?_
  refine lv_aload_n hx hb dL_law_552 rfl (hl.at rfl) ?_
  refine lv_iload_n hx hb dL_law_553 rfl (hl.at rfl) ?_
  refine lv_iconst (v := 2) hx hb dL_law_554 (by decide) ?_
  refine lv_iadd hx hb dL_law_555 ?_
  refine va_sld hx hb hXs hbl hbA hw.2.2.2.1 i2 dL_law_556 ?_
  refine w_callV C hN hw (c_X3_disk l s.heap.size D cs X Z [] S hS hCX h gp hCR (xs (iv + 1).toNatClampNeg) (xs (iv + 2).toNatClampNeg)) ⟨(Nat.le_of_ble_eq_true rfl), (Nat.le_of_ble_eq_true rfl), mw558, mw3, cy_X3_disk⟩ mw555 mw556 mw557 (w_rec hw (c0 := 0) (i0 := 0) (hX 0 (by decide)) rfl rfl) rfl hl.1.1 rfl (Nat.le_of_ble_eq_true rfl) dL_law_557 ⟨by show cells + 0 ≤ 600000; omega, by show slots + 0 ≤ 7302250; omega⟩ (fun X1 Z1 Y1 v1 k1 n1 H locs hp hw => ?_)
  obtain ⟨rfl, rfl, h1, gp1, hCX1, hCR1, hq1, hz1, hKX, h30⟩ := hp
  have e30 : X1.1 30 0 = am := (hKX.1 30 0 (Or.inr (by decide))).trans e30
  subst e30
  have hMX := hKX.mr hMX
  have hM := hMX.1
  have hMR := MR_rows hMR h30
  refine lv_aload_n hx hb dL_law_560 rfl (hl.at rfl) ?_
  refine lv_aload_n hx hb dL_law_561 rfl (hl.at rfl) ?_
  refine lv_iload_n hx hb dL_law_562 rfl (hl.at rfl) ?_
  refine lv_iconst (v := 1) hx hb dL_law_563 (by decide) ?_
  refine lv_iadd hx hb dL_law_564 ?_
  refine va_sld hx hb hXs hbl hbA hw.2.2.2.1 i1 dL_law_565 ?_
  refine lv_aload_n hx hb dL_law_566 rfl (hl.at rfl) ?_
  refine lv_iload_n hx hb dL_law_567 rfl (hl.at rfl) ?_
  refine lv_iconst (v := 2) hx hb dL_law_568 (by decide) ?_
  refine lv_iadd hx hb dL_law_569 ?_
  refine va_sld hx hb hXs hbl hbA hw.2.2.2.1 i2 dL_law_570 ?_
  refine w_callV C hN hw (c_X5_disk l s.heap.size D cs X1 Z1 [] S hS hMX hMR (xs (iv + 1).toNatClampNeg) (xs (iv + 2).toNatClampNeg)) ⟨(Nat.le_of_ble_eq_true rfl), (Nat.le_of_ble_eq_true rfl), mw562, mw6, cy_X5_disk⟩ mw559 mw560 mw561 (w_rec hw (c0 := 30) (i0 := 0) (hM 30 (by decide) (by decide)) rfl rfl) rfl hl.1.1 rfl (Nat.le_of_ble_eq_true rfl) dL_law_571 ⟨by show cells + k1 + 0 ≤ 600000; omega, by show slots + n1 + 0 ≤ 7302250; omega⟩ (fun X2 Z2 Y2 v2 k2 n2 H locs hp hw => ?_)
  obtain ⟨rfl, rfl, rfl, rfl, rfl, rfl⟩ := hp
  refine lv_icmp_eq (tgt := 681) hx hb dL_law_574 (by decide) (fun _ => ?_) (fun q => absurd rfl q)
  exact kk _ _ _ _ _ _ _ _ _ hw ⟨hKX.1 0 0 (Or.inl (by decide)), rfl, hS, hCX1, hCR1, hMX, hMR, by omega, by omega⟩

set_option maxHeartbeats 4000000 in
set_option maxRecDepth 100000 in
theorem law_c15 {p : Program} {l : Launch} {e : Env} {s : State} {m : MethodId} {below : List Frame} {meth : Method} {c : Code} {H : Heap} {locs : List Loc} {cells slots : Nat} {ls : Array Slot} {D : va_G} {cs : Nat → ClassId} {X : Sh} {Z : ZT} {S : HS} {h gp b a am L : Nat} {xs : Nat → Int32} {iv : Int32} {Q : State → Prop}
    (C : CallFix p m c cL_law 4 s #[Value.ref b] wsA RL) (hN : NW s) (hXs : va_X b L xs s s.heap) (hbl : b < s.heap.size) (hw : Wd s.heap.size D cs s X Z [] H locs) (hl : lo ls [some (.ref b), some (.ref a), some (.ref am), some (.int iv)]) (hV : LV a am X Z S h gp cells slots) (i1 : vp_in (iv + 1) L) (i2 : vp_in (iv + 2) L) (i3 : vp_in (iv + 3) L)
    (kk : ∀ (X1 : Sh) (Z1 : ZT) (S1 : HS) (h1 gp1 cells1 slots1 : Nat) (H1 : Heap) (locs1 : List Loc), Wd s.heap.size D cs s X1 Z1 [] H1 locs1 → LV a am X1 Z1 S1 h1 gp1 cells1 slots1 → W p l e room_1 s m #[Value.ref b] below meth c H1 locs1 cells1 slots1 Q (F0 m 681 ls [])) : W p l e room_1 s m #[Value.ref b] below meth c H locs cells slots Q (F0 m 579 ls []) := by
  obtain ⟨hx, hb, hml, hown, hts⟩ := id C
  have hbA : ¬ Asz s.heap.size b := Nat.not_le.mpr hbl
  obtain ⟨e0, e30, hS, hCX, hCR, hMX, hMR, hq, hz⟩ := hV
  subst e0
  have hX := hCX.1
  refine lv_aload_n hx hb dL_law_579 rfl (hl.at rfl) ?_
  refine lv_aload_n hx hb dL_law_580 rfl (hl.at rfl) ?_
  refine lv_iload_n hx hb dL_law_581 rfl (hl.at rfl) ?_
  refine lv_iconst (v := 1) hx hb dL_law_582 (by decide) ?_
  refine lv_iadd hx hb dL_law_583 ?_
  refine va_sld hx hb hXs hbl hbA hw.2.2.2.1 i1 dL_law_584 ?_
  refine lv_aload_n hx hb dL_law_585 rfl (hl.at rfl) ?_
  refine lv_iload_n hx hb dL_law_586 rfl (hl.at rfl) ?_
  refine lv_iconst (v := 2) hx hb dL_law_587 (by decide) ?_
  refine lv_iadd hx hb dL_law_588 ?_
  refine va_sld hx hb hXs hbl hbA hw.2.2.2.1 i2 dL_law_589 ?_
  refine w_callV C hN hw (c_X3_out l s.heap.size D cs X Z [] S hS hCX h gp hCR (xs (iv + 1).toNatClampNeg) (xs (iv + 2).toNatClampNeg)) ⟨(Nat.le_of_ble_eq_true rfl), (Nat.le_of_ble_eq_true rfl), mw566, mw3, cy_X3_out⟩ mw563 mw564 mw565 (w_rec hw (c0 := 0) (i0 := 0) (hX 0 (by decide)) rfl rfl) rfl hl.1.1 rfl (Nat.le_of_ble_eq_true rfl) dL_law_590 ⟨by show cells + 0 ≤ 600000; omega, by show slots + 0 ≤ 7302250; omega⟩ (fun X1 Z1 Y1 v1 k1 n1 H locs hp hw => ?_)
  obtain ⟨rfl, rfl, h1, gp1, hCX1, hCR1, hq1, hz1, hKX, h30⟩ := hp
  have e30 : X1.1 30 0 = am := (hKX.1 30 0 (Or.inr (by decide))).trans e30
  subst e30
  have hMX := hKX.mr hMX
  have hM := hMX.1
  have hMR := MR_rows hMR h30
  refine lv_aload_n hx hb dL_law_593 rfl (hl.at rfl) ?_
  refine lv_aload_n hx hb dL_law_594 rfl (hl.at rfl) ?_
  refine lv_iload_n hx hb dL_law_595 rfl (hl.at rfl) ?_
  refine lv_iconst (v := 1) hx hb dL_law_596 (by decide) ?_
  refine lv_iadd hx hb dL_law_597 ?_
  refine va_sld hx hb hXs hbl hbA hw.2.2.2.1 i1 dL_law_598 ?_
  refine lv_aload_n hx hb dL_law_599 rfl (hl.at rfl) ?_
  refine lv_iload_n hx hb dL_law_600 rfl (hl.at rfl) ?_
  refine lv_iconst (v := 2) hx hb dL_law_601 (by decide) ?_
  refine lv_iadd hx hb dL_law_602 ?_
  refine va_sld hx hb hXs hbl hbA hw.2.2.2.1 i2 dL_law_603 ?_
  refine w_callV C hN hw (c_X5_out l s.heap.size D cs X1 Z1 [] S hS hMX hMR (xs (iv + 1).toNatClampNeg) (xs (iv + 2).toNatClampNeg)) ⟨(Nat.le_of_ble_eq_true rfl), (Nat.le_of_ble_eq_true rfl), mw575, mw6, cy_X5_out⟩ mw572 mw573 mw574 (w_rec hw (c0 := 30) (i0 := 0) (hM 30 (by decide) (by decide)) rfl rfl) rfl hl.1.1 rfl (Nat.le_of_ble_eq_true rfl) dL_law_604 ⟨by show cells + k1 + 0 ≤ 600000; omega, by show slots + n1 + 0 ≤ 7302250; omega⟩ (fun X2 Z2 Y2 v2 k2 n2 H locs hp hw => ?_)
  obtain ⟨rfl, rfl, rfl, rfl, rfl, rfl⟩ := hp
  refine lv_icmp_eq (tgt := 681) hx hb dL_law_607 (by decide) (fun _ => ?_) (fun q => absurd rfl q)
  exact kk _ _ _ _ _ _ _ _ _ hw ⟨hKX.1 0 0 (Or.inl (by decide)), rfl, hS, hCX1, hCR1, hMX, hMR, by omega, by omega⟩

set_option maxHeartbeats 4000000 in
set_option maxRecDepth 100000 in
theorem law_c16 {p : Program} {l : Launch} {e : Env} {s : State} {m : MethodId} {below : List Frame} {meth : Method} {c : Code} {H : Heap} {locs : List Loc} {cells slots : Nat} {ls : Array Slot} {D : va_G} {cs : Nat → ClassId} {X : Sh} {Z : ZT} {S : HS} {h gp b a am L : Nat} {xs : Nat → Int32} {iv : Int32} {Q : State → Prop}
    (C : CallFix p m c cL_law 4 s #[Value.ref b] wsA RL) (hN : NW s) (hXs : va_X b L xs s s.heap) (hbl : b < s.heap.size) (hw : Wd s.heap.size D cs s X Z [] H locs) (hl : lo ls [some (.ref b), some (.ref a), some (.ref am), some (.int iv)]) (hV : LV a am X Z S h gp cells slots) (i1 : vp_in (iv + 1) L) (i2 : vp_in (iv + 2) L) (i3 : vp_in (iv + 3) L)
    (kk : ∀ (X1 : Sh) (Z1 : ZT) (S1 : HS) (h1 gp1 cells1 slots1 : Nat) (H1 : Heap) (locs1 : List Loc), Wd s.heap.size D cs s X1 Z1 [] H1 locs1 → LV a am X1 Z1 S1 h1 gp1 cells1 slots1 → W p l e room_1 s m #[Value.ref b] below meth c H1 locs1 cells1 slots1 Q (F0 m 681 ls [])) : W p l e room_1 s m #[Value.ref b] below meth c H locs cells slots Q (F0 m 612 ls []) := by
  obtain ⟨hx, hb, hml, hown, hts⟩ := id C
  have hbA : ¬ Asz s.heap.size b := Nat.not_le.mpr hbl
  obtain ⟨e0, e30, hS, hCX, hCR, hMX, hMR, hq, hz⟩ := hV
  subst e0
  have hX := hCX.1
  refine lv_aload_n hx hb dL_law_612 rfl (hl.at rfl) ?_
  refine lv_aload_n hx hb dL_law_613 rfl (hl.at rfl) ?_
  refine lv_iload_n hx hb dL_law_614 rfl (hl.at rfl) ?_
  refine lv_iconst (v := 1) hx hb dL_law_615 (by decide) ?_
  refine lv_iadd hx hb dL_law_616 ?_
  refine va_sld hx hb hXs hbl hbA hw.2.2.2.1 i1 dL_law_617 ?_
  refine lv_aload_n hx hb dL_law_618 rfl (hl.at rfl) ?_
  refine lv_iload_n hx hb dL_law_619 rfl (hl.at rfl) ?_
  refine lv_iconst (v := 2) hx hb dL_law_620 (by decide) ?_
  refine lv_iadd hx hb dL_law_621 ?_
  refine va_sld hx hb hXs hbl hbA hw.2.2.2.1 i2 dL_law_622 ?_
  refine w_callV C hN hw (c_X3_cached l s.heap.size D cs X Z [] S hS hCX h gp hCR (xs (iv + 1).toNatClampNeg) (xs (iv + 2).toNatClampNeg)) ⟨(Nat.le_of_ble_eq_true rfl), (Nat.le_of_ble_eq_true rfl), mw580, mw3, cy_X3_cached⟩ mw577 mw578 mw579 (w_rec hw (c0 := 0) (i0 := 0) (hX 0 (by decide)) rfl rfl) rfl hl.1.1 rfl (Nat.le_of_ble_eq_true rfl) dL_law_623 ⟨by show cells + 0 ≤ 600000; omega, by show slots + 0 ≤ 7302250; omega⟩ (fun X1 Z1 Y1 v1 k1 n1 H locs hp hw => ?_)
  obtain ⟨rfl, rfl, h1, gp1, hCX1, hCR1, hq1, hz1, hKX, h30⟩ := hp
  have e30 : X1.1 30 0 = am := (hKX.1 30 0 (Or.inr (by decide))).trans e30
  subst e30
  have hMX := hKX.mr hMX
  have hM := hMX.1
  have hMR := MR_rows hMR h30
  refine lv_aload_n hx hb dL_law_626 rfl (hl.at rfl) ?_
  refine lv_aload_n hx hb dL_law_627 rfl (hl.at rfl) ?_
  refine lv_iload_n hx hb dL_law_628 rfl (hl.at rfl) ?_
  refine lv_iconst (v := 1) hx hb dL_law_629 (by decide) ?_
  refine lv_iadd hx hb dL_law_630 ?_
  refine va_sld hx hb hXs hbl hbA hw.2.2.2.1 i1 dL_law_631 ?_
  refine lv_aload_n hx hb dL_law_632 rfl (hl.at rfl) ?_
  refine lv_iload_n hx hb dL_law_633 rfl (hl.at rfl) ?_
  refine lv_iconst (v := 2) hx hb dL_law_634 (by decide) ?_
  refine lv_iadd hx hb dL_law_635 ?_
  refine va_sld hx hb hXs hbl hbA hw.2.2.2.1 i2 dL_law_636 ?_
  refine w_callV C hN hw (c_X5_cached l s.heap.size D cs X1 Z1 [] S hS hMX hMR (xs (iv + 1).toNatClampNeg) (xs (iv + 2).toNatClampNeg)) ⟨(Nat.le_of_ble_eq_true rfl), (Nat.le_of_ble_eq_true rfl), mw584, mw6, cy_X5_cached⟩ mw581 mw582 mw583 (w_rec hw (c0 := 30) (i0 := 0) (hM 30 (by decide) (by decide)) rfl rfl) rfl hl.1.1 rfl (Nat.le_of_ble_eq_true rfl) dL_law_637 ⟨by show cells + k1 + 0 ≤ 600000; omega, by show slots + n1 + 0 ≤ 7302250; omega⟩ (fun X2 Z2 Y2 v2 k2 n2 H locs hp hw => ?_)
  obtain ⟨rfl, rfl, rfl, rfl, rfl, rfl⟩ := hp
  refine lv_icmp_eq (tgt := 681) hx hb dL_law_640 (by decide) (fun _ => ?_) (fun q => absurd rfl q)
  exact kk _ _ _ _ _ _ _ _ _ hw ⟨hKX.1 0 0 (Or.inl (by decide)), rfl, hS, hCX1, hCR1, hMX, hMR, by omega, by omega⟩

set_option maxHeartbeats 4000000 in
set_option maxRecDepth 100000 in
theorem law_c17 {p : Program} {l : Launch} {e : Env} {s : State} {m : MethodId} {below : List Frame} {meth : Method} {c : Code} {H : Heap} {locs : List Loc} {cells slots : Nat} {ls : Array Slot} {D : va_G} {cs : Nat → ClassId} {X : Sh} {Z : ZT} {S : HS} {h gp b a am L : Nat} {xs : Nat → Int32} {iv : Int32} {Q : State → Prop}
    (C : CallFix p m c cL_law 4 s #[Value.ref b] wsA RL) (hN : NW s) (hXs : va_X b L xs s s.heap) (hbl : b < s.heap.size) (hw : Wd s.heap.size D cs s X Z [] H locs) (hl : lo ls [some (.ref b), some (.ref a), some (.ref am), some (.int iv)]) (hV : LV a am X Z S h gp cells slots) (i1 : vp_in (iv + 1) L) (i2 : vp_in (iv + 2) L) (i3 : vp_in (iv + 3) L)
    (kk : ∀ (X1 : Sh) (Z1 : ZT) (S1 : HS) (h1 gp1 cells1 slots1 : Nat) (H1 : Heap) (locs1 : List Loc), Wd s.heap.size D cs s X1 Z1 [] H1 locs1 → LV a am X1 Z1 S1 h1 gp1 cells1 slots1 → W p l e room_1 s m #[Value.ref b] below meth c H1 locs1 cells1 slots1 Q (F0 m 681 ls [])) : W p l e room_1 s m #[Value.ref b] below meth c H locs cells slots Q (F0 m 645 ls []) := by
  obtain ⟨hx, hb, hml, hown, hts⟩ := id C
  have hbA : ¬ Asz s.heap.size b := Nat.not_le.mpr hbl
  obtain ⟨e0, e30, hS, hCX, hCR, hMX, hMR, hq, hz⟩ := hV
  subst e0
  have hX := hCX.1
  refine lv_aload_n hx hb dL_law_645 rfl (hl.at rfl) ?_
  refine lv_aload_n hx hb dL_law_646 rfl (hl.at rfl) ?_
  refine lv_iload_n hx hb dL_law_647 rfl (hl.at rfl) ?_
  refine lv_iconst (v := 1) hx hb dL_law_648 (by decide) ?_
  refine lv_iadd hx hb dL_law_649 ?_
  refine va_sld hx hb hXs hbl hbA hw.2.2.2.1 i1 dL_law_650 ?_
  refine w_callV C hN hw (c_X3_house l s.heap.size D cs X Z [] S hS hCX h gp hCR (xs (iv + 1).toNatClampNeg)) ⟨(Nat.le_of_ble_eq_true rfl), (Nat.le_of_ble_eq_true rfl), mw590, mw3, cy_X3_house⟩ mw587 mw588 mw589 (w_rec hw (c0 := 0) (i0 := 0) (hX 0 (by decide)) rfl rfl) rfl hl.1.1 rfl (Nat.le_of_ble_eq_true rfl) dL_law_651 ⟨by show cells + 0 ≤ 600000; omega, by show slots + 0 ≤ 7302250; omega⟩ (fun X1 Z1 Y1 v1 k1 n1 H locs hp hw => ?_)
  obtain ⟨rfl, rfl, h1, gp1, hCX1, hCR1, hq1, hz1, hKX, h30⟩ := hp
  have e30 : X1.1 30 0 = am := (hKX.1 30 0 (Or.inr (by decide))).trans e30
  subst e30
  have hMX := hKX.mr hMX
  have hM := hMX.1
  have hMR := MR_rows hMR h30
  refine lv_aload_n hx hb dL_law_654 rfl (hl.at rfl) ?_
  refine lv_aload_n hx hb dL_law_655 rfl (hl.at rfl) ?_
  refine lv_iload_n hx hb dL_law_656 rfl (hl.at rfl) ?_
  refine lv_iconst (v := 1) hx hb dL_law_657 (by decide) ?_
  refine lv_iadd hx hb dL_law_658 ?_
  refine va_sld hx hb hXs hbl hbA hw.2.2.2.1 i1 dL_law_659 ?_
  refine w_callV C hN hw (c_X5_house l s.heap.size D cs X1 Z1 [] S hS hMX hMR (xs (iv + 1).toNatClampNeg)) ⟨(Nat.le_of_ble_eq_true rfl), (Nat.le_of_ble_eq_true rfl), mw598, mw6, cy_X5_house⟩ mw595 mw596 mw597 (w_rec hw (c0 := 30) (i0 := 0) (hM 30 (by decide) (by decide)) rfl rfl) rfl hl.1.1 rfl (Nat.le_of_ble_eq_true rfl) dL_law_660 ⟨by show cells + k1 + 0 ≤ 600000; omega, by show slots + n1 + 0 ≤ 7302250; omega⟩ (fun X2 Z2 Y2 v2 k2 n2 H locs hp hw => ?_)
  obtain ⟨rfl, rfl, rfl, rfl, rfl, rfl⟩ := hp
  refine lv_icmp_eq (tgt := 681) hx hb dL_law_663 (by decide) (fun _ => ?_) (fun q => absurd rfl q)
  exact kk _ _ _ _ _ _ _ _ _ hw ⟨hKX.1 0 0 (Or.inl (by decide)), rfl, hS, hCX1, hCR1, hMX, hMR, by omega, by omega⟩

set_option maxHeartbeats 4000000 in
set_option maxRecDepth 100000 in
theorem law_c18 {p : Program} {l : Launch} {e : Env} {s : State} {m : MethodId} {below : List Frame} {meth : Method} {c : Code} {H : Heap} {locs : List Loc} {cells slots : Nat} {ls : Array Slot} {D : va_G} {cs : Nat → ClassId} {X : Sh} {Z : ZT} {S : HS} {h gp b a am L : Nat} {xs : Nat → Int32} {iv : Int32} {Q : State → Prop}
    (C : CallFix p m c cL_law 4 s #[Value.ref b] wsA RL) (hN : NW s) (hXs : va_X b L xs s s.heap) (hbl : b < s.heap.size) (hw : Wd s.heap.size D cs s X Z [] H locs) (hl : lo ls [some (.ref b), some (.ref a), some (.ref am), some (.int iv)]) (hV : LV a am X Z S h gp cells slots) (i1 : vp_in (iv + 1) L) (i2 : vp_in (iv + 2) L) (i3 : vp_in (iv + 3) L)
    (kk : ∀ (X1 : Sh) (Z1 : ZT) (S1 : HS) (h1 gp1 cells1 slots1 : Nat) (H1 : Heap) (locs1 : List Loc), Wd s.heap.size D cs s X1 Z1 [] H1 locs1 → LV a am X1 Z1 S1 h1 gp1 cells1 slots1 → W p l e room_1 s m #[Value.ref b] below meth c H1 locs1 cells1 slots1 Q (F0 m 681 ls [])) : W p l e room_1 s m #[Value.ref b] below meth c H locs cells slots Q (F0 m 668 ls []) := by
  obtain ⟨hx, hb, hml, hown, hts⟩ := id C
  have hbA : ¬ Asz s.heap.size b := Nat.not_le.mpr hbl
  obtain ⟨e0, e30, hS, hCX, hCR, hMX, hMR, hq, hz⟩ := hV
  subst e0
  have hX := hCX.1
  refine lv_aload_n hx hb dL_law_668 rfl (hl.at rfl) ?_
  refine w_callV C hN hw (c_X3_audit l s.heap.size D cs X Z [] S hS hCX h gp hCR ) ⟨(Nat.le_of_ble_eq_true rfl), (Nat.le_of_ble_eq_true rfl), mw602, mw3, cy_X3_audit⟩ mw599 mw600 mw601 (w_rec hw (c0 := 0) (i0 := 0) (hX 0 (by decide)) rfl rfl) rfl hl.1.1 rfl (Nat.le_of_ble_eq_true rfl) dL_law_669 ⟨by show cells + 0 ≤ 600000; omega, by show slots + 0 ≤ 7302250; omega⟩ (fun X1 Z1 Y1 v1 k1 n1 H locs hp hw => ?_)
  obtain ⟨rfl, rfl, h1, gp1, hCX1, hCR1, hq1, hz1, hKX, h30⟩ := hp
  have e30 : X1.1 30 0 = am := (hKX.1 30 0 (Or.inr (by decide))).trans e30
  subst e30
  have hMX := hKX.mr hMX
  have hM := hMX.1
  have hMR := MR_rows hMR h30
  refine lv_aload_n hx hb dL_law_672 rfl (hl.at rfl) ?_
  refine w_callV C hN hw (c_X5_audit l s.heap.size D cs X1 Z1 [] S hS hMX hMR ) ⟨(Nat.le_of_ble_eq_true rfl), (Nat.le_of_ble_eq_true rfl), mw635, mw6, cy_X5_audit⟩ mw632 mw633 mw634 (w_rec hw (c0 := 30) (i0 := 0) (hM 30 (by decide) (by decide)) rfl rfl) rfl hl.1.1 rfl (Nat.le_of_ble_eq_true rfl) dL_law_673 ⟨by show cells + k1 + 0 ≤ 600000; omega, by show slots + n1 + 0 ≤ 7302250; omega⟩ (fun X2 Z2 Y2 v2 k2 n2 H locs hp hw => ?_)
  obtain ⟨rfl, rfl, rfl, rfl, rfl, rfl⟩ := hp
  refine lv_icmp_eq (tgt := 681) hx hb dL_law_676 (by decide) (fun _ => ?_) (fun q => absurd rfl q)
  exact kk _ _ _ _ _ _ _ _ _ hw ⟨hKX.1 0 0 (Or.inl (by decide)), rfl, hS, hCX1, hCR1, hMX, hMR, by omega, by omega⟩
