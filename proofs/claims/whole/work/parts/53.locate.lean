set_option maxHeartbeats 4000000 in
set_option maxRecDepth 100000 in
theorem c_X2_locate (l : Launch) (sz0 : Nat) (D : va_G) (cs : Nat → ClassId) (X : Sh) (Z : ZT) (Y : va_W) (hX : HXI X) (hU : HUI X) (i : Nat) (hG : GI X i) (h gp kc ks F : Nat) (g : GS) (hI : HI X Z h gp) (hL : GL X Z i F) (hR : GR Z i F g) (hV : GInv F g) (a kind : Int32) (hkd : kind ≠ 0) (hkc : gp ≤ kc) (hks : 32832 * gp ≤ ks) : Ctr l yX2_locate (wsM yX2_locate cX2_locate 10 (some .int)) ({ frames := 5, cells := kc, slots := ks, locals := 122 } : Room) sz0 D cs [.ref (X.1 12 0), .ref (X.1 20 i), .int a, .int kind] X Z Y (fun X' Z' Y' v k n => Y = Y' ∧ ∃ gp', SFp X Z h i gp X' Z' k n gp' ∧ GR Z' i F (locS F g a kind).1 ∧ v = some (.int (locS F g a kind).2.2.2) ∧ Z' 12 0 = (if (locS F g a kind).2.1 = 0 then Z 12 0 else upd (upd (Z 12 0) 1 (locS F g a kind).2.1) 2 (locS F g a kind).2.2.1)) := by
  refine Ctr.ofW (by decide +kernel) (by intro v hv; simp at hv; rcases hv with rfl | rfl | rfl | rfl <;> rfl) (Nat.le_of_ble_eq_true rfl) ?_
  intro p e s m below meth c ls C hr hlocks hname hl hN hw
  obtain ⟨hx, hb, hml, hown, hts⟩ := id C
  have hL0 := hL
  obtain ⟨hi, hgf, hF6, hF1, hF64⟩ := hL
  have hR0 := hR
  obtain ⟨h0, h1, h2, h3, h4, h5, h6, h7⟩ := hR
  refine lv_aload_n hx hb dX2_locate_0 rfl (hl.at rfl) ?_
  refine w_getN C hN hw (c0 := 20) (i0 := i) rfl inA0 10 (by decide) mw653 rfl dX2_locate_1 (hG 20 (by decide) (by decide)) rfl rfl rfl ?_
  refine lv_iconst (v := 5) hx hb dX2_locate_4 (by decide) ?_
  refine w_ild C hw (c0 := 24) (i0 := i) dX2_locate_5 (hG 24 (by decide) (by decide)) rfl rfl (vpk (by decide)) (j := 5) (by decide) ?_
  rw [h4 5 (by decide)]
  refine w_istore hx hb dX2_locate_6 hl (Nat.le_of_ble_eq_true rfl) (fun ls hl => ?_)
  refine lv_iload hx hb dX2_locate_8 (hl.at rfl) ?_
  refine lv_if_lt (tgt := 32) hx hb dX2_locate_10 (by decide) (fun h10 => ?_) (fun h10 => ?_)
  · refine lv_iload_n hx hb dX2_locate_32 rfl (hl.at rfl) ?_
    refine lv_if_lt (tgt := 43) hx hb dX2_locate_33 (by decide) (fun h33 => ?_) (fun h33 => ?_)
    · have eL : locS F g a kind = (g, kind, a, -1) := by unfold locS; rw [if_neg (fun q => q h10), if_pos (Or.inl h33)]
      refine lv_aload_n hx hb dX2_locate_43 rfl (hl.at rfl) ?_
      refine lv_iload_n hx hb dX2_locate_44 rfl (hl.at rfl) ?_
      refine lv_iload_n hx hb dX2_locate_45 rfl (hl.at rfl) ?_
      refine w_callV C hN hw (c_X2_refuse l sz0 D cs X _ Y hX kind a) ⟨(Nat.le_of_ble_eq_true rfl), (Nat.le_of_ble_eq_true rfl), mw360, mw19, cy_X2_refuse⟩ mw357 mw358 mw359 (w_rec hw (c0 := 12) (i0 := 0) (hX 12 (by decide)) rfl rfl) rfl hl.1.1 rfl (Nat.le_of_ble_eq_true rfl) dX2_locate_46 ⟨by show 0 + 0 ≤ kc; omega, by show 0 + 0 ≤ ks; omega⟩ (fun X' Z' Y' v k n H locs hp hw => ?_)
      obtain ⟨rfl, rfl, rfl, rfl, rfl, rfl⟩ := hp
      refine w_iret C hw hr hlocks dX2_locate_49 ⟨rfl, gp, SFp.ofU hI (Or.inr (Or.inl ⟨rfl, rfl⟩)), ?_, ?_, ?_⟩
      · rw [eL]; exact GR_12 hR0
      · rw [eL]
      · rw [eL, upr_s, if_neg hkd]
    · refine lv_iload_n hx hb dX2_locate_36 rfl (hl.at rfl) ?_
      refine lv_sipush (v := 16384) hx hb dX2_locate_37 (by decide) ?_
      refine lv_icmp_lt (tgt := 50) hx hb dX2_locate_40 (by decide) (fun h40 => ?_) (fun h40 => ?_)
      · obtain ⟨pg, hp, ep⟩ := page_of h33 h40
        have eL0 : locS F g a kind = if g 5 pg = -1 then if hasWv (nI F) (64 * (g 4 5 &&& 63) + nI pg) = 0 then (g, 5, a, -1) else if g 1 (64 * (g 4 5 &&& 63) + nI pg).toNatClampNeg &&& 1 = 0 ∨ ¬ ((g 1 (64 * (g 4 5 &&& 63) + nI pg).toNatClampNeg >>> ((8 : Int32) &&& 31)) &&& 63) < nI F then (g, kind, a, -1) else locF (gu (gu g 1 (64 * (g 4 5 &&& 63) + nI pg).toNatClampNeg (g 1 (64 * (g 4 5 &&& 63) + nI pg).toNatClampNeg ||| 8)) 5 pg (entS (g 1 (64 * (g 4 5 &&& 63) + nI pg).toNatClampNeg))) pg (64 * (g 4 5 &&& 63) + nI pg).toNatClampNeg a kind (entS (g 1 (64 * (g 4 5 &&& 63) + nI pg).toNatClampNeg)) else locF g pg (64 * (g 4 5 &&& 63) + nI pg).toNatClampNeg a kind (g 5 pg) := by
          unfold locS
          rw [if_neg (fun q => q h10), if_neg (fun q => q.elim h33 (fun q => q h40)), ep, nI_clamp (show pg < 2 ^ 31 by omega)]
        refine lv_iload_n hx hb dX2_locate_50 rfl (hl.at rfl) ?_
        refine lv_bipush (v := 6) hx hb dX2_locate_51 (by decide) ?_
        refine lv_ishr hx hb dX2_locate_53 ?_
        rw [ep]
        refine w_istore hx hb dX2_locate_54 hl (Nat.le_of_ble_eq_true rfl) (fun ls hl => ?_)
        refine lv_bipush (v := 64) hx hb dX2_locate_56 (by decide) ?_
        refine lv_iload hx hb dX2_locate_58 (hl.at rfl) ?_
        refine lv_bipush (v := 63) hx hb dX2_locate_60 (by decide) ?_
        refine lv_iand hx hb dX2_locate_62 ?_
        refine lv_imul hx hb dX2_locate_63 ?_
        refine lv_iload hx hb dX2_locate_64 (hl.at rfl) ?_
        refine lv_iadd hx hb dX2_locate_66 ?_
        obtain ⟨tb, etb⟩ : ∃ tb, tb = 64 * (g 4 5 &&& 63) + nI pg := ⟨_, rfl⟩
        rw [← etb] at eL0 ⊢
        refine w_istore hx hb dX2_locate_67 hl (Nat.le_of_ble_eq_true rfl) (fun ls hl => ?_)
        refine lv_aload_n hx hb dX2_locate_69 rfl (hl.at rfl) ?_
        refine w_getN C hN hw (c0 := 20) (i0 := i) rfl inA0 11 (by decide) mw654 rfl dX2_locate_70 (hG 20 (by decide) (by decide)) rfl rfl rfl ?_
        refine lv_iload hx hb dX2_locate_73 (hl.at rfl) ?_
        refine w_ild C hw (c0 := 25) (i0 := i) dX2_locate_75 (hG 25 (by decide) (by decide)) rfl rfl (vp_in_nI hp (by omega)) (nI_clamp (by omega)) ?_
        rw [h5 pg hp]
        refine w_istore hx hb dX2_locate_76 hl (Nat.le_of_ble_eq_true rfl) (fun ls hl => ?_)
        refine lv_iload hx hb dX2_locate_78 (hl.at rfl) ?_
        refine lv_iconst (v := -1) hx hb dX2_locate_80 (by decide) ?_
        have fin : ∀ (X1 : Sh) (Z1 : ZT) (K N gp1 tn : Nat) (g1 : GS) (en : Int32) (H : Heap) (locs : List Loc) (ls : Array Slot) (sa sb sr : Option Value), lo ls [some (.ref (X.1 12 0)), some (.ref (X.1 20 i)), some (.int a), some (.int kind), sr, some (.int (nI pg)), some (.int tb), some (.int en), sa, sb] → Wd sz0 D cs s X1 Z1 Y H locs → SFp X Z h i gp X1 Z1 K N gp1 → GR Z1 i F g1 → Z1 12 0 = Z 12 0 → tn < 64 * F → tb = nI tn → locS F g a kind = locF g1 pg tn a kind en → W p l e ({ frames := 5, cells := kc, slots := ks, locals := 122 } : Room) s m ([.ref (X.1 12 0), .ref (X.1 20 i), .int a, .int kind] : List Value).toArray below meth c H locs K N (xQ below (CQ sz0 D cs (fun X' Z' Y' v k n => Y = Y' ∧ ∃ gp', SFp X Z h i gp X' Z' k n gp' ∧ GR Z' i F (locS F g a kind).1 ∧ v = some (.int (locS F g a kind).2.2.2) ∧ Z' 12 0 = (if (locS F g a kind).2.1 = 0 then Z 12 0 else upd (upd (Z 12 0) 1 (locS F g a kind).2.1) 2 (locS F g a kind).2.2.1))) ([.ref (X.1 12 0), .ref (X.1 20 i), .int a, .int kind] : List Value).toArray s (Asz sz0)) (F0 m 189 ls []) := by
          intro X1 Z1 K N gp1 tn g1 en H locs ls sa sb sr hl hw hS hR1 h12 htn etn eL
          have hS0 := hS
          have hL1 := hS.gl hL0
          obtain ⟨⟨V1, rfl⟩, hI1, hk1, hn1, -⟩ := hS
          have hm : Z1 20 i 3 = g1 0 3 := hR1.1.2.2.1
          unfold locF at eL
          have refd : ((g1 0 3 = 0 ∧ en &&& 2 = 0) ∨ (kind = 13 ∧ en &&& 1 = 0)) → W p l e ({ frames := 5, cells := kc, slots := ks, locals := 122 } : Room) s m ([.ref (X.1 12 0), .ref (X.1 20 i), .int a, .int kind] : List Value).toArray below meth c H locs K N (xQ below (CQ sz0 D cs (fun X' Z' Y' v k n => Y = Y' ∧ ∃ gp', SFp X Z h i gp X' Z' k n gp' ∧ GR Z' i F (locS F g a kind).1 ∧ v = some (.int (locS F g a kind).2.2.2) ∧ Z' 12 0 = (if (locS F g a kind).2.1 = 0 then Z 12 0 else upd (upd (Z 12 0) 1 (locS F g a kind).2.1) 2 (locS F g a kind).2.2.1))) ([.ref (X.1 12 0), .ref (X.1 20 i), .int a, .int kind] : List Value).toArray s (Asz sz0)) (F0 m 216 ls []) := by
            intro hq
            rw [if_pos hq] at eL
            refine lv_aload_n hx hb dX2_locate_216 rfl (hl.at rfl) ?_
            refine lv_iload_n hx hb dX2_locate_217 rfl (hl.at rfl) ?_
            refine lv_iload_n hx hb dX2_locate_218 rfl (hl.at rfl) ?_
            refine w_callV C hN hw (c_X2_refuse l sz0 D cs (X.1, V1, X.2.2) Z1 Y hX kind a) ⟨(Nat.le_of_ble_eq_true rfl), (Nat.le_of_ble_eq_true rfl), mw360, mw19, cy_X2_refuse⟩ mw357 mw358 mw359 (w_rec hw (c0 := 12) (i0 := 0) (hX 12 (by decide)) rfl rfl) rfl hl.1.1 rfl (Nat.le_of_ble_eq_true rfl) dX2_locate_219 ⟨by show K + 0 ≤ kc; omega, by show N + 0 ≤ ks; omega⟩ (fun X' Z' Y' v k n H locs hp hw => ?_)
            obtain ⟨rfl, rfl, rfl, rfl, rfl, rfl⟩ := hp
            refine w_iret C hw hr hlocks dX2_locate_222 ⟨rfl, gp1, hS0.trans (SFp.ofU hI1 (Or.inr (Or.inl ⟨rfl, rfl⟩))), ?_, ?_, ?_⟩
            · rw [eL]; exact GR_12 hR1
            · rw [eL]
            · rw [eL, upr_s, if_neg hkd, h12]
          have okay : ¬ ((g1 0 3 = 0 ∧ en &&& 2 = 0) ∨ (kind = 13 ∧ en &&& 1 = 0)) → W p l e ({ frames := 5, cells := kc, slots := ks, locals := 122 } : Room) s m ([.ref (X.1 12 0), .ref (X.1 20 i), .int a, .int kind] : List Value).toArray below meth c H locs K N (xQ below (CQ sz0 D cs (fun X' Z' Y' v k n => Y = Y' ∧ ∃ gp', SFp X Z h i gp X' Z' k n gp' ∧ GR Z' i F (locS F g a kind).1 ∧ v = some (.int (locS F g a kind).2.2.2) ∧ Z' 12 0 = (if (locS F g a kind).2.1 = 0 then Z 12 0 else upd (upd (Z 12 0) 1 (locS F g a kind).2.1) 2 (locS F g a kind).2.2.1))) ([.ref (X.1 12 0), .ref (X.1 20 i), .int a, .int kind] : List Value).toArray s (Asz sz0)) (F0 m 223 ls []) := by
            intro hq
            rw [if_neg hq] at eL
            have last : ∀ (X2 : Sh) (Z2 : ZT) (K2 N2 gp2 : Nat) (g2 : GS) (H : Heap) (locs : List Loc) (ls : Array Slot) (sa sb sr sp st : Option Value), lo ls [some (.ref (X.1 12 0)), some (.ref (X.1 20 i)), some (.int a), some (.int kind), sr, sp, st, some (.int en), sa, sb] → Wd sz0 D cs s X2 Z2 Y H locs → SFp X Z h i gp X2 Z2 K2 N2 gp2 → GR Z2 i F g2 → Z2 12 0 = Z 12 0 → locS F g a kind = (g2, 0, 0, (en >>> ((3 : Int32) &&& 31)) * 64 + (a &&& 63)) → W p l e ({ frames := 5, cells := kc, slots := ks, locals := 122 } : Room) s m ([.ref (X.1 12 0), .ref (X.1 20 i), .int a, .int kind] : List Value).toArray below meth c H locs K2 N2 (xQ below (CQ sz0 D cs (fun X' Z' Y' v k n => Y = Y' ∧ ∃ gp', SFp X Z h i gp X' Z' k n gp' ∧ GR Z' i F (locS F g a kind).1 ∧ v = some (.int (locS F g a kind).2.2.2) ∧ Z' 12 0 = (if (locS F g a kind).2.1 = 0 then Z 12 0 else upd (upd (Z 12 0) 1 (locS F g a kind).2.1) 2 (locS F g a kind).2.2.1))) ([.ref (X.1 12 0), .ref (X.1 20 i), .int a, .int kind] : List Value).toArray s (Asz sz0)) (F0 m 270 ls []) := by
              intro X2 Z2 K2 N2 gp2 g2 H locs ls sa sb sr sp st hl hw hS2 hR2 h122 eL2
              refine lv_iload hx hb dX2_locate_270 (hl.at rfl) ?_
              refine lv_iconst (v := 3) hx hb dX2_locate_272 (by decide) ?_
              refine lv_ishr hx hb dX2_locate_273 ?_
              refine lv_bipush (v := 64) hx hb dX2_locate_274 (by decide) ?_
              refine lv_imul hx hb dX2_locate_276 ?_
              refine lv_iload_n hx hb dX2_locate_277 rfl (hl.at rfl) ?_
              refine lv_bipush (v := 63) hx hb dX2_locate_278 (by decide) ?_
              refine lv_iand hx hb dX2_locate_280 ?_
              refine lv_iadd hx hb dX2_locate_281 ?_
              exact w_iret C hw hr hlocks dX2_locate_282 ⟨rfl, gp2, hS2, by rw [eL2]; exact hR2, by rw [eL2], by rw [eL2, if_pos rfl]; exact h122⟩
            refine lv_iload_n hx hb dX2_locate_223 rfl (hl.at rfl) ?_
            refine lv_bipush (v := 13) hx hb dX2_locate_224 (by decide) ?_
            refine lv_icmp_ne (tgt := 270) hx hb dX2_locate_226 (by decide) (fun h226 => ?_) (fun h226 => ?_)
            · rw [if_neg (fun q => h226 q.1)] at eL
              exact last _ _ _ _ _ _ _ _ _ _ _ _ _ _ hl hw hS0 hR1 h12 eL
            · refine lv_iload hx hb dX2_locate_229 (hl.at rfl) ?_
              refine lv_iconst (v := 4) hx hb dX2_locate_231 (by decide) ?_
              refine lv_iand hx hb dX2_locate_232 ?_
              refine lv_if_ne (tgt := 270) hx hb dX2_locate_233 (by decide) (fun h233 => ?_) (fun h233 => ?_)
              · rw [if_neg (fun q => h233 q.2)] at eL
                exact last _ _ _ _ _ _ _ _ _ _ _ _ _ _ hl hw hS0 hR1 h12 eL
              · rw [if_pos ⟨h226, h233⟩] at eL
                refine lv_aload_n hx hb dX2_locate_236 rfl (hl.at rfl) ?_
                refine w_get C hw (c0 := 12) (i0 := 0) rfl inA2 0 (by decide) mw41 rfl dX2_locate_237 (hX 12 (by decide)) rfl rfl rfl ?_
                refine lv_aload_n hx hb dX2_locate_240 rfl (hl.at rfl) ?_
                refine lv_iload hx hb dX2_locate_241 (hl.at rfl) ?_
                refine lv_aload_n hx hb dX2_locate_243 rfl (hl.at rfl) ?_
                refine w_get C hw (c0 := 12) (i0 := 0) rfl inA2 0 (by decide) mw41 rfl dX2_locate_244 (hX 12 (by decide)) rfl rfl rfl ?_
                refine lv_aload_n hx hb dX2_locate_247 rfl (hl.at rfl) ?_
                refine lv_iload hx hb dX2_locate_248 (hl.at rfl) ?_
                refine w_callV C hN hw (c_X1_read l sz0 D cs (X.1, V1, X.2.2) Z1 Y hX hU i hG h gp1 gp1 (32832 * gp1) F hI1 hL1 tb (Nat.le_refl _) (Nat.le_refl _)) ⟨(Nat.le_of_ble_eq_true rfl), (Nat.le_of_ble_eq_true rfl), mw364, mw15, cy_X1_read⟩ mw361 mw362 mw363 (w_rec hw (c0 := 2) (i0 := 0) (hX 2 (by decide)) rfl rfl) rfl hl.1.1 rfl (Nat.le_of_ble_eq_true rfl) dX2_locate_250 ⟨by show K + gp1 ≤ kc; omega, by show N + 32832 * gp1 ≤ ks; omega⟩ (fun X2 Z2 Y2 v2 k2 n2 H locs hp hw => ?_)
                obtain ⟨rfl, rfl, hM2⟩ := hp
                have hR2 := GR_HMs hM2 hi hL1.2.1 hR1
                obtain ⟨gp2, hS2⟩ := SFp.ofHM (i := i) hM2 (fun _ _ _ _ => rfl)
                have h122 := hM2.r12
                have hS20 := hS2
                have hL2 := hS2.gl hL1
                obtain ⟨⟨V2, rfl⟩, hI2, hk2, hn2, -⟩ := hS2
                rw [show rdv Z1 i F tb = g1 1 tn by rw [etn]; exact rdv_g hF64 htn hR1]
                refine lv_bipush (v := 16) hx hb dX2_locate_253 (by decide) ?_
                refine lv_ior hx hb dX2_locate_255 ?_
                refine w_callV C hN hw (c_X1_write l sz0 D cs (X.1, V2, X.2.2) Z2 Y hX hU i hG h gp2 gp2 (32832 * gp2) F hI2 hL2 tb (g1 1 tn ||| 16) (Nat.le_refl _) (Nat.le_refl _)) ⟨(Nat.le_of_ble_eq_true rfl), (Nat.le_of_ble_eq_true rfl), mw189, mw15, cy_X1_write⟩ mw365 mw187 mw188 (w_rec hw (c0 := 2) (i0 := 0) (hX 2 (by decide)) rfl rfl) rfl hl.1.1 rfl (Nat.le_of_ble_eq_true rfl) dX2_locate_256 ⟨by show K + k2 + gp2 ≤ kc; omega, by show N + n2 + 32832 * gp2 ≤ ks; omega⟩ (fun X3 Z3 Y3 v3 k3 n3 H locs hp hw => ?_)
                obtain ⟨rfl, rfl, hM3⟩ := hp
                have hR3 := GR_write hM3 hL2 htn etn hR2
                obtain ⟨gp3, hS3⟩ := SFp.ofW hM3
                have h123 := hM3.r12
                have hS30 := hS3
                obtain ⟨⟨V3, rfl⟩, hI3, hk3, hn3, -⟩ := hS3
                refine lv_aload_n hx hb dX2_locate_259 rfl (hl.at rfl) ?_
                refine w_getN C hN hw (c0 := 20) (i0 := i) rfl inA0 11 (by decide) mw654 rfl dX2_locate_260 (hG 20 (by decide) (by decide)) rfl rfl rfl ?_
                refine lv_iload hx hb dX2_locate_263 (hl.at rfl) ?_
                refine lv_iload hx hb dX2_locate_265 (hl.at rfl) ?_
                refine lv_iconst (v := 4) hx hb dX2_locate_267 (by decide) ?_
                refine lv_ior hx hb dX2_locate_268 ?_
                refine w_ist C hw (c0 := 25) (i0 := i) dX2_locate_269 (hG 25 (by decide) (by decide)) rfl (fun _ => rfl) (vp_in_nI hp (by omega)) (nI_clamp (by omega)) (fun H locs hw => ?_)
                refine last _ _ _ _ _ _ _ _ _ _ _ _ _ _ hl hw (((hS0.trans hS20).trans hS30).trans (SFp.ofU hI3 (Or.inl ⟨rfl, by decide, by decide⟩))) (GR_25 hR3) ?_ eL
                rw [upr_k (by decide), h123, h122, h12]
          refine lv_aload_n hx hb dX2_locate_189 rfl (hl.at rfl) ?_
          refine w_getN C hN hw (c0 := 20) (i0 := i) rfl inA0 3 (by decide) mw644 rfl dX2_locate_190 (hG 20 (by decide) (by decide)) rfl rfl rfl ?_
          rw [hm]
          refine lv_if_ne (tgt := 203) hx hb dX2_locate_193 (by decide) (fun h193 => ?_) (fun h193 => ?_)
          · refine lv_iload_n hx hb dX2_locate_203 rfl (hl.at rfl) ?_
            refine lv_bipush (v := 13) hx hb dX2_locate_204 (by decide) ?_
            refine lv_icmp_ne (tgt := 223) hx hb dX2_locate_206 (by decide) (fun h206 => ?_) (fun h206 => ?_)
            · exact okay (fun q => q.elim (fun q => h193 q.1) (fun q => h206 q.1))
            · refine lv_iload hx hb dX2_locate_209 (hl.at rfl) ?_
              refine lv_iconst (v := 1) hx hb dX2_locate_211 (by decide) ?_
              refine lv_iand hx hb dX2_locate_212 ?_
              refine lv_if_ne (tgt := 223) hx hb dX2_locate_213 (by decide) (fun h213 => ?_) (fun h213 => ?_)
              · exact okay (fun q => q.elim (fun q => h193 q.1) (fun q => h213 q.2))
              · exact refd (Or.inr ⟨h206, h213⟩)
          · refine lv_iload hx hb dX2_locate_196 (hl.at rfl) ?_
            refine lv_iconst (v := 2) hx hb dX2_locate_198 (by decide) ?_
            refine lv_iand hx hb dX2_locate_199 ?_
            refine lv_if_eq (tgt := 216) hx hb dX2_locate_200 (by decide) (fun h200 => ?_) (fun h200 => ?_)
            · exact refd (Or.inl ⟨h193, h200⟩)
            · refine lv_iload_n hx hb dX2_locate_203 rfl (hl.at rfl) ?_
              refine lv_bipush (v := 13) hx hb dX2_locate_204 (by decide) ?_
              refine lv_icmp_ne (tgt := 223) hx hb dX2_locate_206 (by decide) (fun h206 => ?_) (fun h206 => ?_)
              · exact okay (fun q => q.elim (fun q => h200 q.2) (fun q => h206 q.1))
              · refine lv_iload hx hb dX2_locate_209 (hl.at rfl) ?_
                refine lv_iconst (v := 1) hx hb dX2_locate_211 (by decide) ?_
                refine lv_iand hx hb dX2_locate_212 ?_
                refine lv_if_ne (tgt := 223) hx hb dX2_locate_213 (by decide) (fun h213 => ?_) (fun h213 => ?_)
                · exact okay (fun q => q.elim (fun q => h200 q.2) (fun q => h213 q.2))
                · exact refd (Or.inr ⟨h206, h213⟩)
        refine lv_icmp_ne (tgt := 189) hx hb dX2_locate_81 (by decide) (fun h81 => ?_) (fun h81 => ?_)
        · rw [if_neg h81] at eL0
          have hin : ¬ hasWv (nI F) tb = 0 := by
            rcases hV.2.2.2 pg hp with q | ⟨_, -, -, -, q⟩
            · exact absurd q h81
            · rw [etb]; exact q
          obtain ⟨tn, htn, etn⟩ := hasWv_in hF64 hin
          rw [etn, nI_clamp (by omega)] at eL0
          exact fin _ _ _ _ _ tn _ _ _ _ _ _ _ _ hl hw (SFp.refl hI) hR0 rfl htn etn eL0
        · rw [if_pos h81] at eL0
          refine lv_aload_n hx hb dX2_locate_84 rfl (hl.at rfl) ?_
          refine lv_iload hx hb dX2_locate_85 (hl.at rfl) ?_
          refine w_callV C hN hw (c_X0_hasWord l sz0 D cs X _ Y i hG tb) ⟨(Nat.le_of_ble_eq_true rfl), (Nat.le_of_ble_eq_true rfl), mw185, mw111, cy_X0_hasWord⟩ mw356 mw183 mw184 (w_rec hw (c0 := 20) (i0 := i) (hG 20 (by decide) (by decide)) rfl rfl) rfl hl.1.1 rfl (Nat.le_of_ble_eq_true rfl) dX2_locate_87 ⟨by show 0 + 0 ≤ kc; omega, by show 0 + 0 ≤ ks; omega⟩ (fun X' Z' Y' v k n H locs hp hw => ?_)
          obtain ⟨rfl, rfl, rfl, rfl, rfl, rfl⟩ := hp
          rw [hF6]
          refine lv_if_ne (tgt := 100) hx hb dX2_locate_90 (by decide) (fun h90 => ?_) (fun h90 => ?_)
          · rw [if_neg h90] at eL0
            obtain ⟨tn, htn, etn⟩ := hasWv_in hF64 h90
            have ect : tb.toNatClampNeg = tn := by rw [etn, nI_clamp (by omega)]
            rw [ect] at eL0
            refine lv_aload_n hx hb dX2_locate_100 rfl (hl.at rfl) ?_
            refine w_get C hw (c0 := 12) (i0 := 0) rfl inA2 0 (by decide) mw41 rfl dX2_locate_101 (hX 12 (by decide)) rfl rfl rfl ?_
            refine lv_aload_n hx hb dX2_locate_104 rfl (hl.at rfl) ?_
            refine lv_iload hx hb dX2_locate_105 (hl.at rfl) ?_
            refine w_callV C hN hw (c_X1_read l sz0 D cs X _ Y hX hU i hG h gp gp (32832 * gp) F hI hL0 tb (Nat.le_refl _) (Nat.le_refl _)) ⟨(Nat.le_of_ble_eq_true rfl), (Nat.le_of_ble_eq_true rfl), mw364, mw15, cy_X1_read⟩ mw361 mw362 mw363 (w_rec hw (c0 := 2) (i0 := 0) (hX 2 (by decide)) rfl rfl) rfl hl.1.1 rfl (Nat.le_of_ble_eq_true rfl) dX2_locate_107 ⟨by show 0 + 0 + gp ≤ kc; omega, by show 0 + 0 + 32832 * gp ≤ ks; omega⟩ (fun X2 Z2 Y2 v2 k2 n2 H locs hp hw => ?_)
            obtain ⟨rfl, rfl, hM2⟩ := hp
            have hR2 := GR_HMs hM2 hi hgf hR0
            obtain ⟨gp2, hS2⟩ := SFp.ofHM (i := i) hM2 (fun _ _ _ _ => rfl)
            have h122 := hM2.r12
            have hS20 := hS2
            have hL2 := hS2.gl hL0
            obtain ⟨⟨V2, rfl⟩, hI2, hk2, hn2, -⟩ := hS2
            have e2F : Z2 20 i 6 = nI F := hL2.2.2.1
            rw [show rdv Z i F tb = g 1 tn by rw [etn]; exact rdv_g hF64 htn hR0]
            refine w_istore hx hb dX2_locate_110 hl (Nat.le_of_ble_eq_true rfl) (fun ls hl => ?_)
            refine lv_iload hx hb dX2_locate_112 (hl.at rfl) ?_
            refine lv_bipush (v := 8) hx hb dX2_locate_114 (by decide) ?_
            refine lv_ishr hx hb dX2_locate_116 ?_
            refine lv_bipush (v := 63) hx hb dX2_locate_117 (by decide) ?_
            refine lv_iand hx hb dX2_locate_119 ?_
            refine w_istore hx hb dX2_locate_120 hl (Nat.le_of_ble_eq_true rfl) (fun ls hl => ?_)
            refine lv_iload hx hb dX2_locate_122 (hl.at rfl) ?_
            refine lv_iconst (v := 1) hx hb dX2_locate_124 (by decide) ?_
            refine lv_iand hx hb dX2_locate_125 ?_
            refine lv_if_eq (tgt := 138) hx hb dX2_locate_126 (by decide) (fun h126 => ?_) (fun h126 => ?_)
            · rw [if_pos (Or.inl h126)] at eL0
              refine lv_aload_n hx hb dX2_locate_138 rfl (hl.at rfl) ?_
              refine lv_iload_n hx hb dX2_locate_139 rfl (hl.at rfl) ?_
              refine lv_iload_n hx hb dX2_locate_140 rfl (hl.at rfl) ?_
              refine w_callV C hN hw (c_X2_refuse l sz0 D cs (X.1, V2, X.2.2) Z2 Y hX kind a) ⟨(Nat.le_of_ble_eq_true rfl), (Nat.le_of_ble_eq_true rfl), mw360, mw19, cy_X2_refuse⟩ mw357 mw358 mw359 (w_rec hw (c0 := 12) (i0 := 0) (hX 12 (by decide)) rfl rfl) rfl hl.1.1 rfl (Nat.le_of_ble_eq_true rfl) dX2_locate_141 ⟨by show 0 + 0 + k2 + 0 ≤ kc; omega, by show 0 + 0 + n2 + 0 ≤ ks; omega⟩ (fun X' Z' Y' v k n H locs hp hw => ?_)
              obtain ⟨rfl, rfl, rfl, rfl, rfl, rfl⟩ := hp
              refine w_iret C hw hr hlocks dX2_locate_144 ⟨rfl, gp2, by rw [show 0 + 0 + k2 + 0 = k2 + 0 by omega, show 0 + 0 + n2 + 0 = n2 + 0 by omega]; exact hS20.trans (SFp.ofU hI2 (Or.inr (Or.inl ⟨rfl, rfl⟩))), ?_, ?_, ?_⟩
              · rw [eL0]; exact GR_12 hR2
              · rw [eL0]
              · rw [eL0, upr_s, if_neg hkd, h122]
            · refine lv_iload hx hb dX2_locate_129 (hl.at rfl) ?_
              refine lv_aload_n hx hb dX2_locate_131 rfl (hl.at rfl) ?_
              refine w_getN C hN hw (c0 := 20) (i0 := i) rfl inA0 6 (by decide) mw648 rfl dX2_locate_132 (hG 20 (by decide) (by decide)) rfl rfl rfl ?_
              rw [e2F]
              refine lv_icmp_lt (tgt := 145) hx hb dX2_locate_135 (by decide) (fun h135 => ?_) (fun h135 => ?_)
              · rw [if_neg (fun q => q.elim h126 (fun q => q h135))] at eL0
                refine lv_aload_n hx hb dX2_locate_145 rfl (hl.at rfl) ?_
                refine w_get C hw (c0 := 12) (i0 := 0) rfl inA2 0 (by decide) mw41 rfl dX2_locate_146 (hX 12 (by decide)) rfl rfl rfl ?_
                refine lv_aload_n hx hb dX2_locate_149 rfl (hl.at rfl) ?_
                refine lv_iload hx hb dX2_locate_150 (hl.at rfl) ?_
                refine lv_iload hx hb dX2_locate_152 (hl.at rfl) ?_
                refine lv_bipush (v := 8) hx hb dX2_locate_154 (by decide) ?_
                refine lv_ior hx hb dX2_locate_156 ?_
                refine w_callV C hN hw (c_X1_write l sz0 D cs (X.1, V2, X.2.2) Z2 Y hX hU i hG h gp2 gp2 (32832 * gp2) F hI2 hL2 tb (g 1 tn ||| 8) (Nat.le_refl _) (Nat.le_refl _)) ⟨(Nat.le_of_ble_eq_true rfl), (Nat.le_of_ble_eq_true rfl), mw189, mw15, cy_X1_write⟩ mw365 mw187 mw188 (w_rec hw (c0 := 2) (i0 := 0) (hX 2 (by decide)) rfl rfl) rfl hl.1.1 rfl (Nat.le_of_ble_eq_true rfl) dX2_locate_157 ⟨by show 0 + 0 + k2 + gp2 ≤ kc; omega, by show 0 + 0 + n2 + 32832 * gp2 ≤ ks; omega⟩ (fun X3 Z3 Y3 v3 k3 n3 H locs hp hw => ?_)
                obtain ⟨rfl, rfl, hM3⟩ := hp
                have hR3 := GR_write hM3 hL2 htn etn hR2
                obtain ⟨gp3, hS3⟩ := SFp.ofW hM3
                have h123 := hM3.r12
                have hS30 := hS3
                obtain ⟨⟨V3, rfl⟩, hI3, hk3, hn3, -⟩ := hS3
                refine lv_iload hx hb dX2_locate_160 (hl.at rfl) ?_
                refine lv_iconst (v := 3) hx hb dX2_locate_162 (by decide) ?_
                refine lv_ishl hx hb dX2_locate_163 ?_
                refine lv_iload hx hb dX2_locate_164 (hl.at rfl) ?_
                refine lv_iconst (v := 1) hx hb dX2_locate_166 (by decide) ?_
                refine lv_ishr hx hb dX2_locate_167 ?_
                refine lv_iconst (v := 3) hx hb dX2_locate_168 (by decide) ?_
                refine lv_iand hx hb dX2_locate_169 ?_
                refine lv_ior hx hb dX2_locate_170 ?_
                refine lv_iload hx hb dX2_locate_171 (hl.at rfl) ?_
                refine lv_iconst (v := 2) hx hb dX2_locate_173 (by decide) ?_
                refine lv_ishr hx hb dX2_locate_174 ?_
                refine lv_iconst (v := 4) hx hb dX2_locate_175 (by decide) ?_
                refine lv_iand hx hb dX2_locate_176 ?_
                refine lv_ior hx hb dX2_locate_177 ?_
                refine w_istore hx hb dX2_locate_178 hl (Nat.le_of_ble_eq_true rfl) (fun ls hl => ?_)
                refine lv_aload_n hx hb dX2_locate_180 rfl (hl.at rfl) ?_
                refine w_getN C hN hw (c0 := 20) (i0 := i) rfl inA0 11 (by decide) mw654 rfl dX2_locate_181 (hG 20 (by decide) (by decide)) rfl rfl rfl ?_
                refine lv_iload hx hb dX2_locate_184 (hl.at rfl) ?_
                refine lv_iload hx hb dX2_locate_186 (hl.at rfl) ?_
                refine w_ist C hw (c0 := 25) (i0 := i) dX2_locate_188 (hG 25 (by decide) (by decide)) rfl (fun _ => rfl) (vp_in_nI hp (by omega)) (nI_clamp (by omega)) (fun H locs hw => ?_)
                have hSS := (hS20.trans hS30).trans (SFp.ofU (f := upd (Z3 25 i) pg (entS (g 1 tn))) (c := 25) (b := i) hI3 (Or.inl ⟨rfl, by decide, by decide⟩))
                refine fin _ _ _ _ _ tn _ (entS (g 1 tn)) _ _ _ _ _ _ hl hw (by rw [show 0 + 0 + k2 + k3 = k2 + k3 + 0 by omega, show 0 + 0 + n2 + n3 = n2 + n3 + 0 by omega]; exact hSS) (GR_25 hR3) ?_ htn etn eL0
                rw [upr_k (by decide), h123, h122]
              · rw [if_pos (Or.inr h135)] at eL0
                refine lv_aload_n hx hb dX2_locate_138 rfl (hl.at rfl) ?_
                refine lv_iload_n hx hb dX2_locate_139 rfl (hl.at rfl) ?_
                refine lv_iload_n hx hb dX2_locate_140 rfl (hl.at rfl) ?_
                refine w_callV C hN hw (c_X2_refuse l sz0 D cs (X.1, V2, X.2.2) Z2 Y hX kind a) ⟨(Nat.le_of_ble_eq_true rfl), (Nat.le_of_ble_eq_true rfl), mw360, mw19, cy_X2_refuse⟩ mw357 mw358 mw359 (w_rec hw (c0 := 12) (i0 := 0) (hX 12 (by decide)) rfl rfl) rfl hl.1.1 rfl (Nat.le_of_ble_eq_true rfl) dX2_locate_141 ⟨by show 0 + 0 + k2 + 0 ≤ kc; omega, by show 0 + 0 + n2 + 0 ≤ ks; omega⟩ (fun X' Z' Y' v k n H locs hp hw => ?_)
                obtain ⟨rfl, rfl, rfl, rfl, rfl, rfl⟩ := hp
                refine w_iret C hw hr hlocks dX2_locate_144 ⟨rfl, gp2, by rw [show 0 + 0 + k2 + 0 = k2 + 0 by omega, show 0 + 0 + n2 + 0 = n2 + 0 by omega]; exact hS20.trans (SFp.ofU hI2 (Or.inr (Or.inl ⟨rfl, rfl⟩))), ?_, ?_, ?_⟩
                · rw [eL0]; exact GR_12 hR2
                · rw [eL0]
                · rw [eL0, upr_s, if_neg hkd, h122]
          · rw [if_pos h90] at eL0
            refine lv_aload_n hx hb dX2_locate_93 rfl (hl.at rfl) ?_
            refine lv_iconst (v := 5) hx hb dX2_locate_94 (by decide) ?_
            refine lv_iload_n hx hb dX2_locate_95 rfl (hl.at rfl) ?_
            refine w_callV C hN hw (c_X2_refuse l sz0 D cs X _ Y hX 5 a) ⟨(Nat.le_of_ble_eq_true rfl), (Nat.le_of_ble_eq_true rfl), mw360, mw19, cy_X2_refuse⟩ mw357 mw358 mw359 (w_rec hw (c0 := 12) (i0 := 0) (hX 12 (by decide)) rfl rfl) rfl hl.1.1 rfl (Nat.le_of_ble_eq_true rfl) dX2_locate_96 ⟨by show 0 + 0 + 0 ≤ kc; omega, by show 0 + 0 + 0 ≤ ks; omega⟩ (fun X' Z' Y' v k n H locs hp hw => ?_)
            obtain ⟨rfl, rfl, rfl, rfl, rfl, rfl⟩ := hp
            exact w_iret C hw hr hlocks dX2_locate_99 ⟨rfl, gp, SFp.ofU hI (Or.inr (Or.inl ⟨rfl, rfl⟩)), by rw [eL0]; exact GR_12 hR0, by rw [eL0], by rw [eL0, upr_s, if_neg (show ¬ (5 : Int32) = 0 by decide)]⟩
      · have eL : locS F g a kind = (g, kind, a, -1) := by unfold locS; rw [if_neg (fun q => q h10), if_pos (Or.inr h40)]
        refine lv_aload_n hx hb dX2_locate_43 rfl (hl.at rfl) ?_
        refine lv_iload_n hx hb dX2_locate_44 rfl (hl.at rfl) ?_
        refine lv_iload_n hx hb dX2_locate_45 rfl (hl.at rfl) ?_
        refine w_callV C hN hw (c_X2_refuse l sz0 D cs X _ Y hX kind a) ⟨(Nat.le_of_ble_eq_true rfl), (Nat.le_of_ble_eq_true rfl), mw360, mw19, cy_X2_refuse⟩ mw357 mw358 mw359 (w_rec hw (c0 := 12) (i0 := 0) (hX 12 (by decide)) rfl rfl) rfl hl.1.1 rfl (Nat.le_of_ble_eq_true rfl) dX2_locate_46 ⟨by show 0 + 0 ≤ kc; omega, by show 0 + 0 ≤ ks; omega⟩ (fun X' Z' Y' v k n H locs hp hw => ?_)
        obtain ⟨rfl, rfl, rfl, rfl, rfl, rfl⟩ := hp
        refine w_iret C hw hr hlocks dX2_locate_49 ⟨rfl, gp, SFp.ofU hI (Or.inr (Or.inl ⟨rfl, rfl⟩)), ?_, ?_, ?_⟩
        · rw [eL]; exact GR_12 hR0
        · rw [eL]
        · rw [eL, upr_s, if_neg hkd]
  · refine lv_aload_n hx hb dX2_locate_13 rfl (hl.at rfl) ?_
    refine lv_iload_n hx hb dX2_locate_14 rfl (hl.at rfl) ?_
    refine w_callV C hN hw (c_X0_hasWord l sz0 D cs X _ Y i hG a) ⟨(Nat.le_of_ble_eq_true rfl), (Nat.le_of_ble_eq_true rfl), mw185, mw111, cy_X0_hasWord⟩ mw356 mw183 mw184 (w_rec hw (c0 := 20) (i0 := i) (hG 20 (by decide) (by decide)) rfl rfl) rfl hl.1.1 rfl (Nat.le_of_ble_eq_true rfl) dX2_locate_15 ⟨by show 0 + 0 ≤ kc; omega, by show 0 + 0 ≤ ks; omega⟩ (fun X' Z' Y' v k n H locs hp hw => ?_)
    obtain ⟨rfl, rfl, rfl, rfl, rfl, rfl⟩ := hp
    rw [hF6]
    refine lv_if_eq (tgt := 25) hx hb dX2_locate_18 (by decide) (fun h18 => ?_) (fun h18 => ?_)
    · have eL : locS F g a kind = (g, 5, a, -1) := by unfold locS; rw [if_pos h10, if_pos h18]
      refine lv_aload_n hx hb dX2_locate_25 rfl (hl.at rfl) ?_
      refine lv_iconst (v := 5) hx hb dX2_locate_26 (by decide) ?_
      refine lv_iload_n hx hb dX2_locate_27 rfl (hl.at rfl) ?_
      refine w_callV C hN hw (c_X2_refuse l sz0 D cs X _ Y hX 5 a) ⟨(Nat.le_of_ble_eq_true rfl), (Nat.le_of_ble_eq_true rfl), mw360, mw19, cy_X2_refuse⟩ mw357 mw358 mw359 (w_rec hw (c0 := 12) (i0 := 0) (hX 12 (by decide)) rfl rfl) rfl hl.1.1 rfl (Nat.le_of_ble_eq_true rfl) dX2_locate_28 ⟨by show 0 + 0 + 0 ≤ kc; omega, by show 0 + 0 + 0 ≤ ks; omega⟩ (fun X' Z' Y' v k n H locs hp hw => ?_)
      obtain ⟨rfl, rfl, rfl, rfl, rfl, rfl⟩ := hp
      exact w_iret C hw hr hlocks dX2_locate_31 ⟨rfl, gp, SFp.ofU hI (Or.inr (Or.inl ⟨rfl, rfl⟩)), by rw [eL]; exact GR_12 hR0, by rw [eL], by rw [eL, upr_s, if_neg (show ¬ (5 : Int32) = 0 by decide)]⟩
    · have eL : locS F g a kind = (g, 0, 0, a) := by unfold locS; rw [if_pos h10, if_neg h18]
      refine lv_iload_n hx hb dX2_locate_21 rfl (hl.at rfl) ?_
      refine lv_goto (tgt := 31) hx hb dX2_locate_22 (by decide) ?_
      exact w_iret C hw hr hlocks dX2_locate_31 ⟨rfl, gp, SFp.refl hI, by rw [eL]; exact hR0, by rw [eL], by rw [eL, if_pos rfl]⟩
