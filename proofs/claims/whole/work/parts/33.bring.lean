set_option maxHeartbeats 4000000 in
set_option maxRecDepth 100000 in
theorem c_X1_isSheet (l : Launch) (sz0 : Nat) (D : va_G) (cs : Nat → ClassId) (X : Sh) (Z : ZT) (Y : va_W) (a : Int32) : Ctr l yX1_isSheet (wsM yX1_isSheet cX1_isSheet 2 (some .boolean)) ({ frames := 0, cells := 0, slots := 0, locals := 0 } : Room) sz0 D cs [.ref (X.1 2 0), .int a] X Z Y (Pz X Y (fun Z' v => Z = Z' ∧ v = some (.int (isShv a)))) := by
  refine Ctr.ofW (by decide +kernel) (by intro v hv; simp at hv; rcases hv with rfl | rfl <;> rfl) (Nat.le_of_ble_eq_true rfl) ?_
  intro p e s m below meth c ls C hr hlocks hname hl hN hw
  obtain ⟨hx, hb, hml, hown, hts⟩ := id C
  refine lv_iload_n hx hb dX1_isSheet_0 rfl (hl.at rfl) ?_
  refine lv_if_lt (tgt := 15) hx hb dX1_isSheet_1 (by decide) (fun h1 => ?_) (fun h1 => ?_)
  · refine lv_iconst (v := 0) hx hb dX1_isSheet_15 (by decide) ?_
    exact w_zret C hw hr hlocks dX1_isSheet_16 (by decide) ⟨rfl, rfl, rfl, rfl, rfl, by simp [isShv, *]⟩
  · refine lv_iload_n hx hb dX1_isSheet_4 rfl (hl.at rfl) ?_
    refine lv_sipush (v := 513) hx hb dX1_isSheet_5 (by decide) ?_
    refine lv_icmp_ge (tgt := 15) hx hb dX1_isSheet_8 (by decide) (fun h8 => ?_) (fun h8 => ?_)
    · refine lv_iconst (v := 0) hx hb dX1_isSheet_15 (by decide) ?_
      exact w_zret C hw hr hlocks dX1_isSheet_16 (by decide) ⟨rfl, rfl, rfl, rfl, rfl, by simp [isShv, *]⟩
    · refine lv_iconst (v := 1) hx hb dX1_isSheet_11 (by decide) ?_
      refine lv_goto (tgt := 16) hx hb dX1_isSheet_12 (by decide) ?_
      exact w_zret C hw hr hlocks dX1_isSheet_16 (by decide) ⟨rfl, rfl, rfl, rfl, rfl, by simp [isShv, *]⟩

set_option maxHeartbeats 4000000 in
set_option maxRecDepth 100000 in
theorem c_X1_bring (l : Launch) (sz0 : Nat) (D : va_G) (cs : Nat → ClassId) (X : Sh) (Z : ZT) (Y : va_W) (hX : HXI X) (hU : HUI X) (h o hd g3 g4 kc ks sh : Nat) (hH : HA X Z h o hd g3 g4) (hsh : sh < 513) (hla : 64 * (sh + 1) ≤ X.2.1 4) (hkc : g3 ≤ kc) (hks : 32768 * g3 ≤ ks) : Ctr l yX1_bring (wsM yX1_bring cX1_bring 3 (some .int)) ({ frames := 3, cells := kc, slots := ks, locals := 72 } : Room) sz0 D cs [.ref (X.1 2 0), .int (nI sh)] X Z Y (fun X' Z' Y' v k n => Y = Y' ∧ ∃ f, v = some (.int (nI f)) ∧ BR X Z h o g3 g4 sh X' Z' f k n) := by
  refine Ctr.ofW (by decide +kernel) (by intro v hv; simp at hv; rcases hv with rfl | rfl <;> rfl) (Nat.le_of_ble_eq_true rfl) ?_
  intro p e s m below meth c ls C hr hlocks hname hl hN hw
  obtain ⟨hx, hb, hml, hown, hts⟩ := id C
  have hH0 := hH
  obtain ⟨⟨a1, a2, a3, a4⟩, ⟨b1, b2, b3⟩, ⟨c11, c12, c13, c14⟩, c2, c3, c4, c5, c6, c7⟩ := hH
  refine lv_aload_n hx hb dX1_bring_0 rfl (hl.at rfl) ?_
  refine lv_iload_n hx hb dX1_bring_1 rfl (hl.at rfl) ?_
  refine w_callV C hN hw (c_X1_isSheet l sz0 D cs X _ Y _) ⟨(Nat.le_of_ble_eq_true rfl), (Nat.le_of_ble_eq_true rfl), mw202, mw15, cy_X1_isSheet⟩ mw199 mw200 mw201 (w_rec hw (c0 := 2) (i0 := 0) (hX 2 (by decide)) rfl rfl) rfl hl.1.1 rfl (Nat.le_of_ble_eq_true rfl) dX1_bring_2 ⟨by show 0 + 0 ≤ kc; omega, by show 0 + 0 ≤ ks; omega⟩ (fun X' Z' Y' v k n H locs hp hw => ?_)
  obtain ⟨rfl, rfl, rfl, rfl, rfl, rfl⟩ := hp
  rw [isShv_nI hsh]
  refine lv_if_ne (tgt := 10) hx hb dX1_bring_5 (by decide) (fun h5 => ?_) (fun h5 => ?_)
  · refine lv_aload_n hx hb dX1_bring_10 rfl (hl.at rfl) ?_
    refine w_get C hw (c0 := 2) (i0 := 0) rfl inA1 9 (by decide) mw33 rfl dX1_bring_11 (hX 2 (by decide)) rfl rfl rfl ?_
    refine lv_iload_n hx hb dX1_bring_14 rfl (hl.at rfl) ?_
    refine w_ild C hw (c0 := 8) (i0 := 0) dX1_bring_15 (hX 8 (by decide)) rfl rfl (vp_in_nI hsh (by omega)) (nI_clamp (by omega)) ?_
    refine w_istore_n hx hb dX1_bring_16 rfl hl (Nat.le_of_ble_eq_true rfl) (fun ls hl => ?_)
    refine lv_iload_n hx hb dX1_bring_17 rfl (hl.at rfl) ?_
    refine lv_iconst (v := -1) hx hb dX1_bring_18 (by decide) ?_
    refine lv_icmp_ne (tgt := 70) hx hb dX1_bring_19 (by decide) (fun h19 => ?_) (fun h19 => ?_)
    · obtain ⟨f, hf, e8, e5, -⟩ := (c3 sh hsh).resolve_left h19
      rw [e8] at hl
      refine lv_aload_n hx hb dX1_bring_70 rfl (hl.at rfl) ?_
      refine w_get C hw (c0 := 2) (i0 := 0) rfl inA1 7 (by decide) mw31 rfl dX1_bring_71 (hX 2 (by decide)) rfl rfl rfl ?_
      refine lv_iload_n hx hb dX1_bring_74 rfl (hl.at rfl) ?_
      refine lv_iconst (v := 1) hx hb dX1_bring_75 (by decide) ?_
      refine w_zst C hw (c0 := 6) (i0 := 0) dX1_bring_76 (hX 6 (by decide)) rfl (fun _ => rfl) (vp_in_nI (show f < 256 by omega) (by omega)) (nI_clamp (by omega)) (by decide) (fun H locs hw => ?_)
      refine lv_iload_n hx hb dX1_bring_77 rfl (hl.at rfl) ?_
      have e1 : upr Z 6 0 (upd (Z 6 0) f 1) = tfZ Z (upd (Z 6 0) f 1) hd := by
        unfold tfZ
        have e2 : upd (Z 2 0) 2 (nI hd) = upr Z 6 0 (upd (Z 6 0) f 1) 2 0 := by
          rw [upr_k (by decide)]
          funext j
          by_cases e : j = 2
          · subst e; rw [upd_s]; exact b3.symm
          · rw [upd_n e]
        rw [e2, upr_id]
      rw [e1] at hw
      refine w_iret C hw hr hlocks dX1_bring_78 ⟨rfl, f, rfl, X.2.1, o, hd, g3, rfl, rfl, rfl, hf, Nat.le_refl _, tfZ_HA hH0 a4, by omega, by omega, by rw [tfZ_o (by decide) (by decide)]; exact e8, fun s j hs hj => tfZ_scn, fun c i hc => ?_, fun j h1 h2 => ?_, fun s' _ => Or.inr (Or.inl (by rw [tfZ_o (by decide) (by decide)]))⟩
      · by_cases hi : i = 0
        · subst hi
          have : ∀ k, (k = 2 ∨ k = 3 ∨ k = 4 ∨ k = 5 ∨ k = 6 ∨ k = 8 ∨ k = 9) → c ≠ k := fun k hk e => hc ⟨rfl, by rw [e]; exact hk⟩
          rw [tfZ_o (this 2 (by decide)) (this 6 (by decide))]
        · unfold tfZ
          rw [upr_i hi, upr_i hi]
      · rw [tfZ_2, upd_n h2]
    · refine lv_aload_n hx hb dX1_bring_22 rfl (hl.at rfl) ?_
      refine lv_iconst (v := -1) hx hb dX1_bring_23 (by decide) ?_
      refine w_callV C hN hw (c_X1_takeFrame l sz0 D cs X _ Y hX hU h o hd g3 g4 kc ks (-1) hH0 (Or.inl rfl) hkc hks) ⟨(Nat.le_of_ble_eq_true rfl), (Nat.le_of_ble_eq_true rfl), mw206, mw15, cy_X1_takeFrame⟩ mw203 mw204 mw205 (w_rec hw (c0 := 2) (i0 := 0) (hX 2 (by decide)) rfl rfl) rfl hl.1.1 rfl (Nat.le_of_ble_eq_true rfl) dX1_bring_24 ⟨by show 0 + kc ≤ kc; omega, by show 0 + ks ≤ ks; omega⟩ (fun X' Z' Y' v k n H locs hp hw => ?_)
      obtain ⟨rfl, f, rfl, V, o2, hd2, g32, rfl, v4, v14, hfk, hf, ho2, hA2, hk2, hn2, h52, t1, t2, t3, t4, t5⟩ := hp
      have hA3 := hA2
      obtain ⟨⟨q1, q2, q3, q4⟩, -, ⟨q11, q12, q13, q14⟩, -⟩ := hA2
      have hf31 : f < 2 ^ 31 := by omega
      have h82 : Z' 8 0 sh = -1 := by
        rcases t2 sh hsh with q | q
        · exact q
        · rw [q]; exact h19
      refine w_istore_n hx hb dX1_bring_27 rfl hl (Nat.le_of_ble_eq_true rfl) (fun ls hl => ?_)
      refine lv_iload_n hx hb dX1_bring_28 rfl (hl.at rfl) ?_
      refine lv_iconst (v := -1) hx hb dX1_bring_29 (by decide) ?_
      refine lv_icmp_ne (tgt := 35) hx hb dX1_bring_30 (by decide) (fun h30 => ?_) (fun h30 => ?_)
      · refine lv_aload_n hx hb dX1_bring_35 rfl (hl.at rfl) ?_
        refine w_get C hw (c0 := 2) (i0 := 0) rfl inA1 5 (by decide) mw28 rfl dX1_bring_36 (hX 2 (by decide)) rfl rfl rfl ?_
        refine lv_iload_n hx hb dX1_bring_39 rfl (hl.at rfl) ?_
        refine lv_bipush (v := 64) hx hb dX1_bring_40 (by decide) ?_
        refine lv_imul hx hb dX1_bring_42 ?_
        refine lv_aload_n hx hb dX1_bring_43 rfl (hl.at rfl) ?_
        refine w_get C hw (c0 := 2) (i0 := 0) rfl inA1 4 (by decide) mw27 rfl dX1_bring_44 (hX 2 (by decide)) rfl rfl rfl ?_
        refine lv_iload_n hx hb dX1_bring_47 rfl (hl.at rfl) ?_
        refine lv_bipush (v := 64) hx hb dX1_bring_48 (by decide) ?_
        refine lv_imul hx hb dX1_bring_50 ?_
        refine lv_bipush (v := 64) hx hb dX1_bring_51 (by decide) ?_
        have ex : nI f * 64 = nI (64 * f) := by rw [show nI f * 64 = nI f * nI 64 from rfl, pk_mul, Nat.mul_comm]
        have es : nI sh * 64 = nI (64 * sh) := by rw [show nI sh * 64 = nI sh * nI 64 from rfl, pk_mul, Nat.mul_comm]
        rw [ex, es]
        refine w_cpy C hw (c0 := 4) (i0 := 0) (c1 := 3) (i1 := 0) mw195 dX1_bring_53 (hX 4 (by decide)) rfl rfl (hX 3 (by decide)) rfl (fun _ => rfl) (nI_pos (by omega)) (nI_pos (by omega)) (by decide) (nI_clamp (by omega)) (nI_clamp (by omega)) (jn := 64) (by decide) (show 64 * sh + 64 ≤ V 4 by omega) (show 64 * f + 64 ≤ V 3 by have := q11; dsimp only at this; omega) hl.1.1 (Nat.le_of_ble_eq_true rfl) (Nat.le_of_ble_eq_true rfl) (fun H locs hw => ?_)
        refine lv_aload_n hx hb dX1_bring_56 rfl (hl.at rfl) ?_
        refine w_get C hw (c0 := 2) (i0 := 0) rfl inA1 6 (by decide) mw29 rfl dX1_bring_57 (hX 2 (by decide)) rfl rfl rfl ?_
        refine lv_iload_n hx hb dX1_bring_60 rfl (hl.at rfl) ?_
        refine lv_iload_n hx hb dX1_bring_61 rfl (hl.at rfl) ?_
        refine w_ist C hw (c0 := 5) (i0 := 0) dX1_bring_62 (hX 5 (by decide)) rfl (fun _ => rfl) (vp_in_nI (show f < 256 by omega) (by omega)) (nI_clamp (by omega)) (fun H locs hw => ?_)
        refine lv_aload_n hx hb dX1_bring_63 rfl (hl.at rfl) ?_
        refine w_get C hw (c0 := 2) (i0 := 0) rfl inA1 9 (by decide) mw33 rfl dX1_bring_64 (hX 2 (by decide)) rfl rfl rfl ?_
        refine lv_iload_n hx hb dX1_bring_67 rfl (hl.at rfl) ?_
        refine lv_iload_n hx hb dX1_bring_68 rfl (hl.at rfl) ?_
        refine w_ist C hw (c0 := 8) (i0 := 0) dX1_bring_69 (hX 8 (by decide)) rfl (fun _ => rfl) (vp_in_nI hsh (by omega)) (nI_clamp (by omega)) (fun H locs hw => ?_)
        refine lv_aload_n hx hb dX1_bring_70 rfl (hl.at rfl) ?_
        refine w_get C hw (c0 := 2) (i0 := 0) rfl inA1 7 (by decide) mw31 rfl dX1_bring_71 (hX 2 (by decide)) rfl rfl rfl ?_
        refine lv_iload_n hx hb dX1_bring_74 rfl (hl.at rfl) ?_
        refine lv_iconst (v := 1) hx hb dX1_bring_75 (by decide) ?_
        refine w_zst C hw (c0 := 6) (i0 := 0) dX1_bring_76 (hX 6 (by decide)) rfl (fun _ => rfl) (vp_in_nI (show f < 256 by omega) (by omega)) (nI_clamp (by omega)) (by decide) (fun H locs hw => ?_)
        refine lv_iload_n hx hb dX1_bring_77 rfl (hl.at rfl) ?_
        simp only [upr_k (show (5 : Nat) ≠ 3 by decide), upr_k (show (8 : Nat) ≠ 5 by decide), upr_k (show (8 : Nat) ≠ 3 by decide), upr_k (show (6 : Nat) ≠ 8 by decide), upr_k (show (6 : Nat) ≠ 5 by decide), upr_k (show (6 : Nat) ≠ 3 by decide)] at hw
        obtain ⟨Z2, hZ2⟩ : ∃ Z2, Z2 = upr (upr (upr (upr Z' 3 0 (va_cpy (Z' 4 0) (Z' 3 0) (64 * sh) (64 * f) 64)) 5 0 (upd (Z' 5 0) f (nI sh))) 8 0 (upd (Z' 8 0) sh (nI f))) 6 0 (upd (Z' 6 0) f 1) := ⟨_, rfl⟩
        rw [← hZ2] at hw
        have z2 : Z2 2 0 = Z' 2 0 := by rw [hZ2, upr_k (by decide), upr_k (by decide), upr_k (by decide), upr_k (by decide)]
        have z3 : Z2 3 0 = va_cpy (Z' 4 0) (Z' 3 0) (64 * sh) (64 * f) 64 := by rw [hZ2, upr_k (by decide), upr_k (by decide), upr_k (by decide), upr_s]
        have z4 : Z2 4 0 = Z' 4 0 := by rw [hZ2, upr_k (by decide), upr_k (by decide), upr_k (by decide), upr_k (by decide)]
        have z5 : Z2 5 0 = upd (Z' 5 0) f (nI sh) := by rw [hZ2, upr_k (by decide), upr_k (by decide), upr_s]
        have z8 : Z2 8 0 = upd (Z' 8 0) sh (nI f) := by rw [hZ2, upr_k (by decide), upr_s]
        have z90 : Z' 9 0 sh = 0 := by
          obtain ⟨-, -, -, -, -, -, q, -, -⟩ := hA3
          rcases q sh hsh with q | ⟨-, q, -⟩
          · exact q
          · exact absurd h82 q
        have z9 : Z2 9 0 = upd (Z' 9 0) sh 0 := by
          rw [hZ2, upr_k (by decide), upr_k (by decide), upr_k (by decide), upr_k (by decide)]
          funext j
          by_cases e : j = sh
          · subst e; rw [upd_s]; exact z90
          · rw [upd_n e]
        have zin : ∀ j, j < 64 → Z2 3 0 (64 * f + j) = Z' 4 0 (64 * sh + j) := fun j hj => by
          rw [z3, pk_cpy_in (by omega) (by omega)]
          congr 1
          omega
        obtain ⟨m1, m2, m3⟩ := as_main (Z' := Z2) (ch := 0) hA3 hsh hf h52 h82 (show 64 * (sh + 1) ≤ V 4 by omega) (Or.inl rfl) (fun j _ => by rw [z2]) (fun j hj => by rw [z3]; exact pk_cpy_out (by omega)) (fun _ => zin) z4 z5 z8 z9
        refine w_iret C hw hr hlocks dX1_bring_78 ⟨rfl, f, rfl, V, o2, hd2, g32, rfl, v4, v14, hf, ho2, m1, by omega, by omega, by rw [z8, upd_s], fun s j hs hj => ?_, fun c i hc => ?_, fun j h1 h2 => ?_, fun s' hs' => ?_⟩
        · rw [← t3 s j hs hj]
          by_cases e : s = sh
          · subst e
            rw [m3, zin j hj, scn_away h82]
          · exact m2 s j hs hj e
        · rw [← t4 c i hc, hZ2]
          rw [upr_n (fun q => hc ⟨q.2, by omega⟩), upr_n (fun q => hc ⟨q.2, by omega⟩), upr_n (fun q => hc ⟨q.2, by omega⟩), upr_n (fun q => hc ⟨q.2, by omega⟩)]
        · rw [z2, t5 j h1 h2]
        · rw [z8]
          by_cases e : s' = sh
          · exact Or.inr (Or.inr e)
          · rw [upd_n e]
            rcases t2 s' hs' with q | q
            · exact Or.inl q
            · exact Or.inr (Or.inl q)
      · exact absurd h30 (nI_ne_m1 hf31)
  · exact absurd h5 (by decide)
