def WKs (F : Nat) (Z : ZT) (i : Nat) (r : ER) (Z' : ZT) : Prop :=
  SB Z i Z' ∧ ((¬ r.2.1 = 0 ∧ BRr Z' i F r.1 ∧ Z' 40 i 17 = r.2.1 ∧ Z' 40 i 18 = r.2.2.1) ∨ (r.2.1 = 0 ∧ BRr Z' i F (gu (gu r.1 0 2 r.2.2.2.1) 4 8 r.2.2.2.2) ∧ Z' 40 i 17 = 0))
theorem WKs_fail {F : Nat} {Z Z1 : ZT} {i : Nat} {g : GS} {c a x y : Int32} {r : ER} (hr : r = (g, c, a, x, y)) (H : BRr Z1 i F g) (S : SB Z i Z1) (hc : ¬ c = 0) : WKs F Z i r (upr Z1 40 i (upd (upd (Z1 40 i) 17 c) 18 a)) := by
  subst hr
  obtain ⟨q1, q2, q3⟩ := RCs_fail (x := x) rfl H S hc
  rcases q3 with ⟨-, e1, e2, -⟩ | ⟨e, -⟩
  · exact ⟨q2, Or.inl ⟨hc, q1, e1, e2⟩⟩
  · exact absurd e hc
theorem WKs_ok {F : Nat} {Z Z1 : ZT} {i : Nat} {g1 G : GS} {nx cn : Int32} {r : ER} (h0 : r.2.1 = 0) (hg : gu (gu r.1 0 2 r.2.2.2.1) 4 8 r.2.2.2.2 = gu (gu g1 0 2 nx) 4 8 cn) (H : BRr Z1 i F g1) (S : SB Z i Z1) (h17 : Z1 40 i 17 = 0) : WKs F Z i r (upr (upr Z1 44 i (upd (Z1 44 i) 8 cn)) 40 i (upd ((upr Z1 44 i (upd (Z1 44 i) 8 cn)) 40 i) 10 nx)) := by
  refine ⟨(S.up (by decide) (by decide)).u40 (by decide), Or.inr ⟨h0, ?_, by rw [upr_s, upd_n (by decide), upr_k (by decide)]; exact h17⟩⟩
  rw [hg, gu_cm (by decide)]
  exact BR_n (BR_44 H) rfl

theorem op16 {x : Int32} (h13 : 13 < x) (h16 : ¬ 16 < x) (h14 : ¬ x = 14) (h15 : ¬ x = 15) : x = 16 := by
  apply Int32.toInt_inj.mp
  rw [Int32.lt_iff_toInt_lt] at h13 h16
  have h14' : x.toInt ≠ 14 := fun q => h14 (Int32.toInt_inj.mp q)
  have h15' : x.toInt ≠ 15 := fun q => h15 (Int32.toInt_inj.mp q)
  have e13 : (13 : Int32).toInt = 13 := by decide
  have e16 : (16 : Int32).toInt = 16 := by decide
  omega
theorem gj_n {g : GS} {o a b nx pn cn : Int32} {x y : GS × Int32} (h16 : ¬ o = 14 → ¬ o = 15 → o = 16) (h : (if o = 14 then (if a = b then (1 : Int32) else 0) else if o = 15 then (if a = b then 0 else 1) else (if b ≤ a then 0 else 1)) = 0) :
    ((if o = 14 then (g, if ¬ a = b then nx else pn) else if o = 15 then (g, if a = b then nx else pn) else if o = 16 then (g, if b ≤ a then nx else pn) else if o = 17 then x else y).1, (0 : Int32), (0 : Int32), (if o = 14 then (g, if ¬ a = b then nx else pn) else if o = 15 then (g, if a = b then nx else pn) else if o = 16 then (g, if b ≤ a then nx else pn) else if o = 17 then x else y).2, cn) = (g, 0, 0, nx, cn) := by
  by_cases c14 : o = 14
  · rw [if_pos c14] at h
    simp only [if_pos c14]
    by_cases c : a = b
    · rw [if_pos c] at h; exact absurd h (by decide)
    · rw [if_pos c]
  · rw [if_neg c14] at h
    simp only [if_neg c14]
    by_cases c15 : o = 15
    · rw [if_pos c15] at h
      simp only [if_pos c15]
      by_cases c : a = b
      · rw [if_pos c]
      · rw [if_neg c] at h; exact absurd h (by decide)
    · rw [if_neg c15] at h
      simp only [if_neg c15, if_pos (h16 c14 c15)]
      by_cases c : b ≤ a
      · rw [if_pos c]
      · rw [if_neg c] at h; exact absurd h (by decide)
theorem gj_y {g : GS} {o a b nx pn cn : Int32} {x y : GS × Int32} (h16 : ¬ o = 14 → ¬ o = 15 → o = 16) (h : ¬ (if o = 14 then (if a = b then (1 : Int32) else 0) else if o = 15 then (if a = b then 0 else 1) else (if b ≤ a then 0 else 1)) = 0) :
    ((if o = 14 then (g, if ¬ a = b then nx else pn) else if o = 15 then (g, if a = b then nx else pn) else if o = 16 then (g, if b ≤ a then nx else pn) else if o = 17 then x else y).1, (0 : Int32), (0 : Int32), (if o = 14 then (g, if ¬ a = b then nx else pn) else if o = 15 then (g, if a = b then nx else pn) else if o = 16 then (g, if b ≤ a then nx else pn) else if o = 17 then x else y).2, cn) = (g, 0, 0, pn, cn) := by
  by_cases c14 : o = 14
  · rw [if_pos c14] at h
    simp only [if_pos c14]
    by_cases c : a = b
    · rw [if_neg (fun q => q c)]
    · rw [if_neg c] at h; exact absurd rfl h
  · rw [if_neg c14] at h
    simp only [if_neg c14]
    by_cases c15 : o = 15
    · rw [if_pos c15] at h
      simp only [if_pos c15]
      by_cases c : a = b
      · rw [if_pos c] at h; exact absurd rfl h
      · rw [if_neg c]
    · rw [if_neg c15] at h
      simp only [if_neg c15, if_pos (h16 c14 c15)]
      by_cases c : b ≤ a
      · rw [if_pos c] at h; exact absurd rfl h
      · rw [if_neg c]
theorem useS_pos {F : Nat} {g : GS} {w : Int32} (hc : ¬ (useS F g w).2.1 = 0) : ¬ (useS F g w).2.1 ≤ 0 := by
  have hp : ¬ (locS F g (g 3 (fA w) + numS w) (if opc w = 11 then 12 else 13)).2.1 = 0 → ¬ (locS F g (g 3 (fA w) + numS w) (if opc w = 11 then 12 else 13)).2.1 ≤ 0 := fun q => locS_pos kind_ok q
  revert hc
  unfold useS
  dsimp only
  generalize locS F g (g 3 (fA w) + numS w) (if opc w = 11 then 12 else 13) = q at hp ⊢
  by_cases c : ¬ q.2.1 = 0
  · rw [if_pos c]; exact hp
  · rw [if_neg c]; intro hc; exact absurd rfl hc
theorem useS_0 {F : Nat} {g : GS} {w : Int32} (hc : (useS F g w).2.1 = 0) : (useS F g w).2.2.1 = 0 := by
  revert hc
  unfold useS
  dsimp only
  generalize locS F g (g 3 (fA w) + numS w) (if opc w = 11 then 12 else 13) = q
  by_cases c : ¬ q.2.1 = 0
  · rw [if_pos c]; intro hc; exact absurd hc c
  · rw [if_neg c]; intro _; rfl
theorem useS_o {F r : Nat} {g : GS} {w : Int32} (hF : F ≤ 64) (hC : CInv F g) (h1 : r ≠ 1) (h3 : r ≠ 3) (h5 : r ≠ 5) : (useS F g w).1 r = g r := by
  obtain ⟨m1, -, -⟩ := locS_ok (F := F) (g := g) (a := g 3 (fA w) + numS w) (kind := if opc w = 11 then 12 else 13) hF hC (by split <;> decide)
  unfold useS
  dsimp only
  generalize locS F g (g 3 (fA w) + numS w) (if opc w = 11 then 12 else 13) = q at m1 ⊢
  split
  · exact m1 r h1 h5
  · dsimp only
    split
    · split
      · exact m1 r h1 h5
      · rw [gu_o h3]; exact m1 r h1 h5
    · rw [gu_o h1]
      split
      · exact m1 r h1 h5
      · rw [gu_o h3]; exact m1 r h1 h5
theorem useS_4 {F : Nat} {g : GS} {w : Int32} (hF : F ≤ 64) (hC : CInv F g) : (useS F g w).1 4 = g 4 := useS_o hF hC (by decide) (by decide) (by decide)

set_option maxHeartbeats 4000000 in
set_option maxRecDepth 100000 in
theorem c_X4_work (l : Launch) (sz0 : Nat) (D : va_G) (cs : Nat → ClassId) (X : Sh) (Z : ZT) (Y : va_W) (i : Nat) (hB : BI X i) (F : Nat) (g : GS) (hF : F ≤ 64) (hR : BRr Z i F g) (hV : GInv F g) (h17 : Z 40 i 17 = 0) (w : Int32) : Ctr l yX4_work (wsM yX4_work cX4_work 9 none) ({ frames := 5, cells := 0, slots := 0, locals := 117 } : Room) sz0 D cs [.ref (X.1 40 i), .int w] X Z Y (Pz X Y (fun Z' v => v = none ∧ WKs F Z i (execS F g w (g 0 2 + 1) (g 4 8 + 1)) Z')) := by
  refine Ctr.ofW (by decide +kernel) (by intro v hv; simp at hv; rcases hv with rfl | rfl <;> rfl) (Nat.le_of_ble_eq_true rfl) ?_
  intro p e s m below meth c ls C hr hlocks hname hl hN hw
  obtain ⟨hx, hb, hml, hown, hts⟩ := id C
  have epc : Z 40 i 10 = g 0 2 := hR.1.2.2.1
  have em : Z 40 i 11 = g 0 3 := hR.1.2.2.2.1
  have e14 : Z 40 i 14 = g 0 14 := hR.1.2.2.2.2.2.2.1
  have e40 : Z 44 i 0 = g 4 0 := hR.k (by decide)
  have e42 : Z 44 i 2 = g 4 2 := hR.k (by decide)
  have e46 : Z 44 i 6 = g 4 6 := hR.k (by decide)
  have e48 : Z 44 i 8 = g 4 8 := hR.k (by decide)
  have h14 : ¬ g 0 14 < 0 := by
    obtain ⟨k, hk, ek, -⟩ := hR.2.2.2.2.2.2.1
    rw [← e14, ek]; exact nI_pos (by omega)
  have lA := fA_lt w
  have lB := fB_lt w
  have lD := fD_lt w
  refine lv_iload_n hx hb dX4_work_0 rfl (hl.at rfl) ?_
  refine lv_bipush (v := 26) hx hb dX4_work_1 (by decide) ?_
  refine lv_iushr hx hb dX4_work_3 rfl ?_
  refine lv_topi (fun y ey => ?_)
  obtain rfl : y = opc w := ey
  refine w_istore_n hx hb dX4_work_4 rfl hl (Nat.le_of_ble_eq_true rfl) (fun ls hl => ?_)
  refine lv_iload_n hx hb dX4_work_5 rfl (hl.at rfl) ?_
  refine lv_bipush (v := 23) hx hb dX4_work_6 (by decide) ?_
  refine lv_ishr hx hb dX4_work_8 ?_
  refine lv_bipush (v := 7) hx hb dX4_work_9 (by decide) ?_
  refine lv_iand hx hb dX4_work_11 ?_
  refine lv_topi (fun y ey => ?_)
  obtain rfl : y = nI (fD w) := ey.trans (fD_nI w)
  refine w_istore_n hx hb dX4_work_12 rfl hl (Nat.le_of_ble_eq_true rfl) (fun ls hl => ?_)
  refine lv_aload_n hx hb dX4_work_13 rfl (hl.at rfl) ?_
  refine w_get C hw (c0 := 40) (i0 := i) rfl inA4 4 (by decide) mw77 rfl dX4_work_14 (hB 40 (by decide) (by decide)) rfl rfl rfl ?_
  refine lv_iload_n hx hb dX4_work_17 rfl (hl.at rfl) ?_
  refine lv_bipush (v := 20) hx hb dX4_work_18 (by decide) ?_
  refine lv_ishr hx hb dX4_work_20 ?_
  refine lv_bipush (v := 7) hx hb dX4_work_21 (by decide) ?_
  refine lv_iand hx hb dX4_work_23 ?_
  refine lv_topi (fun y ey => ?_)
  obtain rfl : y = nI (fA w) := ey.trans (fA_nI w)
  refine w_ild C hw (c0 := 43) (i0 := i) dX4_work_24 (hB 43 (by decide) (by decide)) rfl rfl (vp_in_nI lA (by decide)) (nI_clamp (by omega)) ?_
  rw [hR.r lA]
  refine w_istore hx hb dX4_work_25 hl (Nat.le_of_ble_eq_true rfl) (fun ls hl => ?_)
  refine lv_aload_n hx hb dX4_work_27 rfl (hl.at rfl) ?_
  refine w_get C hw (c0 := 40) (i0 := i) rfl inA4 4 (by decide) mw77 rfl dX4_work_28 (hB 40 (by decide) (by decide)) rfl rfl rfl ?_
  refine lv_iload_n hx hb dX4_work_31 rfl (hl.at rfl) ?_
  refine lv_bipush (v := 17) hx hb dX4_work_32 (by decide) ?_
  refine lv_ishr hx hb dX4_work_34 ?_
  refine lv_bipush (v := 7) hx hb dX4_work_35 (by decide) ?_
  refine lv_iand hx hb dX4_work_37 ?_
  refine lv_topi (fun y ey => ?_)
  obtain rfl : y = nI (fB w) := ey.trans (fB_nI w)
  refine w_ild C hw (c0 := 43) (i0 := i) dX4_work_38 (hB 43 (by decide) (by decide)) rfl rfl (vp_in_nI lB (by decide)) (nI_clamp (by omega)) ?_
  rw [hR.r lB]
  refine w_istore hx hb dX4_work_39 hl (Nat.le_of_ble_eq_true rfl) (fun ls hl => ?_)
  refine lv_iload_n hx hb dX4_work_41 rfl (hl.at rfl) ?_
  refine lv_bipush (v := 15) hx hb dX4_work_42 (by decide) ?_
  refine lv_ishl hx hb dX4_work_44 ?_
  refine lv_bipush (v := 15) hx hb dX4_work_45 (by decide) ?_
  refine lv_ishr hx hb dX4_work_47 ?_
  refine lv_topi (fun y ey => ?_)
  obtain rfl : y = numS w := ey
  refine w_istore hx hb dX4_work_48 hl (Nat.le_of_ble_eq_true rfl) (fun ls hl => ?_)
  refine lv_aload_n hx hb dX4_work_50 rfl (hl.at rfl) ?_
  refine w_get C hw (c0 := 40) (i0 := i) rfl inA4 10 (by decide) mw172 rfl dX4_work_51 (hB 40 (by decide) (by decide)) rfl rfl rfl ?_
  rw [epc]
  refine lv_iconst (v := 1) hx hb dX4_work_54 (by decide) ?_
  refine lv_iadd hx hb dX4_work_55 ?_
  refine w_istore hx hb dX4_work_56 hl (Nat.le_of_ble_eq_true rfl) (fun ls hl => ?_)
  have kA : ∀ (Z1 : ZT) (g1 : GS) (nx : Int32) (H : Heap) (locs : List Loc) (ls : Array Slot), lo ls [some (.ref (X.1 40 i)), some (.int w), some (.int (opc w)), some (.int (nI (fD w))), some (.int (g 3 (fA w))), some (.int (g 3 (fB w))), some (.int (numS w)), some (.int nx), none] → opc w ≤ 20 → BRr Z1 i F g1 → SB Z i Z1 → Z1 40 i 17 = 0 → execS F g w (g 0 2 + 1) (g 4 8 + 1) = (g1, 0, 0, nx, g 4 8 + 1) → g1 4 8 = g 4 8 → Wd sz0 D cs s X Z1 Y H locs → W p l e ({ frames := 5, cells := 0, slots := 0, locals := 117 } : Room) s m ([.ref (X.1 40 i), .int w] : List Value).toArray below meth c H locs 0 0 (xQ below (CQ sz0 D cs (Pz X Y (fun Z' v => v = none ∧ WKs F Z i (execS F g w (g 0 2 + 1) (g 4 8 + 1)) Z'))) ([.ref (X.1 40 i), .int w] : List Value).toArray s (Asz sz0)) (F0 m 331 ls []) := by
    intro Z1 g1 nx H locs ls hl ho hR1 hS1 h171 hE h48 hw
    refine lv_aload_n hx hb dX4_work_331 rfl (hl.at rfl) ?_
    refine w_get C hw (c0 := 40) (i0 := i) rfl inA4 17 (by decide) mw457 rfl dX4_work_332 (hB 40 (by decide) (by decide)) rfl rfl rfl ?_
    rw [h171]
    refine lv_if_le (tgt := 339) hx hb dX4_work_335 (by decide) (fun h335 => ?_) (fun h335 => ?_)
    · refine lv_iload_n hx hb dX4_work_339 rfl (hl.at rfl) ?_
      refine lv_bipush (v := 26) hx hb dX4_work_340 (by decide) ?_
      refine lv_icmp_ne (tgt := 373) hx hb dX4_work_342 (by decide) (fun h342 => ?_) (fun h342 => ?_)
      · refine lv_iconst (v := 0) hx hb dX4_work_373 (by decide) ?_
        refine w_istore hx hb dX4_work_374 hl (Nat.le_of_ble_eq_true rfl) (fun ls hl => ?_)
        refine lv_iload_n hx hb dX4_work_376 rfl (hl.at rfl) ?_
        refine lv_bipush (v := 20) hx hb dX4_work_377 (by decide) ?_
        refine lv_icmp_le (tgt := 392) hx hb dX4_work_379 (by decide) (fun h379 => ?_) (fun h379 => ?_)
        · refine lv_aload_n hx hb dX4_work_392 rfl (hl.at rfl) ?_
          refine w_get C hw (c0 := 40) (i0 := i) rfl inA4 5 (by decide) mw78 rfl dX4_work_393 (hB 40 (by decide) (by decide)) rfl rfl rfl ?_
          refine lv_bipush (v := 8) hx hb dX4_work_396 (by decide) ?_
          refine lv_iload hx hb dX4_work_398 (hl.at rfl) ?_
          refine lv_if_eq (tgt := 413) hx hb dX4_work_400 (by decide) (fun h400 => ?_) (fun h400 => ?_)
          · refine lv_aload_n hx hb dX4_work_413 rfl (hl.at rfl) ?_
            refine w_get C hw (c0 := 40) (i0 := i) rfl inA4 5 (by decide) mw78 rfl dX4_work_414 (hB 40 (by decide) (by decide)) rfl rfl rfl ?_
            refine lv_bipush (v := 8) hx hb dX4_work_417 (by decide) ?_
            refine w_ild C hw (c0 := 44) (i0 := i) dX4_work_419 (hB 44 (by decide) (by decide)) rfl rfl (vpk (by decide)) (j := 8) (by decide) ?_
            rw [hR1.k (show 8 < 9 by decide), h48]
            refine lv_iconst (v := 1) hx hb dX4_work_420 (by decide) ?_
            refine lv_iadd hx hb dX4_work_421 ?_
            refine w_ist C hw (c0 := 44) (i0 := i) dX4_work_422 (hB 44 (by decide) (by decide)) rfl (fun _ => rfl) (vpk (by decide)) (j := 8) (by decide) (fun H locs hw => ?_)
            refine lv_aload_n hx hb dX4_work_423 rfl (hl.at rfl) ?_
            refine lv_iload hx hb dX4_work_424 (hl.at rfl) ?_
            refine w_put C hw (c0 := 40) (i0 := i) rfl inA4 tyX4_ok nmX4 10 (by decide) mw172 rfl rfl rfl dX4_work_426 (hB 40 (by decide) (by decide)) rfl rfl rfl rfl (Nat.le_of_ble_eq_true rfl) rfl (fun H locs hw => ?_)
            exact w_vret C hw hr hlocks dX4_work_429 ⟨rfl, rfl, rfl, rfl, rfl, WKs_ok (g1 := g1) (G := g1) (nx := nx) (cn := g 4 8 + 1) (by rw [hE]) (by rw [hE]) hR1 hS1 h171⟩
          · exact absurd rfl h400
        · exact absurd ho h379
      · exact absurd ho (by rw [h342]; decide)
    · exact absurd (by decide : (0 : Int32) ≤ 0) h335
  have kB : ∀ (nx : Int32) (H : Heap) (locs : List Loc) (ls : Array Slot), lo ls [some (.ref (X.1 40 i)), some (.int w), some (.int (opc w)), some (.int (nI (fD w))), some (.int (g 3 (fA w))), some (.int (g 3 (fB w))), some (.int (numS w)), some (.int nx), none] → ¬ opc w ≤ 20 → ¬ 29 < opc w → ¬ g 0 3 = 0 → (opc w = 21 → ¬ numS w < 0 ∧ numS w ≤ 9) → (opc w = 22 → ¬ numS w < 0 ∧ numS w ≤ 8) → nx = (if opc w = 23 then g 4 2 else g 0 2 + 1) → Wd sz0 D cs s X Z Y H locs → W p l e ({ frames := 5, cells := 0, slots := 0, locals := 117 } : Room) s m ([.ref (X.1 40 i), .int w] : List Value).toArray below meth c H locs 0 0 (xQ below (CQ sz0 D cs (Pz X Y (fun Z' v => v = none ∧ WKs F Z i (execS F g w (g 0 2 + 1) (g 4 8 + 1)) Z'))) ([.ref (X.1 40 i), .int w] : List Value).toArray s (Asz sz0)) (F0 m 331 ls []) := by
    intro nx H locs ls hl h20 h29 hm n21 n22 hnx hw
    have hE : execS F g w (g 0 2 + 1) (g 4 8 + 1) = supS F g w (g 0 2 + 1) (g 4 8 + 1) := by
      have l20 : 20 < opc w := Int32.not_le.mp h20
      unfold execS
      rw [if_neg (fun q => q (Int32.lt_trans (by decide) l20)), if_neg (fun q => q (Int32.lt_trans (by decide) l20)), if_neg (fun q => q (Int32.lt_trans (by decide) l20)), if_neg (fun q => q l20), if_neg (fun q => q (Int32.not_lt.mp h29)), if_neg hm]
    obtain ⟨s0, s1⟩ := own_sup (nx := g 0 2 + 1) (cn := g 4 8 + 1) hV h14 n21 n22 rfl
    rw [← hnx] at s1
    have k376 : ∀ (sk : Int32) (H : Heap) (locs : List Loc) (ls : Array Slot), lo ls [some (.ref (X.1 40 i)), some (.int w), some (.int (opc w)), some (.int (nI (fD w))), some (.int (g 3 (fA w))), some (.int (g 3 (fB w))), some (.int (numS w)), some (.int nx), some (.int sk)] → sk = (if (opc w = 26 ∧ timeUpv (g 4 8) (g 4 6) = 0 ∧ g 0 14 = 0 ∧ ¬ g 4 6 = 0) then 1 else 0) → Wd sz0 D cs s X Z Y H locs → W p l e ({ frames := 5, cells := 0, slots := 0, locals := 117 } : Room) s m ([.ref (X.1 40 i), .int w] : List Value).toArray below meth c H locs 0 0 (xQ below (CQ sz0 D cs (Pz X Y (fun Z' v => v = none ∧ WKs F Z i (execS F g w (g 0 2 + 1) (g 4 8 + 1)) Z'))) ([.ref (X.1 40 i), .int w] : List Value).toArray s (Asz sz0)) (F0 m 376 ls []) := by
      intro sk H locs ls hl hsk hw
      refine lv_iload_n hx hb dX4_work_376 rfl (hl.at rfl) ?_
      refine lv_bipush (v := 20) hx hb dX4_work_377 (by decide) ?_
      refine lv_icmp_le (tgt := 392) hx hb dX4_work_379 (by decide) (fun h379 => ?_) (fun h379 => ?_)
      · exact absurd h379 h20
      · refine lv_aload_n hx hb dX4_work_382 rfl (hl.at rfl) ?_
        refine lv_iload_n hx hb dX4_work_383 rfl (hl.at rfl) ?_
        refine lv_iload_n hx hb dX4_work_384 rfl (hl.at rfl) ?_
        refine lv_iload hx hb dX4_work_385 (hl.at rfl) ?_
        refine lv_iload hx hb dX4_work_387 (hl.at rfl) ?_
        refine w_callV C hN hw (c_X4_own l sz0 D cs X _ Y i hB F g hF hR hV (opc w) (fD w) lD (g 3 (fA w)) (numS w) n21 n22) ⟨(Nat.le_of_ble_eq_true rfl), (Nat.le_of_ble_eq_true rfl), mw501, mw71, cy_X4_own⟩ mw498 mw499 mw500 (w_rec hw (c0 := 40) (i0 := i) (hB 40 (by decide) (by decide)) rfl rfl) rfl hl.1.1 rfl (Nat.le_of_ble_eq_true rfl) dX4_work_389 ⟨Nat.le_of_ble_eq_true rfl, Nat.le_of_ble_eq_true rfl⟩ (fun X' Z' Y' v k n H locs hp hw => ?_)
        obtain ⟨rfl, rfl, rfl, rfl, rfl, hR1, hS1, h171⟩ := hp
        rw [h17] at h171
        refine lv_aload_n hx hb dX4_work_392 rfl (hl.at rfl) ?_
        refine w_get C hw (c0 := 40) (i0 := i) rfl inA4 5 (by decide) mw78 rfl dX4_work_393 (hB 40 (by decide) (by decide)) rfl rfl rfl ?_
        refine lv_bipush (v := 8) hx hb dX4_work_396 (by decide) ?_
        refine lv_iload hx hb dX4_work_398 (hl.at rfl) ?_
        refine lv_if_eq (tgt := 413) hx hb dX4_work_400 (by decide) (fun h400 => ?_) (fun h400 => ?_)
        · have hns : ¬ (opc w = 26 ∧ timeUpv (g 4 8) (g 4 6) = 0 ∧ g 0 14 = 0 ∧ ¬ g 4 6 = 0) := fun q => absurd (hsk.symm.trans h400) (by rw [if_pos q]; decide)
          rw [if_neg hns] at s1
          refine lv_aload_n hx hb dX4_work_413 rfl (hl.at rfl) ?_
          refine w_get C hw (c0 := 40) (i0 := i) rfl inA4 5 (by decide) mw78 rfl dX4_work_414 (hB 40 (by decide) (by decide)) rfl rfl rfl ?_
          refine lv_bipush (v := 8) hx hb dX4_work_417 (by decide) ?_
          refine w_ild C hw (c0 := 44) (i0 := i) dX4_work_419 (hB 44 (by decide) (by decide)) rfl rfl (vpk (by decide)) (j := 8) (by decide) ?_
          rw [hR1.k (show 8 < 9 by decide)]
          refine lv_iconst (v := 1) hx hb dX4_work_420 (by decide) ?_
          refine lv_iadd hx hb dX4_work_421 ?_
          refine w_ist C hw (c0 := 44) (i0 := i) dX4_work_422 (hB 44 (by decide) (by decide)) rfl (fun _ => rfl) (vpk (by decide)) (j := 8) (by decide) (fun H locs hw => ?_)
          refine lv_aload_n hx hb dX4_work_423 rfl (hl.at rfl) ?_
          refine lv_iload hx hb dX4_work_424 (hl.at rfl) ?_
          refine w_put C hw (c0 := 40) (i0 := i) rfl inA4 tyX4_ok nmX4 10 (by decide) mw172 rfl rfl rfl dX4_work_426 (hB 40 (by decide) (by decide)) rfl rfl rfl rfl (Nat.le_of_ble_eq_true rfl) rfl (fun H locs hw => ?_)
          exact w_vret C hw hr hlocks dX4_work_429 ⟨rfl, rfl, rfl, rfl, rfl, WKs_ok (g1 := (ownS F g (opc w) (fD w) (g 3 (fA w)) (numS w))) (G := g) (nx := nx) (cn := (ownS F g (opc w) (fD w) (g 3 (fA w)) (numS w)) 4 8 + 1) (by rw [hE]; exact s0) (by rw [hE]; exact s1) hR1 hS1 h171⟩
        · have hns : (opc w = 26 ∧ timeUpv (g 4 8) (g 4 6) = 0 ∧ g 0 14 = 0 ∧ ¬ g 4 6 = 0) := Classical.not_not.mp (fun q => h400 (by rw [hsk, if_neg q]))
          rw [if_pos hns] at s1
          refine lv_aload_n hx hb dX4_work_403 rfl (hl.at rfl) ?_
          refine w_get C hw (c0 := 40) (i0 := i) rfl inA4 5 (by decide) mw78 rfl dX4_work_404 (hB 40 (by decide) (by decide)) rfl rfl rfl ?_
          refine lv_bipush (v := 6) hx hb dX4_work_407 (by decide) ?_
          refine w_ild C hw (c0 := 44) (i0 := i) dX4_work_409 (hB 44 (by decide) (by decide)) rfl rfl (vpk (by decide)) (j := 6) (by decide) ?_
          rw [hR1.k (show 6 < 9 by decide)]
          refine lv_goto (tgt := 422) hx hb dX4_work_410 (by decide) ?_
          refine w_ist C hw (c0 := 44) (i0 := i) dX4_work_422 (hB 44 (by decide) (by decide)) rfl (fun _ => rfl) (vpk (by decide)) (j := 8) (by decide) (fun H locs hw => ?_)
          refine lv_aload_n hx hb dX4_work_423 rfl (hl.at rfl) ?_
          refine lv_iload hx hb dX4_work_424 (hl.at rfl) ?_
          refine w_put C hw (c0 := 40) (i0 := i) rfl inA4 tyX4_ok nmX4 10 (by decide) mw172 rfl rfl rfl dX4_work_426 (hB 40 (by decide) (by decide)) rfl rfl rfl rfl (Nat.le_of_ble_eq_true rfl) rfl (fun H locs hw => ?_)
          exact w_vret C hw hr hlocks dX4_work_429 ⟨rfl, rfl, rfl, rfl, rfl, WKs_ok (g1 := (ownS F g (opc w) (fD w) (g 3 (fA w)) (numS w))) (G := g) (nx := nx) (cn := (ownS F g (opc w) (fD w) (g 3 (fA w)) (numS w)) 4 6) (by rw [hE]; exact s0) (by rw [hE]; exact s1) hR1 hS1 h171⟩
    refine lv_aload_n hx hb dX4_work_331 rfl (hl.at rfl) ?_
    refine w_get C hw (c0 := 40) (i0 := i) rfl inA4 17 (by decide) mw457 rfl dX4_work_332 (hB 40 (by decide) (by decide)) rfl rfl rfl ?_
    rw [h17]
    refine lv_if_le (tgt := 339) hx hb dX4_work_335 (by decide) (fun h335 => ?_) (fun h335 => ?_)
    · refine lv_iload_n hx hb dX4_work_339 rfl (hl.at rfl) ?_
      refine lv_bipush (v := 26) hx hb dX4_work_340 (by decide) ?_
      refine lv_icmp_ne (tgt := 373) hx hb dX4_work_342 (by decide) (fun h342 => ?_) (fun h342 => ?_)
      · refine lv_iconst (v := 0) hx hb dX4_work_373 (by decide) ?_
        refine w_istore hx hb dX4_work_374 hl (Nat.le_of_ble_eq_true rfl) (fun ls hl => ?_)
        exact k376 0 _ _ _ hl (by rw [if_neg (fun q => h342 q.1)]) hw
      · refine lv_aload_n hx hb dX4_work_345 rfl (hl.at rfl) ?_
        refine w_callV C hN hw (c_X4_isTimeUp l sz0 D cs X _ Y i hB) ⟨(Nat.le_of_ble_eq_true rfl), (Nat.le_of_ble_eq_true rfl), mw466, mw71, cy_X4_isTimeUp⟩ mw463 mw464 mw465 (w_rec hw (c0 := 40) (i0 := i) (hB 40 (by decide) (by decide)) rfl rfl) rfl hl.1.1 rfl (Nat.le_of_ble_eq_true rfl) dX4_work_346 ⟨Nat.le_of_ble_eq_true rfl, Nat.le_of_ble_eq_true rfl⟩ (fun X' Z' Y' v k n H locs hp hw => ?_)
        obtain ⟨rfl, rfl, rfl, rfl, rfl, rfl⟩ := hp
        rw [e46, e48]
        refine lv_if_ne (tgt := 373) hx hb dX4_work_349 (by decide) (fun h349 => ?_) (fun h349 => ?_)
        · refine lv_iconst (v := 0) hx hb dX4_work_373 (by decide) ?_
          refine w_istore hx hb dX4_work_374 hl (Nat.le_of_ble_eq_true rfl) (fun ls hl => ?_)
          exact k376 0 _ _ _ hl (by rw [if_neg (fun q => h349 q.2.1)]) hw
        · refine lv_aload_n hx hb dX4_work_352 rfl (hl.at rfl) ?_
          refine w_get C hw (c0 := 40) (i0 := i) rfl inA4 14 (by decide) mw163 rfl dX4_work_353 (hB 40 (by decide) (by decide)) rfl rfl rfl ?_
          rw [e14]
          refine lv_if_ne (tgt := 373) hx hb dX4_work_356 (by decide) (fun h356 => ?_) (fun h356 => ?_)
          · refine lv_iconst (v := 0) hx hb dX4_work_373 (by decide) ?_
            refine w_istore hx hb dX4_work_374 hl (Nat.le_of_ble_eq_true rfl) (fun ls hl => ?_)
            exact k376 0 _ _ _ hl (by rw [if_neg (fun q => h356 q.2.2.1)]) hw
          · refine lv_aload_n hx hb dX4_work_359 rfl (hl.at rfl) ?_
            refine w_get C hw (c0 := 40) (i0 := i) rfl inA4 5 (by decide) mw78 rfl dX4_work_360 (hB 40 (by decide) (by decide)) rfl rfl rfl ?_
            refine lv_bipush (v := 6) hx hb dX4_work_363 (by decide) ?_
            refine w_ild C hw (c0 := 44) (i0 := i) dX4_work_365 (hB 44 (by decide) (by decide)) rfl rfl (vpk (by decide)) (j := 6) (by decide) ?_
            rw [e46]
            refine lv_if_eq (tgt := 373) hx hb dX4_work_366 (by decide) (fun h366 => ?_) (fun h366 => ?_)
            · refine lv_iconst (v := 0) hx hb dX4_work_373 (by decide) ?_
              refine w_istore hx hb dX4_work_374 hl (Nat.le_of_ble_eq_true rfl) (fun ls hl => ?_)
              exact k376 0 _ _ _ hl (by rw [if_neg (fun q => q.2.2.2 h366)]) hw
            · refine lv_iconst (v := 1) hx hb dX4_work_369 (by decide) ?_
              refine lv_goto (tgt := 374) hx hb dX4_work_370 (by decide) ?_
              refine w_istore hx hb dX4_work_374 hl (Nat.le_of_ble_eq_true rfl) (fun ls hl => ?_)
              exact k376 1 _ _ _ hl (by rw [if_pos ⟨h342, h349, h356, h366⟩]) hw
    · exact absurd (by decide : (0 : Int32) ≤ 0) h335
  have k148 : ∀ (H : Heap) (locs : List Loc) (ls : Array Slot), lo ls [some (.ref (X.1 40 i)), some (.int w), some (.int (opc w)), some (.int (nI (fD w))), some (.int (g 3 (fA w))), some (.int (g 3 (fB w))), some (.int (numS w)), some (.int (g 0 2 + 1)), none] → ¬ 29 < opc w → (opc w = 21 → ¬ numS w < 0 ∧ numS w ≤ 9) → (opc w = 22 → ¬ numS w < 0 ∧ numS w ≤ 8) → (g 0 3 = 0 → opc w ≤ 20 ∨ ¬ opc w < 30) → (g 0 3 = 0 → opc w = 20 → ¬ g 4 0 &&& 1024 = 0) → Wd sz0 D cs s X Z Y H locs → W p l e ({ frames := 5, cells := 0, slots := 0, locals := 117 } : Room) s m ([.ref (X.1 40 i), .int w] : List Value).toArray below meth c H locs 0 0 (xQ below (CQ sz0 D cs (Pz X Y (fun Z' v => v = none ∧ WKs F Z i (execS F g w (g 0 2 + 1) (g 4 8 + 1)) Z'))) ([.ref (X.1 40 i), .int w] : List Value).toArray s (Asz sz0)) (F0 m 148 ls []) := by
    intro H locs ls hl h29 n21 n22 hpA hpB hw
    refine lv_iload_n hx hb dX4_work_148 rfl (hl.at rfl) ?_
    refine lv_bipush (v := 11) hx hb dX4_work_149 (by decide) ?_
    refine lv_icmp_ge (tgt := 173) hx hb dX4_work_151 (by decide) (fun h151 => ?_) (fun h151 => ?_)
    · have l10 : 10 < opc w := (sc (show (11 : Int32).toInt = (10 : Int32).toInt + 1 by decide)).mp h151
      refine lv_iload_n hx hb dX4_work_173 rfl (hl.at rfl) ?_
      refine lv_bipush (v := 14) hx hb dX4_work_174 (by decide) ?_
      refine lv_icmp_ge (tgt := 195) hx hb dX4_work_176 (by decide) (fun h176 => ?_) (fun h176 => ?_)
      · have l13 : 13 < opc w := (sc (show (14 : Int32).toInt = (13 : Int32).toInt + 1 by decide)).mp h176
        refine lv_iload_n hx hb dX4_work_195 rfl (hl.at rfl) ?_
        refine lv_bipush (v := 17) hx hb dX4_work_196 (by decide) ?_
        refine lv_icmp_ge (tgt := 229) hx hb dX4_work_198 (by decide) (fun h198 => ?_) (fun h198 => ?_)
        · have l16 : 16 < opc w := (sc (show (17 : Int32).toInt = (16 : Int32).toInt + 1 by decide)).mp h198
          refine lv_iload_n hx hb dX4_work_229 rfl (hl.at rfl) ?_
          refine lv_bipush (v := 19) hx hb dX4_work_230 (by decide) ?_
          refine lv_icmp_ge (tgt := 273) hx hb dX4_work_232 (by decide) (fun h232 => ?_) (fun h232 => ?_)
          · have l18 : 18 < opc w := (sc (show (19 : Int32).toInt = (18 : Int32).toInt + 1 by decide)).mp h232
            refine lv_iload_n hx hb dX4_work_273 rfl (hl.at rfl) ?_
            refine lv_bipush (v := 19) hx hb dX4_work_274 (by decide) ?_
            refine lv_icmp_ne (tgt := 295) hx hb dX4_work_276 (by decide) (fun h276 => ?_) (fun h276 => ?_)
            · refine lv_iload_n hx hb dX4_work_295 rfl (hl.at rfl) ?_
              refine lv_bipush (v := 20) hx hb dX4_work_296 (by decide) ?_
              refine lv_icmp_ne (tgt := 317) hx hb dX4_work_298 (by decide) (fun h298 => ?_) (fun h298 => ?_)
              · have l20 : ¬ opc w ≤ 20 := fun q => h298 (Int32.le_antisymm q (by rw [(sc (show (20 : Int32).toInt = (19 : Int32).toInt + 1 by decide))]; exact Int32.lt_of_le_of_ne ((sc (show (19 : Int32).toInt = (18 : Int32).toInt + 1 by decide)).mpr l18) (Ne.symm h276)))
                have hm : ¬ g 0 3 = 0 := fun q => (hpA q).elim l20 (fun r => r (by rw [← Int32.not_le, (sc (show (30 : Int32).toInt = (29 : Int32).toInt + 1 by decide))]; exact h29))
                refine lv_iload_n hx hb dX4_work_317 rfl (hl.at rfl) ?_
                refine lv_bipush (v := 23) hx hb dX4_work_318 (by decide) ?_
                refine lv_icmp_ne (tgt := 331) hx hb dX4_work_320 (by decide) (fun h320 => ?_) (fun h320 => ?_)
                · exact kB _ _ _ _ hl l20 h29 hm n21 n22 (by rw [if_neg h320]) hw
                · refine lv_aload_n hx hb dX4_work_323 rfl (hl.at rfl) ?_
                  refine w_get C hw (c0 := 40) (i0 := i) rfl inA4 5 (by decide) mw78 rfl dX4_work_324 (hB 40 (by decide) (by decide)) rfl rfl rfl ?_
                  refine lv_iconst (v := 2) hx hb dX4_work_327 (by decide) ?_
                  refine w_ild C hw (c0 := 44) (i0 := i) dX4_work_328 (hB 44 (by decide) (by decide)) rfl rfl (vpk (by decide)) (j := 2) (by decide) ?_
                  rw [e42]
                  refine w_istore hx hb dX4_work_329 hl (Nat.le_of_ble_eq_true rfl) (fun ls hl => ?_)
                  exact kB _ _ _ _ hl l20 h29 hm n21 n22 (by rw [if_pos h320]) hw
              · refine lv_aload_n hx hb dX4_work_301 rfl (hl.at rfl) ?_
                refine w_get C hw (c0 := 40) (i0 := i) rfl inA4 4 (by decide) mw77 rfl dX4_work_302 (hB 40 (by decide) (by decide)) rfl rfl rfl ?_
                refine lv_iload_n hx hb dX4_work_305 rfl (hl.at rfl) ?_
                refine lv_aload_n hx hb dX4_work_306 rfl (hl.at rfl) ?_
                refine w_get C hw (c0 := 40) (i0 := i) rfl inA4 5 (by decide) mw78 rfl dX4_work_307 (hB 40 (by decide) (by decide)) rfl rfl rfl ?_
                refine lv_bipush (v := 8) hx hb dX4_work_310 (by decide) ?_
                refine w_ild C hw (c0 := 44) (i0 := i) dX4_work_312 (hB 44 (by decide) (by decide)) rfl rfl (vpk (by decide)) (j := 8) (by decide) ?_
                rw [e48]
                refine w_ist C hw (c0 := 43) (i0 := i) dX4_work_313 (hB 43 (by decide) (by decide)) rfl (fun _ => rfl) (vp_in_nI lD (by decide)) (nI_clamp (by omega)) (fun H locs hw => ?_)
                refine lv_goto (tgt := 331) hx hb dX4_work_314 (by decide) ?_
                exact kA _ _ _ _ _ _ hl (by rw [h298]; decide) (BR_43 hR) (SB.refl.up (by decide) (by decide)) (by rw [upr_k (by decide)]; exact h17) (by unfold execS; rw [if_neg (fun q => q l10), if_neg (fun q => q l13), if_neg (fun q => q l18), if_pos (by rw [h298]; decide)]; unfold cotS; rw [if_neg h276, if_neg (fun q => hpB q.1 h298 q.2)]) (by rw [gu_o (by decide)]) hw
            · have h8 : ¬ (8 + g 0 3 = 0) := by rcases hV.2.1 with q | q <;> rw [q] <;> decide
              have h8p : ¬ (8 + g 0 3 ≤ 0) := by rcases hV.2.1 with q | q <;> rw [q] <;> decide
              refine lv_aload_n hx hb dX4_work_279 rfl (hl.at rfl) ?_
              refine lv_bipush (v := 8) hx hb dX4_work_280 (by decide) ?_
              refine lv_aload_n hx hb dX4_work_282 rfl (hl.at rfl) ?_
              refine w_get C hw (c0 := 40) (i0 := i) rfl inA4 11 (by decide) mw165 rfl dX4_work_283 (hB 40 (by decide) (by decide)) rfl rfl rfl ?_
              rw [em]
              refine lv_iadd hx hb dX4_work_286 ?_
              refine lv_iload hx hb dX4_work_287 (hl.at rfl) ?_
              refine w_callV C hN hw (c_X4_fail l sz0 D cs X _ Y i hB _ _) ⟨(Nat.le_of_ble_eq_true rfl), (Nat.le_of_ble_eq_true rfl), mw470, mw71, cy_X4_fail⟩ mw467 mw468 mw469 (w_rec hw (c0 := 40) (i0 := i) (hB 40 (by decide) (by decide)) rfl rfl) rfl hl.1.1 rfl (Nat.le_of_ble_eq_true rfl) dX4_work_289 ⟨Nat.le_of_ble_eq_true rfl, Nat.le_of_ble_eq_true rfl⟩ (fun X' Z' Y' v k n H locs hp hw => ?_)
              obtain ⟨rfl, rfl, rfl, rfl, rfl, rfl⟩ := hp
              refine lv_goto (tgt := 331) hx hb dX4_work_292 (by decide) ?_
              refine lv_aload_n hx hb dX4_work_331 rfl (hl.at rfl) ?_
              refine w_get C hw (c0 := 40) (i0 := i) rfl inA4 17 (by decide) mw457 rfl dX4_work_332 (hB 40 (by decide) (by decide)) rfl rfl rfl ?_
              rw [upr_s, upd_n (show (17 : Nat) ≠ 18 by decide), upd_s]
              refine lv_if_le (tgt := 339) hx hb dX4_work_335 (by decide) (fun h335 => ?_) (fun h335 => ?_)
              · exact absurd h335 h8p
              · exact w_vret C hw hr hlocks dX4_work_338 ⟨rfl, rfl, rfl, rfl, rfl, WKs_fail (x := g 0 2 + 1) (y := g 4 8 + 1) (by unfold execS; rw [if_neg (fun q => q l10), if_neg (fun q => q l13), if_neg (fun q => q l18), if_pos (by rw [h276]; decide)]; unfold cotS; rw [if_pos h276]) hR SB.refl h8⟩
          · have l18 : ¬ 18 < opc w := fun q => h232 ((sc (show (19 : Int32).toInt = (18 : Int32).toInt + 1 by decide)).mpr q)
            have h20 : opc w ≤ 20 := Int32.le_trans (Int32.not_lt.mp l18) (by decide)
            have n14 : ¬ opc w = 14 := fun q => by rw [q] at l16; exact absurd l16 (by decide)
            have n15 : ¬ opc w = 15 := fun q => by rw [q] at l16; exact absurd l16 (by decide)
            have n16 : ¬ opc w = 16 := fun q => by rw [q] at l16; exact absurd l16 (by decide)
            refine lv_aload_n hx hb dX4_work_235 rfl (hl.at rfl) ?_
            refine w_get C hw (c0 := 40) (i0 := i) rfl inA4 4 (by decide) mw77 rfl dX4_work_236 (hB 40 (by decide) (by decide)) rfl rfl rfl ?_
            refine lv_iload_n hx hb dX4_work_239 rfl (hl.at rfl) ?_
            refine lv_aload_n hx hb dX4_work_240 rfl (hl.at rfl) ?_
            refine w_get C hw (c0 := 40) (i0 := i) rfl inA4 10 (by decide) mw172 rfl dX4_work_241 (hB 40 (by decide) (by decide)) rfl rfl rfl ?_
            rw [epc]
            refine lv_iconst (v := 1) hx hb dX4_work_244 (by decide) ?_
            refine lv_iadd hx hb dX4_work_245 ?_
            refine w_ist C hw (c0 := 43) (i0 := i) dX4_work_246 (hB 43 (by decide) (by decide)) rfl (fun _ => rfl) (vp_in_nI lD (by decide)) (nI_clamp (by omega)) (fun H locs hw => ?_)
            refine lv_iload_n hx hb dX4_work_247 rfl (hl.at rfl) ?_
            refine lv_bipush (v := 17) hx hb dX4_work_248 (by decide) ?_
            refine lv_icmp_ne (tgt := 263) hx hb dX4_work_250 (by decide) (fun h250 => ?_) (fun h250 => ?_)
            · refine lv_iload hx hb dX4_work_263 (hl.at rfl) ?_
              refine lv_iload hx hb dX4_work_265 (hl.at rfl) ?_
              refine lv_iadd hx hb dX4_work_267 ?_
              refine w_istore hx hb dX4_work_268 hl (Nat.le_of_ble_eq_true rfl) (fun ls hl => ?_)
              refine lv_goto (tgt := 331) hx hb dX4_work_270 (by decide) ?_
              exact kA _ _ _ _ _ _ hl h20 (BR_43 hR) (SB.refl.up (by decide) (by decide)) (by rw [upr_k (by decide)]; exact h17) (by unfold execS; rw [if_neg (fun q => q l10), if_neg (fun q => q l13), if_pos l18]; unfold jumpS; rw [if_neg n14, if_neg n15, if_neg n16, if_neg h250]) (by rw [gu_o (by decide)]) hw
            · refine lv_aload_n hx hb dX4_work_253 rfl (hl.at rfl) ?_
              refine w_get C hw (c0 := 40) (i0 := i) rfl inA4 10 (by decide) mw172 rfl dX4_work_254 (hB 40 (by decide) (by decide)) rfl rfl rfl ?_
              rw [upr_k (show (40 : Nat) ≠ 43 by decide), epc]
              refine lv_iload hx hb dX4_work_257 (hl.at rfl) ?_
              refine lv_iadd hx hb dX4_work_259 ?_
              refine lv_goto (tgt := 268) hx hb dX4_work_260 (by decide) ?_
              refine w_istore hx hb dX4_work_268 hl (Nat.le_of_ble_eq_true rfl) (fun ls hl => ?_)
              refine lv_goto (tgt := 331) hx hb dX4_work_270 (by decide) ?_
              exact kA _ _ _ _ _ _ hl h20 (BR_43 hR) (SB.refl.up (by decide) (by decide)) (by rw [upr_k (by decide)]; exact h17) (by unfold execS; rw [if_neg (fun q => q l10), if_neg (fun q => q l13), if_pos l18]; unfold jumpS; rw [if_neg n14, if_neg n15, if_neg n16, if_pos h250]) (by rw [gu_o (by decide)]) hw
        · have l18 : ¬ 18 < opc w := fun q => h198 (Int32.le_of_lt (Int32.lt_trans (by decide) q))
          have h20 : opc w ≤ 20 := Int32.le_trans (Int32.not_lt.mp l18) (by decide)
          have h16 : ¬ opc w = 14 → ¬ opc w = 15 → opc w = 16 := fun a b => op16 l13 (fun q => h198 ((sc (show (17 : Int32).toInt = (16 : Int32).toInt + 1 by decide)).mpr q)) a b
          refine lv_iload_n hx hb dX4_work_201 rfl (hl.at rfl) ?_
          refine lv_iload hx hb dX4_work_202 (hl.at rfl) ?_
          refine lv_iload hx hb dX4_work_204 (hl.at rfl) ?_
          refine w_callS C hN hw (c_X4_goes l sz0 D cs X _ Y _ _ _) ⟨(Nat.le_of_ble_eq_true rfl), (Nat.le_of_ble_eq_true rfl), mw497, mw71, cy_X4_goes⟩ mw495 mw496 rfl hl.1.1 rfl (Nat.le_of_ble_eq_true rfl) dX4_work_206 ⟨Nat.le_of_ble_eq_true rfl, Nat.le_of_ble_eq_true rfl⟩ (fun X' Z' Y' v k n H locs hp hw => ?_)
          obtain ⟨rfl, rfl, rfl, rfl, rfl, rfl⟩ := hp
          refine lv_if_eq (tgt := 222) hx hb dX4_work_209 (by decide) (fun h209 => ?_) (fun h209 => ?_)
          · refine lv_iload hx hb dX4_work_222 (hl.at rfl) ?_
            refine w_istore hx hb dX4_work_224 hl (Nat.le_of_ble_eq_true rfl) (fun ls hl => ?_)
            refine lv_goto (tgt := 331) hx hb dX4_work_226 (by decide) ?_
            exact kA _ _ _ _ _ _ hl h20 hR SB.refl h17 (by unfold execS; rw [if_neg (fun q => q l10), if_neg (fun q => q l13), if_pos l18]; unfold jumpS; exact gj_n h16 h209) rfl hw
          · refine lv_aload_n hx hb dX4_work_212 rfl (hl.at rfl) ?_
            refine w_get C hw (c0 := 40) (i0 := i) rfl inA4 10 (by decide) mw172 rfl dX4_work_213 (hB 40 (by decide) (by decide)) rfl rfl rfl ?_
            rw [epc]
            refine lv_iload hx hb dX4_work_216 (hl.at rfl) ?_
            refine lv_iadd hx hb dX4_work_218 ?_
            refine lv_goto (tgt := 224) hx hb dX4_work_219 (by decide) ?_
            refine w_istore hx hb dX4_work_224 hl (Nat.le_of_ble_eq_true rfl) (fun ls hl => ?_)
            refine lv_goto (tgt := 331) hx hb dX4_work_226 (by decide) ?_
            exact kA _ _ _ _ _ _ hl h20 hR SB.refl h17 (by unfold execS; rw [if_neg (fun q => q l10), if_neg (fun q => q l13), if_pos l18]; unfold jumpS; exact gj_y h16 h209) rfl hw
      · have l13 : ¬ 13 < opc w := fun q => h176 ((sc (show (14 : Int32).toInt = (13 : Int32).toInt + 1 by decide)).mpr q)
        have h20 : opc w ≤ 20 := Int32.le_trans (Int32.not_lt.mp l13) (by decide)
        refine lv_aload_n hx hb dX4_work_179 rfl (hl.at rfl) ?_
        refine lv_iload_n hx hb dX4_work_180 rfl (hl.at rfl) ?_
        refine lv_iload_n hx hb dX4_work_181 rfl (hl.at rfl) ?_
        refine lv_iload hx hb dX4_work_182 (hl.at rfl) ?_
        refine lv_iload hx hb dX4_work_184 (hl.at rfl) ?_
        refine lv_iadd hx hb dX4_work_186 ?_
        refine lv_iload hx hb dX4_work_187 (hl.at rfl) ?_
        refine w_callV C hN hw (c_X4_moved l sz0 D cs X _ Y i hB F g hF hR hV.c h17 (opc w) (fD w) lD _ _) ⟨(Nat.le_of_ble_eq_true rfl), (Nat.le_of_ble_eq_true rfl), mw494, mw71, cy_X4_moved⟩ mw491 mw492 mw493 (w_rec hw (c0 := 40) (i0 := i) (hB 40 (by decide) (by decide)) rfl rfl) rfl hl.1.1 rfl (Nat.le_of_ble_eq_true rfl) dX4_work_189 ⟨Nat.le_of_ble_eq_true rfl, Nat.le_of_ble_eq_true rfl⟩ (fun X' Z' Y' v k n H locs hp hw => ?_)
        obtain ⟨rfl, rfl, rfl, rfl, rfl, hp⟩ := hp
        rw [mv_use] at hp
        obtain ⟨hR1, hS1, hp⟩ := hp
        have hE : execS F g w (g 0 2 + 1) (g 4 8 + 1) = ((useS F g w).1, (useS F g w).2.1, (useS F g w).2.2.1, g 0 2 + 1, g 4 8 + 1) := by unfold execS; rw [if_neg (fun q => q l10), if_pos l13]
        rcases hp with ⟨hc, e17, e18⟩ | ⟨hc, e17⟩
        · refine lv_goto (tgt := 331) hx hb dX4_work_192 (by decide) ?_
          refine lv_aload_n hx hb dX4_work_331 rfl (hl.at rfl) ?_
          refine w_get C hw (c0 := 40) (i0 := i) rfl inA4 17 (by decide) mw457 rfl dX4_work_332 (hB 40 (by decide) (by decide)) rfl rfl rfl ?_
          rw [e17]
          refine lv_if_le (tgt := 339) hx hb dX4_work_335 (by decide) (fun h335 => ?_) (fun h335 => ?_)
          · exact absurd h335 (useS_pos hc)
          · exact w_vret C hw hr hlocks dX4_work_338 ⟨rfl, rfl, rfl, rfl, rfl, by rw [hE]; exact ⟨hS1, Or.inl ⟨hc, hR1, e17, e18⟩⟩⟩
        · refine lv_goto (tgt := 331) hx hb dX4_work_192 (by decide) ?_
          exact kA _ _ _ _ _ _ hl h20 hR1 hS1 e17 (by rw [hE, hc, useS_0 hc]) (by rw [useS_4 hF hV.c]) hw
    · refine lv_aload_n hx hb dX4_work_154 rfl (hl.at rfl) ?_
      refine w_get C hw (c0 := 40) (i0 := i) rfl inA4 4 (by decide) mw77 rfl dX4_work_155 (hB 40 (by decide) (by decide)) rfl rfl rfl ?_
      refine lv_iload_n hx hb dX4_work_158 rfl (hl.at rfl) ?_
      refine lv_iload_n hx hb dX4_work_159 rfl (hl.at rfl) ?_
      refine lv_iload hx hb dX4_work_160 (hl.at rfl) ?_
      refine lv_iload hx hb dX4_work_162 (hl.at rfl) ?_
      refine lv_iload hx hb dX4_work_164 (hl.at rfl) ?_
      refine w_callS C hN hw (c_X4_made l sz0 D cs X _ Y _ _ _ _) ⟨(Nat.le_of_ble_eq_true rfl), (Nat.le_of_ble_eq_true rfl), mw490, mw71, cy_X4_made⟩ mw488 mw489 rfl hl.1.1 rfl (Nat.le_of_ble_eq_true rfl) dX4_work_166 ⟨Nat.le_of_ble_eq_true rfl, Nat.le_of_ble_eq_true rfl⟩ (fun X' Z' Y' v k n H locs hp hw => ?_)
      obtain ⟨rfl, rfl, rfl, rfl, rfl, rfl⟩ := hp
      refine w_ist C hw (c0 := 43) (i0 := i) dX4_work_169 (hB 43 (by decide) (by decide)) rfl (fun _ => rfl) (vp_in_nI lD (by decide)) (nI_clamp (by omega)) (fun H locs hw => ?_)
      refine lv_goto (tgt := 331) hx hb dX4_work_170 (by decide) ?_
      have l10 : ¬ 10 < opc w := fun q => h151 ((sc (show (11 : Int32).toInt = (10 : Int32).toInt + 1 by decide)).mpr q)
      exact kA _ _ _ _ _ _ hl (Int32.le_trans (Int32.not_lt.mp l10) (by decide)) (BR_43 hR) (SB.refl.up (by decide) (by decide)) (by rw [upr_k (by decide)]; exact h17) (by unfold execS; rw [if_pos l10]) (by rw [gu_o (by decide)]) hw
  have k99 : ∀ (H : Heap) (locs : List Loc) (ls : Array Slot), lo ls [some (.ref (X.1 40 i)), some (.int w), some (.int (opc w)), some (.int (nI (fD w))), some (.int (g 3 (fA w))), some (.int (g 3 (fB w))), some (.int (numS w)), some (.int (g 0 2 + 1)), none] → (g 0 3 = 0 → opc w ≤ 20 ∨ ¬ opc w < 30) → (g 0 3 = 0 → opc w = 20 → ¬ g 4 0 &&& 1024 = 0) → Wd sz0 D cs s X Z Y H locs → W p l e ({ frames := 5, cells := 0, slots := 0, locals := 117 } : Room) s m ([.ref (X.1 40 i), .int w] : List Value).toArray below meth c H locs 0 0 (xQ below (CQ sz0 D cs (Pz X Y (fun Z' v => v = none ∧ WKs F Z i (execS F g w (g 0 2 + 1) (g 4 8 + 1)) Z'))) ([.ref (X.1 40 i), .int w] : List Value).toArray s (Asz sz0)) (F0 m 99 ls []) := by
    intro H locs ls hl hpA hpB hw
    refine lv_iload_n hx hb dX4_work_99 rfl (hl.at rfl) ?_
    refine lv_bipush (v := 29) hx hb dX4_work_100 (by decide) ?_
    refine lv_icmp_gt (tgt := 141) hx hb dX4_work_102 (by decide) (fun h102 => ?_) (fun h102 => ?_)
    · refine lv_aload_n hx hb dX4_work_141 rfl (hl.at rfl) ?_
      refine lv_iconst (v := 2) hx hb dX4_work_142 (by decide) ?_
      refine lv_iload_n hx hb dX4_work_143 rfl (hl.at rfl) ?_
      refine w_callV C hN hw (c_X4_fail l sz0 D cs X _ Y i hB _ _) ⟨(Nat.le_of_ble_eq_true rfl), (Nat.le_of_ble_eq_true rfl), mw470, mw71, cy_X4_fail⟩ mw467 mw468 mw469 (w_rec hw (c0 := 40) (i0 := i) (hB 40 (by decide) (by decide)) rfl rfl) rfl hl.1.1 rfl (Nat.le_of_ble_eq_true rfl) dX4_work_144 ⟨Nat.le_of_ble_eq_true rfl, Nat.le_of_ble_eq_true rfl⟩ (fun X' Z' Y' v k n H locs hp hw => ?_)
      obtain ⟨rfl, rfl, rfl, rfl, rfl, rfl⟩ := hp
      exact w_vret C hw hr hlocks dX4_work_147 ⟨rfl, rfl, rfl, rfl, rfl, WKs_fail (x := g 0 2 + 1) (y := g 4 8 + 1) (by unfold execS; rw [if_neg (fun q => q (Int32.lt_trans (by decide) h102)), if_neg (fun q => q (Int32.lt_trans (by decide) h102)), if_neg (fun q => q (Int32.lt_trans (by decide) h102)), if_neg (fun q => q (Int32.lt_trans (by decide) h102)), if_pos (fun q => Int32.not_lt.mpr q h102)]) hR SB.refl (by decide)⟩
    · refine lv_iload_n hx hb dX4_work_105 rfl (hl.at rfl) ?_
      refine lv_bipush (v := 21) hx hb dX4_work_106 (by decide) ?_
      refine lv_icmp_ne (tgt := 123) hx hb dX4_work_108 (by decide) (fun h108 => ?_) (fun h108 => ?_)
      · refine lv_iload_n hx hb dX4_work_123 rfl (hl.at rfl) ?_
        refine lv_bipush (v := 22) hx hb dX4_work_124 (by decide) ?_
        refine lv_icmp_ne (tgt := 148) hx hb dX4_work_126 (by decide) (fun h126 => ?_) (fun h126 => ?_)
        · exact k148 _ _ _ hl h102 (fun q => absurd q h108) (fun q => absurd q h126) hpA hpB hw
        · refine lv_iload hx hb dX4_work_129 (hl.at rfl) ?_
          refine lv_if_lt (tgt := 141) hx hb dX4_work_131 (by decide) (fun h131 => ?_) (fun h131 => ?_)
          · refine lv_aload_n hx hb dX4_work_141 rfl (hl.at rfl) ?_
            refine lv_iconst (v := 2) hx hb dX4_work_142 (by decide) ?_
            refine lv_iload_n hx hb dX4_work_143 rfl (hl.at rfl) ?_
            refine w_callV C hN hw (c_X4_fail l sz0 D cs X _ Y i hB _ _) ⟨(Nat.le_of_ble_eq_true rfl), (Nat.le_of_ble_eq_true rfl), mw470, mw71, cy_X4_fail⟩ mw467 mw468 mw469 (w_rec hw (c0 := 40) (i0 := i) (hB 40 (by decide) (by decide)) rfl rfl) rfl hl.1.1 rfl (Nat.le_of_ble_eq_true rfl) dX4_work_144 ⟨Nat.le_of_ble_eq_true rfl, Nat.le_of_ble_eq_true rfl⟩ (fun X' Z' Y' v k n H locs hp hw => ?_)
            obtain ⟨rfl, rfl, rfl, rfl, rfl, rfl⟩ := hp
            exact w_vret C hw hr hlocks dX4_work_147 ⟨rfl, rfl, rfl, rfl, rfl, WKs_fail (x := g 0 2 + 1) (y := g 4 8 + 1) (by have hm : ¬ g 0 3 = 0 := fun q => (hpA q).elim (fun r => by rw [h126] at r; exact absurd r (by decide)) (fun r => r (by rw [h126]; decide)); unfold execS; rw [h126, if_neg (by decide), if_neg (by decide), if_neg (by decide), if_neg (by decide), if_neg (by decide), if_neg hm]; unfold supS; rw [if_neg (by rw [h126]; decide), if_pos h126]; unfold wcS; rw [if_pos (Or.inl h131)]) hR SB.refl (by decide)⟩
          · refine lv_iload hx hb dX4_work_134 (hl.at rfl) ?_
            refine lv_bipush (v := 8) hx hb dX4_work_136 (by decide) ?_
            refine lv_icmp_le (tgt := 148) hx hb dX4_work_138 (by decide) (fun h138 => ?_) (fun h138 => ?_)
            · exact k148 _ _ _ hl h102 (fun q => absurd q h108) (fun _ => ⟨h131, h138⟩) hpA hpB hw
            · refine lv_aload_n hx hb dX4_work_141 rfl (hl.at rfl) ?_
              refine lv_iconst (v := 2) hx hb dX4_work_142 (by decide) ?_
              refine lv_iload_n hx hb dX4_work_143 rfl (hl.at rfl) ?_
              refine w_callV C hN hw (c_X4_fail l sz0 D cs X _ Y i hB _ _) ⟨(Nat.le_of_ble_eq_true rfl), (Nat.le_of_ble_eq_true rfl), mw470, mw71, cy_X4_fail⟩ mw467 mw468 mw469 (w_rec hw (c0 := 40) (i0 := i) (hB 40 (by decide) (by decide)) rfl rfl) rfl hl.1.1 rfl (Nat.le_of_ble_eq_true rfl) dX4_work_144 ⟨Nat.le_of_ble_eq_true rfl, Nat.le_of_ble_eq_true rfl⟩ (fun X' Z' Y' v k n H locs hp hw => ?_)
              obtain ⟨rfl, rfl, rfl, rfl, rfl, rfl⟩ := hp
              exact w_vret C hw hr hlocks dX4_work_147 ⟨rfl, rfl, rfl, rfl, rfl, WKs_fail (x := g 0 2 + 1) (y := g 4 8 + 1) (by have hm : ¬ g 0 3 = 0 := fun q => (hpA q).elim (fun r => by rw [h126] at r; exact absurd r (by decide)) (fun r => r (by rw [h126]; decide)); unfold execS; rw [h126, if_neg (by decide), if_neg (by decide), if_neg (by decide), if_neg (by decide), if_neg (by decide), if_neg hm]; unfold supS; rw [if_neg (by rw [h126]; decide), if_pos h126]; unfold wcS; rw [if_pos (Or.inr (fun q => h138 (Int32.not_lt.mp (fun r => absurd q (Int32.not_lt.mpr ((sc (show (9 : Int32).toInt = (8 : Int32).toInt + 1 by decide)).mpr r))))))]) hR SB.refl (by decide)⟩
      · refine lv_iload hx hb dX4_work_111 (hl.at rfl) ?_
        refine lv_if_lt (tgt := 141) hx hb dX4_work_113 (by decide) (fun h113 => ?_) (fun h113 => ?_)
        · refine lv_aload_n hx hb dX4_work_141 rfl (hl.at rfl) ?_
          refine lv_iconst (v := 2) hx hb dX4_work_142 (by decide) ?_
          refine lv_iload_n hx hb dX4_work_143 rfl (hl.at rfl) ?_
          refine w_callV C hN hw (c_X4_fail l sz0 D cs X _ Y i hB _ _) ⟨(Nat.le_of_ble_eq_true rfl), (Nat.le_of_ble_eq_true rfl), mw470, mw71, cy_X4_fail⟩ mw467 mw468 mw469 (w_rec hw (c0 := 40) (i0 := i) (hB 40 (by decide) (by decide)) rfl rfl) rfl hl.1.1 rfl (Nat.le_of_ble_eq_true rfl) dX4_work_144 ⟨Nat.le_of_ble_eq_true rfl, Nat.le_of_ble_eq_true rfl⟩ (fun X' Z' Y' v k n H locs hp hw => ?_)
          obtain ⟨rfl, rfl, rfl, rfl, rfl, rfl⟩ := hp
          exact w_vret C hw hr hlocks dX4_work_147 ⟨rfl, rfl, rfl, rfl, rfl, WKs_fail (x := g 0 2 + 1) (y := g 4 8 + 1) (by have hm : ¬ g 0 3 = 0 := fun q => (hpA q).elim (fun r => by rw [h108] at r; exact absurd r (by decide)) (fun r => r (by rw [h108]; decide)); unfold execS; rw [h108, if_neg (by decide), if_neg (by decide), if_neg (by decide), if_neg (by decide), if_neg (by decide), if_neg hm]; unfold supS; rw [if_pos h108]; unfold rcS; rw [if_pos (Or.inl h113)]) hR SB.refl (by decide)⟩
        · refine lv_iload hx hb dX4_work_116 (hl.at rfl) ?_
          refine lv_bipush (v := 9) hx hb dX4_work_118 (by decide) ?_
          refine lv_icmp_gt (tgt := 141) hx hb dX4_work_120 (by decide) (fun h120 => ?_) (fun h120 => ?_)
          · refine lv_aload_n hx hb dX4_work_141 rfl (hl.at rfl) ?_
            refine lv_iconst (v := 2) hx hb dX4_work_142 (by decide) ?_
            refine lv_iload_n hx hb dX4_work_143 rfl (hl.at rfl) ?_
            refine w_callV C hN hw (c_X4_fail l sz0 D cs X _ Y i hB _ _) ⟨(Nat.le_of_ble_eq_true rfl), (Nat.le_of_ble_eq_true rfl), mw470, mw71, cy_X4_fail⟩ mw467 mw468 mw469 (w_rec hw (c0 := 40) (i0 := i) (hB 40 (by decide) (by decide)) rfl rfl) rfl hl.1.1 rfl (Nat.le_of_ble_eq_true rfl) dX4_work_144 ⟨Nat.le_of_ble_eq_true rfl, Nat.le_of_ble_eq_true rfl⟩ (fun X' Z' Y' v k n H locs hp hw => ?_)
            obtain ⟨rfl, rfl, rfl, rfl, rfl, rfl⟩ := hp
            exact w_vret C hw hr hlocks dX4_work_147 ⟨rfl, rfl, rfl, rfl, rfl, WKs_fail (x := g 0 2 + 1) (y := g 4 8 + 1) (by have hm : ¬ g 0 3 = 0 := fun q => (hpA q).elim (fun r => by rw [h108] at r; exact absurd r (by decide)) (fun r => r (by rw [h108]; decide)); unfold execS; rw [h108, if_neg (by decide), if_neg (by decide), if_neg (by decide), if_neg (by decide), if_neg (by decide), if_neg hm]; unfold supS; rw [if_pos h108]; unfold rcS; rw [if_pos (Or.inr (fun q => absurd q (Int32.not_lt.mpr ((sc (show (10 : Int32).toInt = (9 : Int32).toInt + 1 by decide)).mpr h120))))]) hR SB.refl (by decide)⟩
          · refine lv_iload_n hx hb dX4_work_123 rfl (hl.at rfl) ?_
            refine lv_bipush (v := 22) hx hb dX4_work_124 (by decide) ?_
            refine lv_icmp_ne (tgt := 148) hx hb dX4_work_126 (by decide) (fun h126 => ?_) (fun h126 => ?_)
            · exact k148 _ _ _ hl h102 (fun _ => ⟨h113, Int32.not_lt.mp h120⟩) (fun q => absurd q h126) hpA hpB hw
            · refine lv_iload hx hb dX4_work_129 (hl.at rfl) ?_
              refine lv_if_lt (tgt := 141) hx hb dX4_work_131 (by decide) (fun h131 => ?_) (fun h131 => ?_)
              · refine lv_aload_n hx hb dX4_work_141 rfl (hl.at rfl) ?_
                refine lv_iconst (v := 2) hx hb dX4_work_142 (by decide) ?_
                refine lv_iload_n hx hb dX4_work_143 rfl (hl.at rfl) ?_
                refine w_callV C hN hw (c_X4_fail l sz0 D cs X _ Y i hB _ _) ⟨(Nat.le_of_ble_eq_true rfl), (Nat.le_of_ble_eq_true rfl), mw470, mw71, cy_X4_fail⟩ mw467 mw468 mw469 (w_rec hw (c0 := 40) (i0 := i) (hB 40 (by decide) (by decide)) rfl rfl) rfl hl.1.1 rfl (Nat.le_of_ble_eq_true rfl) dX4_work_144 ⟨Nat.le_of_ble_eq_true rfl, Nat.le_of_ble_eq_true rfl⟩ (fun X' Z' Y' v k n H locs hp hw => ?_)
                obtain ⟨rfl, rfl, rfl, rfl, rfl, rfl⟩ := hp
                exact w_vret C hw hr hlocks dX4_work_147 ⟨rfl, rfl, rfl, rfl, rfl, WKs_fail (x := g 0 2 + 1) (y := g 4 8 + 1) (by have hm : ¬ g 0 3 = 0 := fun q => (hpA q).elim (fun r => by rw [h126] at r; exact absurd r (by decide)) (fun r => r (by rw [h126]; decide)); unfold execS; rw [h126, if_neg (by decide), if_neg (by decide), if_neg (by decide), if_neg (by decide), if_neg (by decide), if_neg hm]; unfold supS; rw [if_neg (by rw [h126]; decide), if_pos h126]; unfold wcS; rw [if_pos (Or.inl h131)]) hR SB.refl (by decide)⟩
              · refine lv_iload hx hb dX4_work_134 (hl.at rfl) ?_
                refine lv_bipush (v := 8) hx hb dX4_work_136 (by decide) ?_
                refine lv_icmp_le (tgt := 148) hx hb dX4_work_138 (by decide) (fun h138 => ?_) (fun h138 => ?_)
                · exact k148 _ _ _ hl h102 (fun _ => ⟨h113, Int32.not_lt.mp h120⟩) (fun _ => ⟨h131, h138⟩) hpA hpB hw
                · refine lv_aload_n hx hb dX4_work_141 rfl (hl.at rfl) ?_
                  refine lv_iconst (v := 2) hx hb dX4_work_142 (by decide) ?_
                  refine lv_iload_n hx hb dX4_work_143 rfl (hl.at rfl) ?_
                  refine w_callV C hN hw (c_X4_fail l sz0 D cs X _ Y i hB _ _) ⟨(Nat.le_of_ble_eq_true rfl), (Nat.le_of_ble_eq_true rfl), mw470, mw71, cy_X4_fail⟩ mw467 mw468 mw469 (w_rec hw (c0 := 40) (i0 := i) (hB 40 (by decide) (by decide)) rfl rfl) rfl hl.1.1 rfl (Nat.le_of_ble_eq_true rfl) dX4_work_144 ⟨Nat.le_of_ble_eq_true rfl, Nat.le_of_ble_eq_true rfl⟩ (fun X' Z' Y' v k n H locs hp hw => ?_)
                  obtain ⟨rfl, rfl, rfl, rfl, rfl, rfl⟩ := hp
                  exact w_vret C hw hr hlocks dX4_work_147 ⟨rfl, rfl, rfl, rfl, rfl, WKs_fail (x := g 0 2 + 1) (y := g 4 8 + 1) (by have hm : ¬ g 0 3 = 0 := fun q => (hpA q).elim (fun r => by rw [h126] at r; exact absurd r (by decide)) (fun r => r (by rw [h126]; decide)); unfold execS; rw [h126, if_neg (by decide), if_neg (by decide), if_neg (by decide), if_neg (by decide), if_neg (by decide), if_neg hm]; unfold supS; rw [if_neg (by rw [h126]; decide), if_pos h126]; unfold wcS; rw [if_pos (Or.inr (fun q => h138 (Int32.not_lt.mp (fun r => absurd q (Int32.not_lt.mpr ((sc (show (9 : Int32).toInt = (8 : Int32).toInt + 1 by decide)).mpr r))))))]) hR SB.refl (by decide)⟩
  refine lv_aload_n hx hb dX4_work_58 rfl (hl.at rfl) ?_
  refine w_get C hw (c0 := 40) (i0 := i) rfl inA4 11 (by decide) mw165 rfl dX4_work_59 (hB 40 (by decide) (by decide)) rfl rfl rfl ?_
  rw [em]
  refine lv_if_ne (tgt := 99) hx hb dX4_work_62 (by decide) (fun h62 => ?_) (fun h62 => ?_)
  · exact k99 _ _ _ hl (fun q => absurd q h62) (fun q => absurd q h62) hw
  · refine lv_iload_n hx hb dX4_work_65 rfl (hl.at rfl) ?_
    refine lv_bipush (v := 20) hx hb dX4_work_66 (by decide) ?_
    refine lv_icmp_le (tgt := 77) hx hb dX4_work_68 (by decide) (fun h68 => ?_) (fun h68 => ?_)
    · refine lv_iload_n hx hb dX4_work_77 rfl (hl.at rfl) ?_
      refine lv_bipush (v := 20) hx hb dX4_work_78 (by decide) ?_
      refine lv_icmp_ne (tgt := 99) hx hb dX4_work_80 (by decide) (fun h80 => ?_) (fun h80 => ?_)
      · exact k99 _ _ _ hl (fun _ => Or.inl h68) (fun _ q => absurd q h80) hw
      · refine lv_aload_n hx hb dX4_work_83 rfl (hl.at rfl) ?_
        refine lv_bipush (v := 10) hx hb dX4_work_84 (by decide) ?_
        refine w_callV C hN hw (c_X4_hasStatus l sz0 D cs X _ Y i hB _) ⟨(Nat.le_of_ble_eq_true rfl), (Nat.le_of_ble_eq_true rfl), mw462, mw71, cy_X4_hasStatus⟩ mw459 mw460 mw461 (w_rec hw (c0 := 40) (i0 := i) (hB 40 (by decide) (by decide)) rfl rfl) rfl hl.1.1 rfl (Nat.le_of_ble_eq_true rfl) dX4_work_86 ⟨Nat.le_of_ble_eq_true rfl, Nat.le_of_ble_eq_true rfl⟩ (fun X' Z' Y' v k n H locs hp hw => ?_)
        obtain ⟨rfl, rfl, rfl, rfl, rfl, rfl⟩ := hp
        rw [e40, hs_10]
        refine lv_if_ne (tgt := 99) hx hb dX4_work_89 (by decide) (fun h89 => ?_) (fun h89 => ?_)
        · exact k99 _ _ _ hl (fun _ => Or.inl h68) (fun _ _ q => h89 (by rw [if_pos q])) hw
        · have hz : g 4 0 &&& 1024 = 0 := Classical.not_not.mp (fun q => absurd h89 (by rw [if_neg q]; decide))
          refine lv_aload_n hx hb dX4_work_92 rfl (hl.at rfl) ?_
          refine lv_iconst (v := 3) hx hb dX4_work_93 (by decide) ?_
          refine lv_iload_n hx hb dX4_work_94 rfl (hl.at rfl) ?_
          refine w_callV C hN hw (c_X4_fail l sz0 D cs X _ Y i hB _ _) ⟨(Nat.le_of_ble_eq_true rfl), (Nat.le_of_ble_eq_true rfl), mw470, mw71, cy_X4_fail⟩ mw467 mw468 mw469 (w_rec hw (c0 := 40) (i0 := i) (hB 40 (by decide) (by decide)) rfl rfl) rfl hl.1.1 rfl (Nat.le_of_ble_eq_true rfl) dX4_work_95 ⟨Nat.le_of_ble_eq_true rfl, Nat.le_of_ble_eq_true rfl⟩ (fun X' Z' Y' v k n H locs hp hw => ?_)
          obtain ⟨rfl, rfl, rfl, rfl, rfl, rfl⟩ := hp
          exact w_vret C hw hr hlocks dX4_work_98 ⟨rfl, rfl, rfl, rfl, rfl, WKs_fail (x := g 0 2 + 1) (y := g 4 8 + 1) (by unfold execS; rw [h80, if_neg (by decide), if_neg (by decide), if_neg (by decide), if_pos (by decide)]; unfold cotS; rw [if_neg (by rw [h80]; decide), if_pos ⟨h62, hz⟩]) hR SB.refl (by decide)⟩
    · refine lv_iload_n hx hb dX4_work_71 rfl (hl.at rfl) ?_
      refine lv_bipush (v := 30) hx hb dX4_work_72 (by decide) ?_
      refine lv_icmp_lt (tgt := 92) hx hb dX4_work_74 (by decide) (fun h74 => ?_) (fun h74 => ?_)
      · have l20 : 20 < opc w := Int32.not_le.mp h68
        refine lv_aload_n hx hb dX4_work_92 rfl (hl.at rfl) ?_
        refine lv_iconst (v := 3) hx hb dX4_work_93 (by decide) ?_
        refine lv_iload_n hx hb dX4_work_94 rfl (hl.at rfl) ?_
        refine w_callV C hN hw (c_X4_fail l sz0 D cs X _ Y i hB _ _) ⟨(Nat.le_of_ble_eq_true rfl), (Nat.le_of_ble_eq_true rfl), mw470, mw71, cy_X4_fail⟩ mw467 mw468 mw469 (w_rec hw (c0 := 40) (i0 := i) (hB 40 (by decide) (by decide)) rfl rfl) rfl hl.1.1 rfl (Nat.le_of_ble_eq_true rfl) dX4_work_95 ⟨Nat.le_of_ble_eq_true rfl, Nat.le_of_ble_eq_true rfl⟩ (fun X' Z' Y' v k n H locs hp hw => ?_)
        obtain ⟨rfl, rfl, rfl, rfl, rfl, rfl⟩ := hp
        exact w_vret C hw hr hlocks dX4_work_98 ⟨rfl, rfl, rfl, rfl, rfl, WKs_fail (x := g 0 2 + 1) (y := g 4 8 + 1) (by unfold execS; rw [if_neg (fun q => q (Int32.lt_trans (by decide) l20)), if_neg (fun q => q (Int32.lt_trans (by decide) l20)), if_neg (fun q => q (Int32.lt_trans (by decide) l20)), if_neg (fun q => q l20), if_neg (fun q => q (Int32.not_lt.mp (fun r => absurd h74 (Int32.not_lt.mpr ((sc (show (30 : Int32).toInt = (29 : Int32).toInt + 1 by decide)).mpr r))))), if_pos h62]) hR SB.refl (by decide)⟩
      · refine lv_iload_n hx hb dX4_work_77 rfl (hl.at rfl) ?_
        refine lv_bipush (v := 20) hx hb dX4_work_78 (by decide) ?_
        refine lv_icmp_ne (tgt := 99) hx hb dX4_work_80 (by decide) (fun h80 => ?_) (fun h80 => ?_)
        · exact k99 _ _ _ hl (fun _ => Or.inr h74) (fun _ q => absurd q h80) hw
        · refine lv_aload_n hx hb dX4_work_83 rfl (hl.at rfl) ?_
          refine lv_bipush (v := 10) hx hb dX4_work_84 (by decide) ?_
          refine w_callV C hN hw (c_X4_hasStatus l sz0 D cs X _ Y i hB _) ⟨(Nat.le_of_ble_eq_true rfl), (Nat.le_of_ble_eq_true rfl), mw462, mw71, cy_X4_hasStatus⟩ mw459 mw460 mw461 (w_rec hw (c0 := 40) (i0 := i) (hB 40 (by decide) (by decide)) rfl rfl) rfl hl.1.1 rfl (Nat.le_of_ble_eq_true rfl) dX4_work_86 ⟨Nat.le_of_ble_eq_true rfl, Nat.le_of_ble_eq_true rfl⟩ (fun X' Z' Y' v k n H locs hp hw => ?_)
          obtain ⟨rfl, rfl, rfl, rfl, rfl, rfl⟩ := hp
          rw [e40, hs_10]
          refine lv_if_ne (tgt := 99) hx hb dX4_work_89 (by decide) (fun h89 => ?_) (fun h89 => ?_)
          · exact k99 _ _ _ hl (fun _ => Or.inr h74) (fun _ _ q => h89 (by rw [if_pos q])) hw
          · have hz : g 4 0 &&& 1024 = 0 := Classical.not_not.mp (fun q => absurd h89 (by rw [if_neg q]; decide))
            refine lv_aload_n hx hb dX4_work_92 rfl (hl.at rfl) ?_
            refine lv_iconst (v := 3) hx hb dX4_work_93 (by decide) ?_
            refine lv_iload_n hx hb dX4_work_94 rfl (hl.at rfl) ?_
            refine w_callV C hN hw (c_X4_fail l sz0 D cs X _ Y i hB _ _) ⟨(Nat.le_of_ble_eq_true rfl), (Nat.le_of_ble_eq_true rfl), mw470, mw71, cy_X4_fail⟩ mw467 mw468 mw469 (w_rec hw (c0 := 40) (i0 := i) (hB 40 (by decide) (by decide)) rfl rfl) rfl hl.1.1 rfl (Nat.le_of_ble_eq_true rfl) dX4_work_95 ⟨Nat.le_of_ble_eq_true rfl, Nat.le_of_ble_eq_true rfl⟩ (fun X' Z' Y' v k n H locs hp hw => ?_)
            obtain ⟨rfl, rfl, rfl, rfl, rfl, rfl⟩ := hp
            exact w_vret C hw hr hlocks dX4_work_98 ⟨rfl, rfl, rfl, rfl, rfl, WKs_fail (x := g 0 2 + 1) (y := g 4 8 + 1) (by unfold execS; rw [h80, if_neg (by decide), if_neg (by decide), if_neg (by decide), if_pos (by decide)]; unfold cotS; rw [if_neg (by rw [h80]; decide), if_pos ⟨h62, hz⟩]) hR SB.refl (by decide)⟩

set_option maxHeartbeats 4000000 in
set_option maxRecDepth 100000 in
theorem c_X4_step (l : Launch) (sz0 : Nat) (D : va_G) (cs : Nat → ClassId) (X : Sh) (Z : ZT) (Y : va_W) (i : Nat) (hB : BI X i) (F : Nat) (g : GS) (hF : F ≤ 64) (hR : BRr Z i F g) (hV : GInv F g) : Ctr l yX4_step (wsM yX4_step cX4_step 2 none) ({ frames := 6, cells := 0, slots := 0, locals := 145 } : Room) sz0 D cs [.ref (X.1 40 i)] X Z Y (Pz X Y (fun Z' v => v = none ∧ BRr Z' i F (stepS F g) ∧ SB Z i Z')) := by
  refine Ctr.ofW (by decide +kernel) (by intro v hv; simp at hv; rcases hv with rfl <;> rfl) (Nat.le_of_ble_eq_true rfl) ?_
  intro p e s m below meth c ls C hr hlocks hname hl hN hw
  obtain ⟨hx, hb, hml, hown, hts⟩ := id C
  have epc : Z 40 i 10 = g 0 2 := hR.1.2.2.1
  have e14 : Z 40 i 14 = g 0 14 := hR.1.2.2.2.2.2.2.1
  have e40 : Z 44 i 0 = g 4 0 := hR.k (by decide)
  have e46 : Z 44 i 6 = g 4 6 := hR.k (by decide)
  have e48 : Z 44 i 8 = g 4 8 := hR.k (by decide)
  have kT : ∀ (Z1 : ZT) (g1 : GS) (c1 b1 : Int32) (sa : Option Value) (H : Heap) (locs : List Loc) (ls : Array Slot), lo ls [some (.ref (X.1 40 i)), sa] → BRr Z1 i F g1 → SB Z i Z1 → ¬ c1 = 0 → Z1 40 i 17 = c1 → Z1 40 i 18 = b1 → GInv F g1 → stepS F g = trapS g1 c1 b1 → Wd sz0 D cs s X Z1 Y H locs → W p l e ({ frames := 6, cells := 0, slots := 0, locals := 145 } : Room) s m ([.ref (X.1 40 i)] : List Value).toArray below meth c H locs 0 0 (xQ below (CQ sz0 D cs (Pz X Y (fun Z' v => v = none ∧ BRr Z' i F (stepS F g) ∧ SB Z i Z'))) ([.ref (X.1 40 i)] : List Value).toArray s (Asz sz0)) (F0 m 101 ls []) := by
    intro Z1 g1 c1 b1 sa H locs ls hl hR1 hS1 hc e17 e18 hV1 hT hw
    have f10 : Z1 40 i 10 = g1 0 2 := hR1.1.2.2.1
    have f11 : Z1 40 i 11 = g1 0 3 := hR1.1.2.2.2.1
    have f16 : Z1 40 i 16 = g1 0 5 := hR1.1.2.2.2.2.2.1
    have f0 : Z1 44 i 0 = g1 4 0 := hR1.k (by decide)
    have f4 : Z1 44 i 4 = g1 4 4 := hR1.k (by decide)
    refine lv_aload_n hx hb dX4_step_101 rfl (hl.at rfl) ?_
    refine w_get C hw (c0 := 40) (i0 := i) rfl inA4 17 (by decide) mw457 rfl dX4_step_102 (hB 40 (by decide) (by decide)) rfl rfl rfl ?_
    rw [e17]
    refine lv_if_ne (tgt := 109) hx hb dX4_step_105 (by decide) (fun h105 => ?_) (fun h105 => ?_)
    · refine lv_aload_n hx hb dX4_step_109 rfl (hl.at rfl) ?_
      refine w_get C hw (c0 := 40) (i0 := i) rfl inA4 5 (by decide) mw78 rfl dX4_step_110 (hB 40 (by decide) (by decide)) rfl rfl rfl ?_
      refine lv_iconst (v := 1) hx hb dX4_step_113 (by decide) ?_
      refine lv_aload_n hx hb dX4_step_114 rfl (hl.at rfl) ?_
      refine w_get C hw (c0 := 40) (i0 := i) rfl inA4 17 (by decide) mw457 rfl dX4_step_115 (hB 40 (by decide) (by decide)) rfl rfl rfl ?_
      rw [e17]
      refine w_ist C hw (c0 := 44) (i0 := i) dX4_step_118 (hB 44 (by decide) (by decide)) rfl (fun _ => rfl) (vpk (by decide)) (j := 1) (by decide) (fun H locs hw => ?_)
      refine lv_aload_n hx hb dX4_step_119 rfl (hl.at rfl) ?_
      refine w_get C hw (c0 := 40) (i0 := i) rfl inA4 5 (by decide) mw78 rfl dX4_step_120 (hB 40 (by decide) (by decide)) rfl rfl rfl ?_
      refine lv_iconst (v := 2) hx hb dX4_step_123 (by decide) ?_
      refine lv_aload_n hx hb dX4_step_124 rfl (hl.at rfl) ?_
      refine w_get C hw (c0 := 40) (i0 := i) rfl inA4 10 (by decide) mw172 rfl dX4_step_125 (hB 40 (by decide) (by decide)) rfl rfl rfl ?_
      rw [upr_k (show (40 : Nat) ≠ 44 by decide), f10]
      refine w_ist C hw (c0 := 44) (i0 := i) dX4_step_128 (hB 44 (by decide) (by decide)) rfl (fun _ => rfl) (vpk (by decide)) (j := 2) (by decide) (fun H locs hw => ?_)
      refine lv_aload_n hx hb dX4_step_129 rfl (hl.at rfl) ?_
      refine w_get C hw (c0 := 40) (i0 := i) rfl inA4 5 (by decide) mw78 rfl dX4_step_130 (hB 40 (by decide) (by decide)) rfl rfl rfl ?_
      refine lv_iconst (v := 3) hx hb dX4_step_133 (by decide) ?_
      refine lv_aload_n hx hb dX4_step_134 rfl (hl.at rfl) ?_
      refine w_get C hw (c0 := 40) (i0 := i) rfl inA4 18 (by decide) mw458 rfl dX4_step_135 (hB 40 (by decide) (by decide)) rfl rfl rfl ?_
      rw [upr_k (show (40 : Nat) ≠ 44 by decide), upr_k (show (40 : Nat) ≠ 44 by decide), e18]
      refine w_ist C hw (c0 := 44) (i0 := i) dX4_step_138 (hB 44 (by decide) (by decide)) rfl (fun _ => rfl) (vpk (by decide)) (j := 3) (by decide) (fun H locs hw => ?_)
      rw [upr_uu, upr_s, upr_uu, upr_s] at hw
      refine lv_aload_n hx hb dX4_step_139 rfl (hl.at rfl) ?_
      refine w_get C hw (c0 := 40) (i0 := i) rfl inA4 5 (by decide) mw78 rfl dX4_step_140 (hB 40 (by decide) (by decide)) rfl rfl rfl ?_
      refine lv_iconst (v := 0) hx hb dX4_step_143 (by decide) ?_
      refine lv_aload_n hx hb dX4_step_144 rfl (hl.at rfl) ?_
      refine w_get C hw (c0 := 40) (i0 := i) rfl inA4 5 (by decide) mw78 rfl dX4_step_145 (hB 40 (by decide) (by decide)) rfl rfl rfl ?_
      refine lv_iconst (v := 0) hx hb dX4_step_148 (by decide) ?_
      refine w_ild C hw (c0 := 44) (i0 := i) dX4_step_149 (hB 44 (by decide) (by decide)) rfl rfl (vpk (by decide)) (j := 0) (by decide) ?_
      rw [upr_s, upd_n (show (0 : Nat) ≠ 3 by decide), upd_n (show (0 : Nat) ≠ 2 by decide), upd_n (show (0 : Nat) ≠ 1 by decide), f0]
      refine lv_bipush (v := -8) hx hb dX4_step_150 (by decide) ?_
      refine lv_iand hx hb dX4_step_152 ?_
      refine lv_aload_n hx hb dX4_step_153 rfl (hl.at rfl) ?_
      refine w_get C hw (c0 := 40) (i0 := i) rfl inA4 5 (by decide) mw78 rfl dX4_step_154 (hB 40 (by decide) (by decide)) rfl rfl rfl ?_
      refine lv_iconst (v := 0) hx hb dX4_step_157 (by decide) ?_
      refine w_ild C hw (c0 := 44) (i0 := i) dX4_step_158 (hB 44 (by decide) (by decide)) rfl rfl (vpk (by decide)) (j := 0) (by decide) ?_
      rw [upr_s, upd_n (show (0 : Nat) ≠ 3 by decide), upd_n (show (0 : Nat) ≠ 2 by decide), upd_n (show (0 : Nat) ≠ 1 by decide), f0]
      refine lv_iconst (v := 1) hx hb dX4_step_159 (by decide) ?_
      refine lv_iand hx hb dX4_step_160 ?_
      refine lv_iconst (v := 1) hx hb dX4_step_161 (by decide) ?_
      refine lv_ishl hx hb dX4_step_162 ?_
      refine lv_ior hx hb dX4_step_163 ?_
      refine lv_aload_n hx hb dX4_step_164 rfl (hl.at rfl) ?_
      refine w_get C hw (c0 := 40) (i0 := i) rfl inA4 11 (by decide) mw165 rfl dX4_step_165 (hB 40 (by decide) (by decide)) rfl rfl rfl ?_
      rw [upr_k (show (40 : Nat) ≠ 44 by decide), f11]
      refine lv_iconst (v := 2) hx hb dX4_step_168 (by decide) ?_
      refine lv_ishl hx hb dX4_step_169 ?_
      refine lv_ior hx hb dX4_step_170 ?_
      rw [st_trap hV1.1 hV1.2.1]
      refine w_ist C hw (c0 := 44) (i0 := i) dX4_step_171 (hB 44 (by decide) (by decide)) rfl (fun _ => rfl) (vpk (by decide)) (j := 0) (by decide) (fun H locs hw => ?_)
      rw [upr_uu, upr_s] at hw
      refine lv_aload_n hx hb dX4_step_172 rfl (hl.at rfl) ?_
      refine lv_iconst (v := 1) hx hb dX4_step_173 (by decide) ?_
      refine w_put C hw (c0 := 40) (i0 := i) rfl inA4 tyX4_ok nmX4 11 (by decide) mw165 rfl rfl rfl dX4_step_174 (hB 40 (by decide) (by decide)) rfl rfl rfl rfl (Nat.le_of_ble_eq_true rfl) rfl (fun H locs hw => ?_)
      refine lv_aload_n hx hb dX4_step_177 rfl (hl.at rfl) ?_
      refine lv_aload_n hx hb dX4_step_178 rfl (hl.at rfl) ?_
      refine w_get C hw (c0 := 40) (i0 := i) rfl inA4 5 (by decide) mw78 rfl dX4_step_179 (hB 40 (by decide) (by decide)) rfl rfl rfl ?_
      refine lv_iconst (v := 4) hx hb dX4_step_182 (by decide) ?_
      refine w_ild C hw (c0 := 44) (i0 := i) dX4_step_183 (hB 44 (by decide) (by decide)) rfl rfl (vpk (by decide)) (j := 4) (by decide) ?_
      rw [upr_k (show (44 : Nat) ≠ 40 by decide), upr_s, upd_n (show (4 : Nat) ≠ 0 by decide), upd_n (show (4 : Nat) ≠ 3 by decide), upd_n (show (4 : Nat) ≠ 2 by decide), upd_n (show (4 : Nat) ≠ 1 by decide), f4]
      refine w_put C hw (c0 := 40) (i0 := i) rfl inA4 tyX4_ok nmX4 10 (by decide) mw172 rfl rfl rfl dX4_step_184 (hB 40 (by decide) (by decide)) rfl rfl rfl rfl (Nat.le_of_ble_eq_true rfl) rfl (fun H locs hw => ?_)
      refine lv_aload_n hx hb dX4_step_187 rfl (hl.at rfl) ?_
      refine lv_dup hx hb dX4_step_188 rfl ?_
      refine w_get C hw (c0 := 40) (i0 := i) rfl inA4 16 (by decide) mw173 rfl dX4_step_189 (hB 40 (by decide) (by decide)) rfl rfl rfl ?_
      rw [upr_s, upd_n (show (16 : Nat) ≠ 10 by decide), upr_s, upd_n (show (16 : Nat) ≠ 11 by decide), upr_k (show (40 : Nat) ≠ 44 by decide), f16]
      refine lv_iconst (v := 1) hx hb dX4_step_192 (by decide) ?_
      refine lv_iadd hx hb dX4_step_193 ?_
      refine w_put C hw (c0 := 40) (i0 := i) rfl inA4 tyX4_ok nmX4 16 (by decide) mw173 rfl rfl rfl dX4_step_194 (hB 40 (by decide) (by decide)) rfl rfl rfl rfl (Nat.le_of_ble_eq_true rfl) rfl (fun H locs hw => ?_)
      have q1 := BR_44 (d := 0) (x := (g1 4 0 &&& 1792) ||| ((if g1 4 0 &&& 1 = 0 then 0 else 2) ||| (if g1 0 3 = 0 then 0 else 4))) (BR_44 (d := 3) (x := b1) (BR_44 (d := 2) (x := g1 0 2) (BR_44 (d := 1) (x := c1) hR1)))
      rw [upr_uu, upr_s, upr_uu, upr_s, upr_uu, upr_s] at q1
      have q2 := BR_n (d := 16) (d' := 5) (x := g1 0 5 + 1) (BR_n (d := 10) (d' := 2) (x := g1 4 4) (BR_n (d := 11) (d' := 3) (x := 1) q1 rfl) rfl) rfl
      rw [trap_eq] at q2
      exact w_vret C hw hr hlocks dX4_step_197 ⟨rfl, rfl, rfl, rfl, rfl, by rw [hT]; exact q2, (((hS1.up (by decide) (by decide)).u40 (by decide)).u40 (by decide)).u40 (by decide)⟩
    · exact absurd h105 hc
  have hR0 : BRr (upr Z 40 i (upd (Z 40 i) 17 0)) i F g := BR_nt hR (by decide)
  have hS0 : SB Z i (upr Z 40 i (upd (Z 40 i) 17 0)) := SB.refl.u40 (by decide)
  have f17 : (upr Z 40 i (upd (Z 40 i) 17 0)) 40 i 17 = 0 := by rw [upr_s, upd_s]
  have f10 : (upr Z 40 i (upd (Z 40 i) 17 0)) 40 i 10 = g 0 2 := by rw [upr_s, upd_n (by decide)]; exact epc
  have f44 : (upr Z 40 i (upd (Z 40 i) 17 0)) 44 i = Z 44 i := upr_k (by decide)
  have f14 : (upr Z 40 i (upd (Z 40 i) 17 0)) 40 i 14 = g 0 14 := by rw [upr_s, upd_n (by decide)]; exact e14
  have k73 : ∀ (Z1 : ZT) (H : Heap) (locs : List Loc) (ls : Array Slot), Z1 = (upr Z 40 i (upd (Z 40 i) 17 0)) → lo ls [some (.ref (X.1 40 i)), none] → lineS (g 4 0) (g 4 8) (g 4 6) (g 0 14) = 0 → Wd sz0 D cs s X Z1 Y H locs → W p l e ({ frames := 6, cells := 0, slots := 0, locals := 145 } : Room) s m ([.ref (X.1 40 i)] : List Value).toArray below meth c H locs 0 0 (xQ below (CQ sz0 D cs (Pz X Y (fun Z' v => v = none ∧ BRr Z' i F (stepS F g) ∧ SB Z i Z'))) ([.ref (X.1 40 i)] : List Value).toArray s (Asz sz0)) (F0 m 73 ls []) := by
    intro Z1 H locs ls hZ1 hl hL hw
    rw [← hZ1] at hR0 hS0 f17 f10
    refine lv_aload_n hx hb dX4_step_73 rfl (hl.at rfl) ?_
    refine lv_aload_n hx hb dX4_step_74 rfl (hl.at rfl) ?_
    refine w_get C hw (c0 := 40) (i0 := i) rfl inA4 10 (by decide) mw172 rfl dX4_step_75 (hB 40 (by decide) (by decide)) rfl rfl rfl ?_
    rw [f10]
    refine lv_bipush (v := 11) hx hb dX4_step_78 (by decide) ?_
    refine w_callV C hN hw (c_X4_reach l sz0 D cs X _ Y i hB F g hF hR0 hV.c f17 (g 0 2) 11 (by decide)) ⟨(Nat.le_of_ble_eq_true rfl), (Nat.le_of_ble_eq_true rfl), mw474, mw71, cy_X4_reach⟩ mw471 mw472 mw473 (w_rec hw (c0 := 40) (i0 := i) (hB 40 (by decide) (by decide)) rfl rfl) rfl hl.1.1 rfl (Nat.le_of_ble_eq_true rfl) dX4_step_80 ⟨Nat.le_of_ble_eq_true rfl, Nat.le_of_ble_eq_true rfl⟩ (fun X' Z' Y' v k n H locs hp hw => ?_)
    obtain ⟨rfl, rfl, rfl, rfl, hp⟩ := hp
    have hV1 := locS_inv (a := g 0 2) (kind := 11) hF hV (by decide)
    obtain ⟨m1, -, m3⟩ := locS_ok (F := F) (g := g) (a := g 0 2) (kind := 11) hF hV.c (by decide)
    have hst : stepS F g = (if ¬ (locS F g (g 0 2) 11).2.1 = 0 then trapS (locS F g (g 0 2) 11).1 (locS F g (g 0 2) 11).2.1 (locS F g (g 0 2) 11).2.2.1 else finS (execS F (locS F g (g 0 2) 11).1 ((locS F g (g 0 2) 11).1 1 (locS F g (g 0 2) 11).2.2.2.toNatClampNeg) (g 0 2 + 1) (g 4 8 + 1))) := by unfold stepS; rw [if_neg (fun q => q hL)]
    generalize locS F g (g 0 2) 11 = r at hp hV1 m1 m3 hst
    obtain ⟨hR1, hS1, hp⟩ := hp
    rcases hp with ⟨hc, e17, e18, rfl⟩ | ⟨hc, e17, rfl⟩
    · rw [if_pos hc] at hst
      refine w_istore_n hx hb dX4_step_83 rfl hl (Nat.le_of_ble_eq_true rfl) (fun ls hl => ?_)
      refine lv_aload_n hx hb dX4_step_84 rfl (hl.at rfl) ?_
      refine w_get C hw (c0 := 40) (i0 := i) rfl inA4 17 (by decide) mw457 rfl dX4_step_85 (hB 40 (by decide) (by decide)) rfl rfl rfl ?_
      rw [e17]
      refine lv_if_ne (tgt := 101) hx hb dX4_step_88 (by decide) (fun h88 => ?_) (fun h88 => ?_)
      · exact kT _ r.1 r.2.1 r.2.2.1 _ _ _ _ hl hR1 (hS0.trans hS1) hc e17 e18 hV1 hst hw
      · exact absurd h88 hc
    · rw [if_neg (fun q => q hc)] at hst
      obtain ⟨n, hn, en⟩ := m3 hc
      have ecl : r.2.2.2.toNatClampNeg = n := by rw [en, nI_clamp (by omega)]
      rw [ecl] at hst
      rw [en]
      refine w_istore_n hx hb dX4_step_83 rfl hl (Nat.le_of_ble_eq_true rfl) (fun ls hl => ?_)
      refine lv_aload_n hx hb dX4_step_84 rfl (hl.at rfl) ?_
      refine w_get C hw (c0 := 40) (i0 := i) rfl inA4 17 (by decide) mw457 rfl dX4_step_85 (hB 40 (by decide) (by decide)) rfl rfl rfl ?_
      rw [e17]
      refine lv_if_ne (tgt := 101) hx hb dX4_step_88 (by decide) (fun h88 => ?_) (fun h88 => ?_)
      · exact absurd rfl h88
      · refine lv_aload_n hx hb dX4_step_91 rfl (hl.at rfl) ?_
        refine lv_aload_n hx hb dX4_step_92 rfl (hl.at rfl) ?_
        refine w_get C hw (c0 := 40) (i0 := i) rfl inA4 2 (by decide) mw75 rfl dX4_step_93 (hB 40 (by decide) (by decide)) rfl rfl rfl ?_
        refine lv_iload_n hx hb dX4_step_96 rfl (hl.at rfl) ?_
        refine w_ild C hw (c0 := 41) (i0 := i) dX4_step_97 (hB 41 (by decide) (by decide)) rfl rfl (vp_in_nI (show n < 4096 by omega) (by decide)) (nI_clamp (by omega)) ?_
        rw [hR1.m hn]
        refine w_callV C hN hw (c_X4_work l sz0 D cs X _ Y i hB F r.1 hF hR1 hV1 e17 (r.1 1 n)) ⟨(Nat.le_of_ble_eq_true rfl), (Nat.le_of_ble_eq_true rfl), mw487, mw71, cy_X4_work⟩ mw484 mw485 mw486 (w_rec hw (c0 := 40) (i0 := i) (hB 40 (by decide) (by decide)) rfl rfl) rfl hl.1.1 rfl (Nat.le_of_ble_eq_true rfl) dX4_step_98 ⟨Nat.le_of_ble_eq_true rfl, Nat.le_of_ble_eq_true rfl⟩ (fun X' Z' Y' v k n H locs hp hw => ?_)
        obtain ⟨rfl, rfl, rfl, rfl, rfl, hS2, hp⟩ := hp
        have eP : r.1 0 2 = g 0 2 := by rw [m1 0 (by decide) (by decide)]
        have eC : r.1 4 8 = g 4 8 := by rw [m1 4 (by decide) (by decide)]
        rw [eP, eC] at hp
        have hV2 : ¬ (execS F r.1 (r.1 1 n) (g 0 2 + 1) (g 4 8 + 1)).2.1 = 0 → GInv F (execS F r.1 (r.1 1 n) (g 0 2 + 1) (g 4 8 + 1)).1 := fun q => execS_inv hF hV1
        generalize execS F r.1 (r.1 1 n) (g 0 2 + 1) (g 4 8 + 1) = x at hp hst hV2
        unfold finS at hst
        rcases hp with ⟨hc2, hR2, g17, g18⟩ | ⟨hc2, hR2, g17⟩
        · rw [if_neg hc2] at hst
          exact kT _ x.1 x.2.1 x.2.2.1 _ _ _ _ hl hR2 (hS0.trans (hS1.trans hS2)) hc2 g17 g18 (hV2 hc2) hst hw
        · rw [if_pos hc2] at hst
          refine lv_aload_n hx hb dX4_step_101 rfl (hl.at rfl) ?_
          refine w_get C hw (c0 := 40) (i0 := i) rfl inA4 17 (by decide) mw457 rfl dX4_step_102 (hB 40 (by decide) (by decide)) rfl rfl rfl ?_
          rw [g17]
          refine lv_if_ne (tgt := 109) hx hb dX4_step_105 (by decide) (fun h105 => ?_) (fun h105 => ?_)
          · exact absurd rfl h105
          · exact w_vret C hw hr hlocks dX4_step_108 ⟨rfl, rfl, rfl, rfl, rfl, by rw [hst]; exact hR2, hS0.trans (hS1.trans hS2)⟩
  refine lv_aload_n hx hb dX4_step_0 rfl (hl.at rfl) ?_
  refine lv_iconst (v := 0) hx hb dX4_step_1 (by decide) ?_
  refine w_put C hw (c0 := 40) (i0 := i) rfl inA4 tyX4_ok nmX4 17 (by decide) mw457 rfl rfl rfl dX4_step_2 (hB 40 (by decide) (by decide)) rfl rfl rfl rfl (Nat.le_of_ble_eq_true rfl) rfl (fun H locs hw => ?_)
  refine lv_aload_n hx hb dX4_step_5 rfl (hl.at rfl) ?_
  refine lv_iconst (v := 0) hx hb dX4_step_6 (by decide) ?_
  refine w_callV C hN hw (c_X4_hasStatus l sz0 D cs X _ Y i hB _) ⟨(Nat.le_of_ble_eq_true rfl), (Nat.le_of_ble_eq_true rfl), mw462, mw71, cy_X4_hasStatus⟩ mw459 mw460 mw461 (w_rec hw (c0 := 40) (i0 := i) (hB 40 (by decide) (by decide)) rfl rfl) rfl hl.1.1 rfl (Nat.le_of_ble_eq_true rfl) dX4_step_7 ⟨Nat.le_of_ble_eq_true rfl, Nat.le_of_ble_eq_true rfl⟩ (fun X' Z' Y' v k n H locs hp hw => ?_)
  obtain ⟨rfl, rfl, rfl, rfl, rfl, rfl⟩ := hp
  rw [f44, e40, hs_0]
  refine lv_if_eq (tgt := 39) hx hb dX4_step_10 (by decide) (fun h10 => ?_) (fun h10 => ?_)
  · refine lv_aload_n hx hb dX4_step_39 rfl (hl.at rfl) ?_
    refine lv_iconst (v := 0) hx hb dX4_step_40 (by decide) ?_
    refine w_callV C hN hw (c_X4_hasStatus l sz0 D cs X _ Y i hB _) ⟨(Nat.le_of_ble_eq_true rfl), (Nat.le_of_ble_eq_true rfl), mw462, mw71, cy_X4_hasStatus⟩ mw459 mw460 mw461 (w_rec hw (c0 := 40) (i0 := i) (hB 40 (by decide) (by decide)) rfl rfl) rfl hl.1.1 rfl (Nat.le_of_ble_eq_true rfl) dX4_step_41 ⟨Nat.le_of_ble_eq_true rfl, Nat.le_of_ble_eq_true rfl⟩ (fun X' Z' Y' v k n H locs hp hw => ?_)
    obtain ⟨rfl, rfl, rfl, rfl, rfl, rfl⟩ := hp
    rw [f44, e40, hs_0]
    refine lv_if_eq (tgt := 73) hx hb dX4_step_44 (by decide) (fun h44 => ?_) (fun h44 => ?_)
    · exact k73 _ _ _ _ rfl hl (by unfold lineS; rw [if_pos (Classical.not_not.mp (fun q => absurd h44 (by rw [if_neg q]; decide)))]) hw
    · refine lv_aload_n hx hb dX4_step_47 rfl (hl.at rfl) ?_
      refine lv_bipush (v := 9) hx hb dX4_step_48 (by decide) ?_
      refine w_callV C hN hw (c_X4_hasStatus l sz0 D cs X _ Y i hB _) ⟨(Nat.le_of_ble_eq_true rfl), (Nat.le_of_ble_eq_true rfl), mw462, mw71, cy_X4_hasStatus⟩ mw459 mw460 mw461 (w_rec hw (c0 := 40) (i0 := i) (hB 40 (by decide) (by decide)) rfl rfl) rfl hl.1.1 rfl (Nat.le_of_ble_eq_true rfl) dX4_step_50 ⟨Nat.le_of_ble_eq_true rfl, Nat.le_of_ble_eq_true rfl⟩ (fun X' Z' Y' v k n H locs hp hw => ?_)
      obtain ⟨rfl, rfl, rfl, rfl, rfl, rfl⟩ := hp
      rw [f44, e40, hs_9]
      refine lv_if_eq (tgt := 73) hx hb dX4_step_53 (by decide) (fun h53 => ?_) (fun h53 => ?_)
      · exact k73 _ _ _ _ rfl hl (by unfold lineS; rw [if_neg (fun q => h44 (by rw [if_pos q])), if_neg (fun _ => absurd (show g 4 0 &&& 1 = 0 from (Classical.not_not.mp (fun q => absurd h10 (by rw [if_neg q]; decide)))) (fun q => h44 (by rw [if_pos q]))), if_neg (fun q => q.1 (Classical.not_not.mp (fun q => absurd h53 (by rw [if_neg q]; decide))))]) hw
      · refine lv_aload_n hx hb dX4_step_56 rfl (hl.at rfl) ?_
        refine w_get C hw (c0 := 40) (i0 := i) rfl inA4 14 (by decide) mw163 rfl dX4_step_57 (hB 40 (by decide) (by decide)) rfl rfl rfl ?_
        rw [f14]
        refine lv_if_le (tgt := 73) hx hb dX4_step_60 (by decide) (fun h60 => ?_) (fun h60 => ?_)
        · exact k73 _ _ _ _ rfl hl (by unfold lineS; rw [if_neg (fun q => h44 (by rw [if_pos q])), if_neg (fun _ => absurd (show g 4 0 &&& 1 = 0 from (Classical.not_not.mp (fun q => absurd h10 (by rw [if_neg q]; decide)))) (fun q => h44 (by rw [if_pos q]))), if_neg (fun q => q.2 h60)]) hw
        · have hL : lineS (g 4 0) (g 4 8) (g 4 6) (g 0 14) = 17 := by unfold lineS; rw [if_neg (fun q => h44 (by rw [if_pos q])), if_neg (fun _ => absurd (show g 4 0 &&& 1 = 0 from (Classical.not_not.mp (fun q => absurd h10 (by rw [if_neg q]; decide)))) (fun q => h44 (by rw [if_pos q]))), if_pos ⟨(fun q => h53 (by rw [if_pos q])), h60⟩]
          refine lv_aload_n hx hb dX4_step_63 rfl (hl.at rfl) ?_
          refine lv_bipush (v := 17) hx hb dX4_step_64 (by decide) ?_
          refine lv_iconst (v := 0) hx hb dX4_step_66 (by decide) ?_
          refine w_callV C hN hw (c_X4_fail l sz0 D cs X _ Y i hB _ _) ⟨(Nat.le_of_ble_eq_true rfl), (Nat.le_of_ble_eq_true rfl), mw470, mw71, cy_X4_fail⟩ mw467 mw468 mw469 (w_rec hw (c0 := 40) (i0 := i) (hB 40 (by decide) (by decide)) rfl rfl) rfl hl.1.1 rfl (Nat.le_of_ble_eq_true rfl) dX4_step_67 ⟨Nat.le_of_ble_eq_true rfl, Nat.le_of_ble_eq_true rfl⟩ (fun X' Z' Y' v k n H locs hp hw => ?_)
          obtain ⟨rfl, rfl, rfl, rfl, rfl, rfl⟩ := hp
          refine lv_goto (tgt := 101) hx hb dX4_step_70 (by decide) ?_
          exact kT _ g 17 0 _ _ _ _ hl (BR_nt2 hR0) (SB2 hS0) (by decide) (by rw [upr_s, upd_n (by decide), upd_s]) (by rw [upr_s, upd_s]) hV (by unfold stepS; rw [hL, if_pos (by decide)]) hw
  · refine lv_aload_n hx hb dX4_step_13 rfl (hl.at rfl) ?_
    refine lv_bipush (v := 8) hx hb dX4_step_14 (by decide) ?_
    refine w_callV C hN hw (c_X4_hasStatus l sz0 D cs X _ Y i hB _) ⟨(Nat.le_of_ble_eq_true rfl), (Nat.le_of_ble_eq_true rfl), mw462, mw71, cy_X4_hasStatus⟩ mw459 mw460 mw461 (w_rec hw (c0 := 40) (i0 := i) (hB 40 (by decide) (by decide)) rfl rfl) rfl hl.1.1 rfl (Nat.le_of_ble_eq_true rfl) dX4_step_16 ⟨Nat.le_of_ble_eq_true rfl, Nat.le_of_ble_eq_true rfl⟩ (fun X' Z' Y' v k n H locs hp hw => ?_)
    obtain ⟨rfl, rfl, rfl, rfl, rfl, rfl⟩ := hp
    rw [f44, e40, hs_8]
    refine lv_if_eq (tgt := 39) hx hb dX4_step_19 (by decide) (fun h19 => ?_) (fun h19 => ?_)
    · refine lv_aload_n hx hb dX4_step_39 rfl (hl.at rfl) ?_
      refine lv_iconst (v := 0) hx hb dX4_step_40 (by decide) ?_
      refine w_callV C hN hw (c_X4_hasStatus l sz0 D cs X _ Y i hB _) ⟨(Nat.le_of_ble_eq_true rfl), (Nat.le_of_ble_eq_true rfl), mw462, mw71, cy_X4_hasStatus⟩ mw459 mw460 mw461 (w_rec hw (c0 := 40) (i0 := i) (hB 40 (by decide) (by decide)) rfl rfl) rfl hl.1.1 rfl (Nat.le_of_ble_eq_true rfl) dX4_step_41 ⟨Nat.le_of_ble_eq_true rfl, Nat.le_of_ble_eq_true rfl⟩ (fun X' Z' Y' v k n H locs hp hw => ?_)
      obtain ⟨rfl, rfl, rfl, rfl, rfl, rfl⟩ := hp
      rw [f44, e40, hs_0]
      refine lv_if_eq (tgt := 73) hx hb dX4_step_44 (by decide) (fun h44 => ?_) (fun h44 => ?_)
      · exact k73 _ _ _ _ rfl hl (by unfold lineS; rw [if_pos (Classical.not_not.mp (fun q => absurd h44 (by rw [if_neg q]; decide)))]) hw
      · refine lv_aload_n hx hb dX4_step_47 rfl (hl.at rfl) ?_
        refine lv_bipush (v := 9) hx hb dX4_step_48 (by decide) ?_
        refine w_callV C hN hw (c_X4_hasStatus l sz0 D cs X _ Y i hB _) ⟨(Nat.le_of_ble_eq_true rfl), (Nat.le_of_ble_eq_true rfl), mw462, mw71, cy_X4_hasStatus⟩ mw459 mw460 mw461 (w_rec hw (c0 := 40) (i0 := i) (hB 40 (by decide) (by decide)) rfl rfl) rfl hl.1.1 rfl (Nat.le_of_ble_eq_true rfl) dX4_step_50 ⟨Nat.le_of_ble_eq_true rfl, Nat.le_of_ble_eq_true rfl⟩ (fun X' Z' Y' v k n H locs hp hw => ?_)
        obtain ⟨rfl, rfl, rfl, rfl, rfl, rfl⟩ := hp
        rw [f44, e40, hs_9]
        refine lv_if_eq (tgt := 73) hx hb dX4_step_53 (by decide) (fun h53 => ?_) (fun h53 => ?_)
        · exact k73 _ _ _ _ rfl hl (by unfold lineS; rw [if_neg (fun q => h44 (by rw [if_pos q])), if_neg (fun q => q.1 (Classical.not_not.mp (fun q => absurd h19 (by rw [if_neg q]; decide)))), if_neg (fun q => q.1 (Classical.not_not.mp (fun q => absurd h53 (by rw [if_neg q]; decide))))]) hw
        · refine lv_aload_n hx hb dX4_step_56 rfl (hl.at rfl) ?_
          refine w_get C hw (c0 := 40) (i0 := i) rfl inA4 14 (by decide) mw163 rfl dX4_step_57 (hB 40 (by decide) (by decide)) rfl rfl rfl ?_
          rw [f14]
          refine lv_if_le (tgt := 73) hx hb dX4_step_60 (by decide) (fun h60 => ?_) (fun h60 => ?_)
          · exact k73 _ _ _ _ rfl hl (by unfold lineS; rw [if_neg (fun q => h44 (by rw [if_pos q])), if_neg (fun q => q.1 (Classical.not_not.mp (fun q => absurd h19 (by rw [if_neg q]; decide)))), if_neg (fun q => q.2 h60)]) hw
          · have hL : lineS (g 4 0) (g 4 8) (g 4 6) (g 0 14) = 17 := by unfold lineS; rw [if_neg (fun q => h44 (by rw [if_pos q])), if_neg (fun q => q.1 (Classical.not_not.mp (fun q => absurd h19 (by rw [if_neg q]; decide)))), if_pos ⟨(fun q => h53 (by rw [if_pos q])), h60⟩]
            refine lv_aload_n hx hb dX4_step_63 rfl (hl.at rfl) ?_
            refine lv_bipush (v := 17) hx hb dX4_step_64 (by decide) ?_
            refine lv_iconst (v := 0) hx hb dX4_step_66 (by decide) ?_
            refine w_callV C hN hw (c_X4_fail l sz0 D cs X _ Y i hB _ _) ⟨(Nat.le_of_ble_eq_true rfl), (Nat.le_of_ble_eq_true rfl), mw470, mw71, cy_X4_fail⟩ mw467 mw468 mw469 (w_rec hw (c0 := 40) (i0 := i) (hB 40 (by decide) (by decide)) rfl rfl) rfl hl.1.1 rfl (Nat.le_of_ble_eq_true rfl) dX4_step_67 ⟨Nat.le_of_ble_eq_true rfl, Nat.le_of_ble_eq_true rfl⟩ (fun X' Z' Y' v k n H locs hp hw => ?_)
            obtain ⟨rfl, rfl, rfl, rfl, rfl, rfl⟩ := hp
            refine lv_goto (tgt := 101) hx hb dX4_step_70 (by decide) ?_
            exact kT _ g 17 0 _ _ _ _ hl (BR_nt2 hR0) (SB2 hS0) (by decide) (by rw [upr_s, upd_n (by decide), upd_s]) (by rw [upr_s, upd_s]) hV (by unfold stepS; rw [hL, if_pos (by decide)]) hw
    · refine lv_aload_n hx hb dX4_step_22 rfl (hl.at rfl) ?_
      refine w_callV C hN hw (c_X4_isTimeUp l sz0 D cs X _ Y i hB) ⟨(Nat.le_of_ble_eq_true rfl), (Nat.le_of_ble_eq_true rfl), mw466, mw71, cy_X4_isTimeUp⟩ mw463 mw464 mw465 (w_rec hw (c0 := 40) (i0 := i) (hB 40 (by decide) (by decide)) rfl rfl) rfl hl.1.1 rfl (Nat.le_of_ble_eq_true rfl) dX4_step_23 ⟨Nat.le_of_ble_eq_true rfl, Nat.le_of_ble_eq_true rfl⟩ (fun X' Z' Y' v k n H locs hp hw => ?_)
      obtain ⟨rfl, rfl, rfl, rfl, rfl, rfl⟩ := hp
      rw [f44, e46, e48]
      refine lv_if_eq (tgt := 39) hx hb dX4_step_26 (by decide) (fun h26 => ?_) (fun h26 => ?_)
      · refine lv_aload_n hx hb dX4_step_39 rfl (hl.at rfl) ?_
        refine lv_iconst (v := 0) hx hb dX4_step_40 (by decide) ?_
        refine w_callV C hN hw (c_X4_hasStatus l sz0 D cs X _ Y i hB _) ⟨(Nat.le_of_ble_eq_true rfl), (Nat.le_of_ble_eq_true rfl), mw462, mw71, cy_X4_hasStatus⟩ mw459 mw460 mw461 (w_rec hw (c0 := 40) (i0 := i) (hB 40 (by decide) (by decide)) rfl rfl) rfl hl.1.1 rfl (Nat.le_of_ble_eq_true rfl) dX4_step_41 ⟨Nat.le_of_ble_eq_true rfl, Nat.le_of_ble_eq_true rfl⟩ (fun X' Z' Y' v k n H locs hp hw => ?_)
        obtain ⟨rfl, rfl, rfl, rfl, rfl, rfl⟩ := hp
        rw [f44, e40, hs_0]
        refine lv_if_eq (tgt := 73) hx hb dX4_step_44 (by decide) (fun h44 => ?_) (fun h44 => ?_)
        · exact k73 _ _ _ _ rfl hl (by unfold lineS; rw [if_pos (Classical.not_not.mp (fun q => absurd h44 (by rw [if_neg q]; decide)))]) hw
        · refine lv_aload_n hx hb dX4_step_47 rfl (hl.at rfl) ?_
          refine lv_bipush (v := 9) hx hb dX4_step_48 (by decide) ?_
          refine w_callV C hN hw (c_X4_hasStatus l sz0 D cs X _ Y i hB _) ⟨(Nat.le_of_ble_eq_true rfl), (Nat.le_of_ble_eq_true rfl), mw462, mw71, cy_X4_hasStatus⟩ mw459 mw460 mw461 (w_rec hw (c0 := 40) (i0 := i) (hB 40 (by decide) (by decide)) rfl rfl) rfl hl.1.1 rfl (Nat.le_of_ble_eq_true rfl) dX4_step_50 ⟨Nat.le_of_ble_eq_true rfl, Nat.le_of_ble_eq_true rfl⟩ (fun X' Z' Y' v k n H locs hp hw => ?_)
          obtain ⟨rfl, rfl, rfl, rfl, rfl, rfl⟩ := hp
          rw [f44, e40, hs_9]
          refine lv_if_eq (tgt := 73) hx hb dX4_step_53 (by decide) (fun h53 => ?_) (fun h53 => ?_)
          · exact k73 _ _ _ _ rfl hl (by unfold lineS; rw [if_neg (fun q => h44 (by rw [if_pos q])), if_neg (fun q => q.2 h26), if_neg (fun q => q.1 (Classical.not_not.mp (fun q => absurd h53 (by rw [if_neg q]; decide))))]) hw
          · refine lv_aload_n hx hb dX4_step_56 rfl (hl.at rfl) ?_
            refine w_get C hw (c0 := 40) (i0 := i) rfl inA4 14 (by decide) mw163 rfl dX4_step_57 (hB 40 (by decide) (by decide)) rfl rfl rfl ?_
            rw [f14]
            refine lv_if_le (tgt := 73) hx hb dX4_step_60 (by decide) (fun h60 => ?_) (fun h60 => ?_)
            · exact k73 _ _ _ _ rfl hl (by unfold lineS; rw [if_neg (fun q => h44 (by rw [if_pos q])), if_neg (fun q => q.2 h26), if_neg (fun q => q.2 h60)]) hw
            · have hL : lineS (g 4 0) (g 4 8) (g 4 6) (g 0 14) = 17 := by unfold lineS; rw [if_neg (fun q => h44 (by rw [if_pos q])), if_neg (fun q => q.2 h26), if_pos ⟨(fun q => h53 (by rw [if_pos q])), h60⟩]
              refine lv_aload_n hx hb dX4_step_63 rfl (hl.at rfl) ?_
              refine lv_bipush (v := 17) hx hb dX4_step_64 (by decide) ?_
              refine lv_iconst (v := 0) hx hb dX4_step_66 (by decide) ?_
              refine w_callV C hN hw (c_X4_fail l sz0 D cs X _ Y i hB _ _) ⟨(Nat.le_of_ble_eq_true rfl), (Nat.le_of_ble_eq_true rfl), mw470, mw71, cy_X4_fail⟩ mw467 mw468 mw469 (w_rec hw (c0 := 40) (i0 := i) (hB 40 (by decide) (by decide)) rfl rfl) rfl hl.1.1 rfl (Nat.le_of_ble_eq_true rfl) dX4_step_67 ⟨Nat.le_of_ble_eq_true rfl, Nat.le_of_ble_eq_true rfl⟩ (fun X' Z' Y' v k n H locs hp hw => ?_)
              obtain ⟨rfl, rfl, rfl, rfl, rfl, rfl⟩ := hp
              refine lv_goto (tgt := 101) hx hb dX4_step_70 (by decide) ?_
              exact kT _ g 17 0 _ _ _ _ hl (BR_nt2 hR0) (SB2 hS0) (by decide) (by rw [upr_s, upd_n (by decide), upd_s]) (by rw [upr_s, upd_s]) hV (by unfold stepS; rw [hL, if_pos (by decide)]) hw
      · have hL : lineS (g 4 0) (g 4 8) (g 4 6) (g 0 14) = 16 := by unfold lineS; rw [if_neg (fun q => h10 (by rw [if_pos q])), if_pos ⟨(fun q => h19 (by rw [if_pos q])), h26⟩]
        refine lv_aload_n hx hb dX4_step_29 rfl (hl.at rfl) ?_
        refine lv_bipush (v := 16) hx hb dX4_step_30 (by decide) ?_
        refine lv_iconst (v := 0) hx hb dX4_step_32 (by decide) ?_
        refine w_callV C hN hw (c_X4_fail l sz0 D cs X _ Y i hB _ _) ⟨(Nat.le_of_ble_eq_true rfl), (Nat.le_of_ble_eq_true rfl), mw470, mw71, cy_X4_fail⟩ mw467 mw468 mw469 (w_rec hw (c0 := 40) (i0 := i) (hB 40 (by decide) (by decide)) rfl rfl) rfl hl.1.1 rfl (Nat.le_of_ble_eq_true rfl) dX4_step_33 ⟨Nat.le_of_ble_eq_true rfl, Nat.le_of_ble_eq_true rfl⟩ (fun X' Z' Y' v k n H locs hp hw => ?_)
        obtain ⟨rfl, rfl, rfl, rfl, rfl, rfl⟩ := hp
        refine lv_goto (tgt := 101) hx hb dX4_step_36 (by decide) ?_
        exact kT _ g 16 0 _ _ _ _ hl (BR_nt2 hR0) (SB2 hS0) (by decide) (by rw [upr_s, upd_n (by decide), upd_s]) (by rw [upr_s, upd_s]) hV (by unfold stepS; rw [hL, if_pos (by decide)]) hw
