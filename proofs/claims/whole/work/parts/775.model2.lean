theorem st_st {S : HS} {x y : Int32} : addSt (addSt S x) y = addSt S (x + y) := by
  unfold addSt
  show (S.1, S.2.1, upd (upd S.2.2 3 (S.2.2 3 + x)) 3 (upd S.2.2 3 (S.2.2 3 + x) 3 + y)) = _
  rw [upd_uu, upd_s, Int32.add_assoc]
theorem runs_st {S : HS} {x : Int32} {i : Nat} : runs (addSt S x) i = runs S i := rfl
theorem srch_st {S : HS} {x : Int32} {c : Nat} : ∀ d j, srch (addSt S x) c d j = srch S c d j := by
  intro d
  induction d with
  | zero => intro j; rfl
  | succ d ih =>
    intro j
    unfold srch
    rw [runs_st, ih]
theorem turn_st {S : HS} {x : Int32} : turnS (addSt S x) = (addSt (turnS S).1 x, (turnS S).2) := by
  have e1 : (addSt S x).2.2 1 = S.2.2 1 := by show upd S.2.2 3 (S.2.2 3 + x) 1 = _; rw [upd_n (by decide)]
  have e2 : (addSt S x).2.2 2 = S.2.2 2 := by show upd S.2.2 3 (S.2.2 3 + x) 2 = _; rw [upd_n (by decide)]
  have e0 : (addSt S x).2.2 0 = S.2.2 0 := by show upd S.2.2 3 (S.2.2 3 + x) 0 = _; rw [upd_n (by decide)]
  unfold turnS
  rw [e1, e2, e0, srch_st, runs_st]
  split
  · unfold stp1 setM addSt
    dsimp only
    rw [upd_n (show (3 : Nat) ≠ 2 by decide), upd_cm (show (3 : Nat) ≠ 2 by decide)]
  · split
    · rfl
    · unfold stp1 setM addSt
      dsimp only
      rw [upd_n (show (3 : Nat) ≠ 2 by decide), upd_n (show (3 : Nat) ≠ 1 by decide), upd_cm (show (3 : Nat) ≠ 1 by decide), upd_cm (show (3 : Nat) ≠ 2 by decide)]
theorem turn_no {S : HS} (h : (turnS S).2 = false) : (turnS S).1 = S := by
  revert h
  unfold turnS
  split
  · intro h; exact Bool.noConfusion (show true = false from h)
  · split
    · intro _; rfl
    · intro h; exact Bool.noConfusion (show true = false from h)

set_option maxHeartbeats 4000000 in
set_option maxRecDepth 100000 in
theorem c_X5_run (l : Launch) (sz0 : Nat) (D : va_G) (cs : Nat → ClassId) (X : Sh) (Z : ZT) (Y : va_W) (S : HS) (hS : HOK S) (hMX : MRx X) (hMR : MR Z S) (n : Int32) : Ctr l yX5_run (wsM yX5_run cX5_run 3 (some .int)) ({ frames := 8, cells := 0, slots := 0, locals := 188 } : Room) sz0 D cs [.ref (X.1 30 0), .int n] X Z Y (Pz X Y (fun Z' v => v = some (.int (runS S n).2) ∧ MR Z' (runS S n).1 ∧ FM Z Z')) := by
  refine Ctr.ofW (by decide +kernel) (by intro v hv; simp at hv; rcases hv with rfl | rfl <;> rfl) (Nat.le_of_ble_eq_true rfl) ?_
  intro p e s m below meth c ls C hr hlocks hname hl hN hw
  obtain ⟨hx, hb, hml, hown, hts⟩ := id C
  have hM := hMX.1
  refine lv_iload_n hx hb dX5_run_0 rfl (hl.at rfl) ?_
  refine lv_if_lt (tgt := 11) hx hb dX5_run_1 (by decide) (fun h1 => ?_) (fun h1 => ?_)
  · refine lv_iconst (v := -1) hx hb dX5_run_11 (by decide) ?_
    have eo : runS S n = (S, -1) := by unfold runS; rw [if_pos (Or.inl h1)]
    exact w_iret C hw hr hlocks dX5_run_12 ⟨rfl, rfl, rfl, rfl, by rw [eo], by rw [eo]; exact hMR, FM.refl⟩
  · refine lv_iload_n hx hb dX5_run_4 rfl (hl.at rfl) ?_
    refine lv_sipush (v := 2000) hx hb dX5_run_5 (by decide) ?_
    refine lv_icmp_le (tgt := 13) hx hb dX5_run_8 (by decide) (fun h8 => ?_) (fun h8 => ?_)
    · obtain ⟨N, hNN, rfl⟩ := nI_of2 (M := 2000) (n := 2000) (by decide) h1 h8
      have eo : runS S (nI N) = (addSt (runL N 0 S).1 (nI (runL N 0 S).2), nI (runL N 0 S).2) := by unfold runS; rw [if_neg (fun q => q.elim h1 (fun q => Int32.not_lt.mpr h8 q)), nI_clamp (by omega)]
      refine lv_iconst (v := 0) hx hb dX5_run_13 (by decide) ?_
      refine w_istore_n hx hb dX5_run_14 rfl hl (Nat.le_of_ble_eq_true rfl) (fun ls hl => ?_)
      have k33 : ∀ (Z1 : ZT) (k : Nat) (H : Heap) (locs : List Loc) (ls : Array Slot) (S1 : HS), lo ls [some (.ref (X.1 30 0)), some (.int (nI N)), some (.int (nI k))] → runL N 0 S = (S1, k) → MR Z1 (addSt S1 (nI k)) → FM Z Z1 → Wd sz0 D cs s X Z1 Y H locs → W p l e ({ frames := 8, cells := 0, slots := 0, locals := 188 } : Room) s m ([.ref (X.1 30 0), .int (nI N)] : List Value).toArray below meth c H locs 0 0 (xQ below (CQ sz0 D cs (Pz X Y (fun Z' v => v = some (.int (runS S (nI N)).2) ∧ MR Z' (runS S (nI N)).1 ∧ FM Z Z'))) ([.ref (X.1 30 0), .int (nI N)] : List Value).toArray s (Asz sz0)) (F0 m 33 ls []) := by
        intro Z1 k H locs ls S1 hl hr1 hM1 hFM hw
        refine lv_iload_n hx hb dX5_run_33 rfl (hl.at rfl) ?_
        exact w_iret C hw hr hlocks dX5_run_34 ⟨rfl, rfl, rfl, rfl, by rw [eo, hr1], by rw [eo, hr1]; exact hM1, hFM⟩
      have loop : ∀ (d k : Nat), k + d = N → ∀ (Z1 : ZT) (S1 : HS) (H : Heap) (locs : List Loc) (ls : Array Slot), lo ls [some (.ref (X.1 30 0)), some (.int (nI N)), some (.int (nI k))] → runL N 0 S = runL d k S1 → HOK S1 → MR Z1 (addSt S1 (nI k)) → FM Z Z1 → Wd sz0 D cs s X Z1 Y H locs → W p l e ({ frames := 8, cells := 0, slots := 0, locals := 188 } : Room) s m ([.ref (X.1 30 0), .int (nI N)] : List Value).toArray below meth c H locs 0 0 (xQ below (CQ sz0 D cs (Pz X Y (fun Z' v => v = some (.int (runS S (nI N)).2) ∧ MR Z' (runS S (nI N)).1 ∧ FM Z Z'))) ([.ref (X.1 30 0), .int (nI N)] : List Value).toArray s (Asz sz0)) (F0 m 15 ls []) := by
        intro d
        induction d with
        | zero =>
            intro k hk Z1 S1 H locs ls hl hr1 hS1 hM1 hFM hw
            refine lv_iload_n hx hb dX5_run_15 rfl (hl.at rfl) ?_
            refine lv_iload_n hx hb dX5_run_16 rfl (hl.at rfl) ?_
            refine lv_icmp_ge (tgt := 33) hx hb dX5_run_17 (by decide) (fun h17 => ?_) (fun h17 => ?_)
            · exact k33 Z1 k _ _ _ S1 hl hr1 hM1 hFM hw
            · exact absurd (nI_le (show N ≤ k by omega) (by omega)) h17
        | succ d ih =>
            intro k hk Z1 S1 H locs ls hl hr1 hS1 hM1 hFM hw
            refine lv_iload_n hx hb dX5_run_15 rfl (hl.at rfl) ?_
            refine lv_iload_n hx hb dX5_run_16 rfl (hl.at rfl) ?_
            refine lv_icmp_ge (tgt := 33) hx hb dX5_run_17 (by decide) (fun h17 => ?_) (fun h17 => ?_)
            · exact absurd h17 (nI_ge (show k < N by omega) (by omega))
            · have hr1 : runL N 0 S = if (turnS S1).2 = true then runL d (k + 1) (turnS S1).1 else (S1, k) := hr1
              have eT : turnS (addSt S1 (nI k)) = (addSt (turnS S1).1 (nI k), (turnS S1).2) := turn_st
              refine lv_aload_n hx hb dX5_run_20 rfl (hl.at rfl) ?_
              refine w_callV C hN hw (c_X5_turn l sz0 D cs X _ Y (addSt S1 (nI k)) (HOK_st hS1) hMX hM1) ⟨(Nat.le_of_ble_eq_true rfl), (Nat.le_of_ble_eq_true rfl), mw448, mw6, cy_X5_turn⟩ mw445 mw446 mw447 (w_rec hw (c0 := 30) (i0 := 0) (hM 30 (by decide) (by decide)) rfl rfl) rfl hl.1.1 rfl (Nat.le_of_ble_eq_true rfl) dX5_run_21 ⟨Nat.le_of_ble_eq_true rfl, Nat.le_of_ble_eq_true rfl⟩ (fun X' Z' Y' v k n H locs hp hw => ?_)
              obtain ⟨rfl, rfl, rfl, rfl, rfl, hM2, hFM2⟩ := hp
              rw [eT] at hM2 ⊢
              by_cases r : (turnS S1).2 = true
              · rw [if_pos r] at hM2 hr1 ⊢
                refine lv_if_eq (tgt := 33) hx hb dX5_run_24 (by decide) (fun h24 => ?_) (fun h24 => ?_)
                · exact absurd h24 (by decide)
                · refine w_iinc hx hb dX5_run_27 hl rfl rfl (fun ls hl => ?_)
                  refine lv_goto (tgt := 15) hx hb dX5_run_30 (by decide) ?_
                  refine ih (k + 1) (by omega) _ (turnS S1).1 _ _ _ (by rw [← nI_1]; exact hl) hr1 (HOK_turn hS1) ?_ (hFM.trans hFM2) hw
                  rw [← nI_1, ← st_st]
                  exact hM2
              · rw [if_neg r] at hM2 hr1 ⊢
                refine lv_if_eq (tgt := 33) hx hb dX5_run_24 (by decide) (fun h24 => ?_) (fun h24 => ?_)
                · refine k33 _ k _ _ _ S1 hl hr1 ?_ (hFM.trans hFM2) hw
                  have := turn_no (Bool.eq_false_iff.mpr r)
                  rw [this, st_st, Int32.add_zero] at hM2
                  exact hM2
                · exact absurd rfl h24
      exact loop N 0 (by omega) Z S _ _ _ hl rfl hS (by show MR Z (S.1, S.2.1, upd S.2.2 3 (S.2.2 3 + nI 0)); rw [show nI 0 = (0 : Int32) from rfl, Int32.add_zero, upd_id]; exact hMR) FM.refl hw
    · refine lv_iconst (v := -1) hx hb dX5_run_11 (by decide) ?_
      have eo : runS S n = (S, -1) := by unfold runS; rw [if_pos (Or.inr (Int32.not_le.mp h8))]
      exact w_iret C hw hr hlocks dX5_run_12 ⟨rfl, rfl, rfl, rfl, by rw [eo], by rw [eo]; exact hMR, FM.refl⟩
