/-! ===== GuestHouseModel$Bare: start, make, copy ===== -/
def resG (g : GS) (F : Nat) (pc : Int32) : GS := gr (gr (gr (gr g 3 (fun _ => 0)) 4 (fun k => if k = 9 then nI F else 0)) 5 (fun _ => -1)) 0 (upd (upd (upd (upd (upd (g 0) 1 1) 2 pc) 3 1) 4 0) 5 0)
def newG (F : Nat) : GS := fun r k => if r = 5 then -1 else if r = 4 ∧ k = 9 then nI F else 0
def STs (Z : ZT) (i : Nat) (a : Int32) (Z' : ZT) : Prop :=
  (∀ c i', ¬ (i' = i ∧ (c = 40 ∨ c = 43 ∨ c = 44 ∨ c = 45)) → Z' c i' = Z c i') ∧ (∀ k, k < 8 → Z' 43 i k = 0) ∧ (∀ k, k < 9 → Z' 44 i k = 0) ∧ (∀ k, k < 256 → Z' 45 i k = -1) ∧ Z' 40 i = upd (upd (upd (upd (upd (Z 40 i) 13 0) 11 1) 10 a) 16 0) 12 1
theorem STs_BR {Z Z' : ZT} {i F : Nat} {g : GS} {a : Int32} (H : BRr Z i F g) (S : STs Z i a Z') : BRr Z' i F (resG g F a) ∧ SB Z i Z' := by
  obtain ⟨s0, s3, s4, s5, sn⟩ := S
  obtain ⟨⟨a0, a1, a2, a3, a4, a5, a6, a7⟩, h1, h2, h3, h4, h5, h6, h7⟩ := H
  have r : ∀ c, c ≠ 40 → c ≠ 43 → c ≠ 44 → c ≠ 45 → Z' c i = Z c i := fun c q1 q2 q3 q4 => s0 c i (by omega)
  refine ⟨⟨?_, ?_, ?_, ?_, ?_, ?_, ?_, ?_⟩, fun c i' q => s0 c i' (by omega), by rw [sn, upd_n (by decide), upd_n (by decide), upd_n (by decide), upd_n (by decide), upd_n (by decide)]⟩
  · unfold resG
    rw [sn, gr_s]
    refine ⟨?_, ?_, ?_, ?_, ?_, ?_, ?_, ?_⟩
    · rw [upd_n (by decide), upd_n (by decide), upd_n (by decide), upd_n (by decide), upd_n (by decide)]; exact a0
    · rw [upd_s, upd_n (by decide), upd_n (by decide), upd_n (by decide), upd_n (by decide), upd_s]
    · rw [upd_n (by decide), upd_n (by decide), upd_s, upd_n (by decide), upd_n (by decide), upd_n (by decide), upd_s]
    · rw [upd_n (by decide), upd_n (by decide), upd_n (by decide), upd_s, upd_n (by decide), upd_n (by decide), upd_s]
    · rw [upd_n (by decide), upd_n (by decide), upd_n (by decide), upd_n (by decide), upd_s, upd_n (by decide), upd_s]
    · rw [upd_n (by decide), upd_s, upd_s]
    · rw [upd_n (by decide), upd_n (by decide), upd_n (by decide), upd_n (by decide), upd_n (by decide), upd_n (by decide), upd_n (by decide), upd_n (by decide), upd_n (by decide), upd_n (by decide)]; exact a6
    · rw [upd_n (by decide), upd_n (by decide), upd_n (by decide), upd_n (by decide), upd_n (by decide), upd_n (by decide), upd_n (by decide), upd_n (by decide), upd_n (by decide), upd_n (by decide)]; exact a7
  · rw [r 41 (by decide) (by decide) (by decide) (by decide)]; exact h1
  · rw [r 42 (by decide) (by decide) (by decide) (by decide)]; exact h2
  · exact s3
  · intro k hk; rw [s4 k hk]; show (0 : Int32) = if k = 9 then nI F else 0; rw [if_neg (by omega)]
  · intro k hk; rw [s5 k hk]; exact Or.inl ⟨by decide, rfl⟩
  · rw [r 47 (by decide) (by decide) (by decide) (by decide), sn, upd_n (by decide), upd_n (by decide), upd_n (by decide), upd_n (by decide), upd_n (by decide)]; exact h6
  · rw [r 48 (by decide) (by decide) (by decide) (by decide), sn, upd_n (by decide), upd_n (by decide), upd_n (by decide), upd_n (by decide), upd_n (by decide)]; exact h7
theorem BR_copy {Z Z' : ZT} {i o F : Nat} {g : GS} (hF : F ≤ 64) (H : BRr Z o F g) (q0 : Z' 40 i 0 = Z 40 o 0) (q10 : Z' 40 i 10 = Z 40 o 10) (q11 : Z' 40 i 11 = Z 40 o 11) (q12 : Z' 40 i 12 = Z 40 o 12) (q13 : Z' 40 i 13 = Z 40 o 13) (q14 : Z' 40 i 14 = Z 40 o 14) (q15 : Z' 40 i 15 = Z 40 o 15) (q16 : Z' 40 i 16 = Z 40 o 16)
    (r1 : ∀ k, k < 4096 → Z' 41 i k = Z 41 o k) (r2 : ∀ k, k < 1024 → Z' 42 i k = Z 42 o k) (r3 : ∀ k, k < 8 → Z' 43 i k = Z 43 o k) (r4 : ∀ k, k < 9 → Z' 44 i k = Z 44 o k) (r5 : ∀ k, k < 256 → Z' 45 i k = Z 45 o k) (r6 : ∀ k, k < 256 → Z' 46 i k = Z 46 o k) (r7 : ∀ k, k < 64 → Z' 47 i k = Z 47 o k) (r8 : ∀ k, k < 1000 → Z' 48 i k = Z 48 o k) : BRr Z' i F g := by
  obtain ⟨⟨a0, a1, a2, a3, a4, a5, a6, a7⟩, h1, h2, h3, h4, h5, ⟨w, hw, e, h6⟩, h7⟩ := H
  refine ⟨⟨by rw [q0]; exact a0, by rw [q12]; exact a1, by rw [q10]; exact a2, by rw [q11]; exact a3, by rw [q13]; exact a4, by rw [q16]; exact a5, by rw [q14]; exact a6, by rw [q15]; exact a7⟩, fun k hk => by rw [r1 k (by omega)]; exact h1 k hk, fun k hk => by rw [r2 k hk]; exact h2 k hk, fun k hk => by rw [r3 k hk]; exact h3 k hk, fun k hk => by rw [r4 k hk]; exact h4 k hk, fun k hk => by rw [r5 k hk, r6 k hk]; exact h5 k hk, ⟨w, hw, by rw [q14]; exact e, fun j hj => by rw [r7 j (by omega)]; exact h6 j hj⟩, fun j hj hlt => by rw [r8 j hj]; exact h7 j hj (by rw [← q15]; exact hlt)⟩
theorem stR_in {n k : Nat} {f z : Nat → Int32} (h : k < n) : stR n f z k = f k := if_pos h

set_option maxHeartbeats 4000000 in
set_option maxRecDepth 100000 in
theorem c_X4_start (l : Launch) (sz0 : Nat) (D : va_G) (cs : Nat → ClassId) (X : Sh) (Z : ZT) (Y : va_W) (i : Nat) (hB : BI X i) (a : Int32) : Ctr l yX4_start (wsM yX4_start cX4_start 3 none) ({ frames := 1, cells := 0, slots := 0, locals := 21 } : Room) sz0 D cs [.ref (X.1 40 i), .int a] X Z Y (Pz X Y (fun Z' v => v = none ∧ STs Z i a Z')) := by
  refine Ctr.ofW (by decide +kernel) (by intro v hv; simp at hv; rcases hv with rfl | rfl <;> rfl) (Nat.le_of_ble_eq_true rfl) ?_
  intro p e s m below meth c ls C hr hlocks hname hl hN hw
  obtain ⟨hx, hb, hml, hown, hts⟩ := id C
  refine lv_iconst (v := 0) hx hb dX4_start_0 (by decide) ?_
  refine w_istore_n hx hb dX4_start_1 rfl hl (Nat.le_of_ble_eq_true rfl) (fun ls hl => ?_)
  have loop2 : ∀ (d j : Nat), j + d = 9 → ∀ (H : Heap) (locs : List Loc) (ls : Array Slot), lo ls [some (.ref (X.1 40 i)), some (.int a), some (.int (nI j))] → Wd sz0 D cs s X (upr (upr Z 43 i (stR 8 (fun _ => 0) (Z 43 i))) 44 i (stR j (fun _ => 0) ((upr Z 43 i (stR 8 (fun _ => 0) (Z 43 i))) 44 i))) Y H locs → W p l e ({ frames := 1, cells := 0, slots := 0, locals := 21 } : Room) s m ([.ref (X.1 40 i), .int a] : List Value).toArray below meth c H locs 0 0 (xQ below (CQ sz0 D cs (Pz X Y (fun Z' v => v = none ∧ STs Z i a Z'))) ([.ref (X.1 40 i), .int a] : List Value).toArray s (Asz sz0)) (F0 m 23 ls []) := by
    intro d
    induction d with
    | zero =>
      intro j hj H locs ls hl hw
      refine lv_iload_n hx hb dX4_start_23 rfl (hl.at rfl) ?_
      refine lv_bipush (v := 9) hx hb dX4_start_24 (by decide) ?_
      refine lv_icmp_ge (tgt := 42) hx hb dX4_start_26 (by decide) (fun h26 => ?_) (fun h26 => ?_)
      · have hjn : j = 9 := by omega
        subst hjn
        refine lv_aload_n hx hb dX4_start_42 rfl (hl.at rfl) ?_
        refine w_callV C hN hw (c_X4_forget l sz0 D cs X _ Y i hB) ⟨(Nat.le_of_ble_eq_true rfl), (Nat.le_of_ble_eq_true rfl), mw177, mw71, cy_X4_forget⟩ mw174 mw175 mw176 (w_rec hw (c0 := 40) (i0 := i) (hB 40 (by decide) (by decide)) rfl rfl) rfl hl.1.1 rfl (Nat.le_of_ble_eq_true rfl) dX4_start_43 ⟨Nat.le_of_ble_eq_true rfl, Nat.le_of_ble_eq_true rfl⟩ (fun X' Z' Y' v k n H locs hp hw => ?_)
        obtain ⟨rfl, rfl, rfl, rfl, rfl, rfl⟩ := hp
        refine lv_aload_n hx hb dX4_start_46 rfl (hl.at rfl) ?_
        refine lv_iconst (v := 0) hx hb dX4_start_47 (by decide) ?_
        refine w_put C hw (c0 := 40) (i0 := i) rfl inA4 tyX4_ok nmX4 13 (by decide) mw171 rfl rfl rfl dX4_start_48 (hB 40 (by decide) (by decide)) rfl rfl rfl rfl (Nat.le_of_ble_eq_true rfl) rfl (fun H locs hw => ?_)
        refine lv_aload_n hx hb dX4_start_51 rfl (hl.at rfl) ?_
        refine lv_iconst (v := 1) hx hb dX4_start_52 (by decide) ?_
        refine w_put C hw (c0 := 40) (i0 := i) rfl inA4 tyX4_ok nmX4 11 (by decide) mw165 rfl rfl rfl dX4_start_53 (hB 40 (by decide) (by decide)) rfl rfl rfl rfl (Nat.le_of_ble_eq_true rfl) rfl (fun H locs hw => ?_)
        refine lv_aload_n hx hb dX4_start_56 rfl (hl.at rfl) ?_
        refine lv_iload_n hx hb dX4_start_57 rfl (hl.at rfl) ?_
        refine w_put C hw (c0 := 40) (i0 := i) rfl inA4 tyX4_ok nmX4 10 (by decide) mw172 rfl rfl rfl dX4_start_58 (hB 40 (by decide) (by decide)) rfl rfl rfl rfl (Nat.le_of_ble_eq_true rfl) rfl (fun H locs hw => ?_)
        refine lv_aload_n hx hb dX4_start_61 rfl (hl.at rfl) ?_
        refine lv_iconst (v := 0) hx hb dX4_start_62 (by decide) ?_
        refine w_put C hw (c0 := 40) (i0 := i) rfl inA4 tyX4_ok nmX4 16 (by decide) mw173 rfl rfl rfl dX4_start_63 (hB 40 (by decide) (by decide)) rfl rfl rfl rfl (Nat.le_of_ble_eq_true rfl) rfl (fun H locs hw => ?_)
        refine lv_aload_n hx hb dX4_start_66 rfl (hl.at rfl) ?_
        refine lv_iconst (v := 1) hx hb dX4_start_67 (by decide) ?_
        refine w_put C hw (c0 := 40) (i0 := i) rfl inA4 tyX4_ok nmX4 12 (by decide) mw166 rfl rfl rfl dX4_start_68 (hB 40 (by decide) (by decide)) rfl rfl rfl rfl (Nat.le_of_ble_eq_true rfl) rfl (fun H locs hw => ?_)
        simp only [upr_uu, upr_s] at hw
        refine w_vret C hw hr hlocks dX4_start_71 ⟨rfl, rfl, rfl, rfl, rfl, ⟨fun c i' q => ?_, fun k hk => ?_, fun k hk => ?_, fun k hk => ?_, ?_⟩⟩
        · rw [upr_n (fun e => q ⟨e.2, by omega⟩), upr_n (fun e => q ⟨e.2, by omega⟩), upr_n (fun e => q ⟨e.2, by omega⟩), upr_n (fun e => q ⟨e.2, by omega⟩)]
        · rw [upr_k (by decide), upr_k (by decide), upr_k (by decide), upr_s, stR_in hk]
        · rw [upr_k (by decide), upr_k (by decide), upr_s, stR_in hk]
        · rw [upr_k (by decide), upr_s]; unfold fillR; rw [if_pos hk]
        · rw [upr_s, upr_k (by decide), upr_k (by decide), upr_k (by decide)]
      · exact absurd (nI_le (show 9 ≤ j by omega) (by omega)) h26
    | succ d ih =>
      intro j hj H locs ls hl hw
      refine lv_iload_n hx hb dX4_start_23 rfl (hl.at rfl) ?_
      refine lv_bipush (v := 9) hx hb dX4_start_24 (by decide) ?_
      refine lv_icmp_ge (tgt := 42) hx hb dX4_start_26 (by decide) (fun h26 => ?_) (fun h26 => ?_)
      · exact absurd h26 (nI_ge (show j < 9 by omega) (by decide))
      · refine lv_aload_n hx hb dX4_start_29 rfl (hl.at rfl) ?_
        refine w_get C hw (c0 := 40) (i0 := i) rfl inA4 5 (by decide) mw78 rfl dX4_start_30 (hB 40 (by decide) (by decide)) rfl rfl rfl ?_
        refine lv_iload_n hx hb dX4_start_33 rfl (hl.at rfl) ?_
        refine lv_iconst (v := 0) hx hb dX4_start_34 (by decide) ?_
        refine w_ist C hw (c0 := 44) (i0 := i) dX4_start_35 (hB 44 (by decide) (by decide)) rfl (fun _ => rfl) (vp_in_nI (show j < 9 by omega) (by decide)) (nI_clamp (by omega)) (fun H locs hw => ?_)
        refine w_iinc hx hb dX4_start_36 hl rfl rfl (fun ls hl => ?_)
        refine lv_goto (tgt := 23) hx hb dX4_start_39 (by decide) ?_
        refine ih (j + 1) (by omega) H locs ls (by rw [← nI_1]; exact hl) ?_
        rw [upr_uu, upr_s, stR_s] at hw
        exact hw
  have loop1 : ∀ (d j : Nat), j + d = 8 → ∀ (H : Heap) (locs : List Loc) (ls : Array Slot), lo ls [some (.ref (X.1 40 i)), some (.int a), some (.int (nI j))] → Wd sz0 D cs s X (upr Z 43 i (stR j (fun _ => 0) (Z 43 i))) Y H locs → W p l e ({ frames := 1, cells := 0, slots := 0, locals := 21 } : Room) s m ([.ref (X.1 40 i), .int a] : List Value).toArray below meth c H locs 0 0 (xQ below (CQ sz0 D cs (Pz X Y (fun Z' v => v = none ∧ STs Z i a Z'))) ([.ref (X.1 40 i), .int a] : List Value).toArray s (Asz sz0)) (F0 m 2 ls []) := by
    intro d
    induction d with
    | zero =>
      intro j hj H locs ls hl hw
      refine lv_iload_n hx hb dX4_start_2 rfl (hl.at rfl) ?_
      refine lv_bipush (v := 8) hx hb dX4_start_3 (by decide) ?_
      refine lv_icmp_ge (tgt := 21) hx hb dX4_start_5 (by decide) (fun h5 => ?_) (fun h5 => ?_)
      · have hjn : j = 8 := by omega
        subst hjn
        refine lv_iconst (v := 0) hx hb dX4_start_21 (by decide) ?_
        refine w_istore_n hx hb dX4_start_22 rfl hl (Nat.le_of_ble_eq_true rfl) (fun ls hl => ?_)
        refine loop2 9 0 (by decide) _ _ _ hl ?_
        rw [stR_0, upr_id]
        exact hw
      · exact absurd (nI_le (show 8 ≤ j by omega) (by omega)) h5
    | succ d ih =>
      intro j hj H locs ls hl hw
      refine lv_iload_n hx hb dX4_start_2 rfl (hl.at rfl) ?_
      refine lv_bipush (v := 8) hx hb dX4_start_3 (by decide) ?_
      refine lv_icmp_ge (tgt := 21) hx hb dX4_start_5 (by decide) (fun h5 => ?_) (fun h5 => ?_)
      · exact absurd h5 (nI_ge (show j < 8 by omega) (by decide))
      · refine lv_aload_n hx hb dX4_start_8 rfl (hl.at rfl) ?_
        refine w_get C hw (c0 := 40) (i0 := i) rfl inA4 4 (by decide) mw77 rfl dX4_start_9 (hB 40 (by decide) (by decide)) rfl rfl rfl ?_
        refine lv_iload_n hx hb dX4_start_12 rfl (hl.at rfl) ?_
        refine lv_iconst (v := 0) hx hb dX4_start_13 (by decide) ?_
        refine w_ist C hw (c0 := 43) (i0 := i) dX4_start_14 (hB 43 (by decide) (by decide)) rfl (fun _ => rfl) (vp_in_nI (show j < 8 by omega) (by decide)) (nI_clamp (by omega)) (fun H locs hw => ?_)
        refine w_iinc hx hb dX4_start_15 hl rfl rfl (fun ls hl => ?_)
        refine lv_goto (tgt := 2) hx hb dX4_start_18 (by decide) ?_
        refine ih (j + 1) (by omega) H locs ls (by rw [← nI_1]; exact hl) ?_
        rw [upr_uu, upr_s, stR_s] at hw
        exact hw
  refine loop1 8 0 (by decide) _ _ _ hl ?_
  rw [stR_0, upr_id]
  exact hw

set_option maxHeartbeats 4000000 in
set_option maxRecDepth 100000 in
theorem c_X4_make (l : Launch) (sz0 : Nat) (D : va_G) (cs : Nat → ClassId) (X : Sh) (Z : ZT) (Y : va_W) (i : Nat) (hB : BI X i) (F : Nat) (hF : F ≤ 64) : Ctr l yX4_make (wsM yX4_make cX4_make 3 none) ({ frames := 2, cells := 0, slots := 0, locals := 43 } : Room) sz0 D cs [.ref (X.1 40 i), .int (nI F)] X Z Y (Pz X Y (fun Z' v => v = none ∧ BRr Z' i F (newG F) ∧ Z' 40 i 1 = 1 ∧ ∀ c i', ¬ (i' = i ∧ 40 ≤ c ∧ c ≤ 48) → Z' c i' = Z c i')) := by
  refine Ctr.ofW (by decide +kernel) (by intro v hv; simp at hv; rcases hv with rfl | rfl <;> rfl) (Nat.le_of_ble_eq_true rfl) ?_
  intro p e s m below meth c ls C hr hlocks hname hl hN hw
  obtain ⟨hx, hb, hml, hown, hts⟩ := id C
  refine lv_aload_n hx hb dX4_make_0 rfl (hl.at rfl) ?_
  refine lv_iload_n hx hb dX4_make_1 rfl (hl.at rfl) ?_
  refine w_put C hw (c0 := 40) (i0 := i) rfl inA4 tyX4_ok nmX4 0 (by decide) mw161 rfl rfl rfl dX4_make_2 (hB 40 (by decide) (by decide)) rfl rfl rfl rfl (Nat.le_of_ble_eq_true rfl) rfl (fun H locs hw => ?_)
  refine lv_aload_n hx hb dX4_make_5 rfl (hl.at rfl) ?_
  refine lv_iconst (v := 1) hx hb dX4_make_6 (by decide) ?_
  refine w_put C hw (c0 := 40) (i0 := i) rfl inA4 tyX4_ok nmX4 1 (by decide) mw162 rfl rfl rfl dX4_make_7 (hB 40 (by decide) (by decide)) rfl (by decide) (by decide) rfl (Nat.le_of_ble_eq_true rfl) rfl (fun H locs hw => ?_)
  refine lv_iconst (v := 0) hx hb dX4_make_10 (by decide) ?_
  refine w_istore_n hx hb dX4_make_11 rfl hl (Nat.le_of_ble_eq_true rfl) (fun ls hl => ?_)
  simp only [upr_uu, upr_s] at hw
  have loop2 : ∀ (d j : Nat), j + d = 1024 → ∀ (H : Heap) (locs : List Loc) (ls : Array Slot), lo ls [some (.ref (X.1 40 i)), some (.int (nI F)), some (.int (nI j))] → Wd sz0 D cs s X (upr (upr (upr Z 40 i (upd (upd (Z 40 i) 0 (nI F)) 1 1)) 41 i (stR 4096 (fun _ => 0) ((upr Z 40 i (upd (upd (Z 40 i) 0 (nI F)) 1 1)) 41 i))) 42 i (stR j (fun _ => 0) ((upr (upr Z 40 i (upd (upd (Z 40 i) 0 (nI F)) 1 1)) 41 i (stR 4096 (fun _ => 0) ((upr Z 40 i (upd (upd (Z 40 i) 0 (nI F)) 1 1)) 41 i))) 42 i))) Y H locs → W p l e ({ frames := 2, cells := 0, slots := 0, locals := 43 } : Room) s m ([.ref (X.1 40 i), .int (nI F)] : List Value).toArray below meth c H locs 0 0 (xQ below (CQ sz0 D cs (Pz X Y (fun Z' v => v = none ∧ BRr Z' i F (newG F) ∧ Z' 40 i 1 = 1 ∧ ∀ c i', ¬ (i' = i ∧ 40 ≤ c ∧ c ≤ 48) → Z' c i' = Z c i'))) ([.ref (X.1 40 i), .int (nI F)] : List Value).toArray s (Asz sz0)) (F0 m 36 ls []) := by
    intro d
    induction d with
    | zero =>
      intro j hj H locs ls hl hw
      refine lv_iload_n hx hb dX4_make_36 rfl (hl.at rfl) ?_
      refine lv_sipush (v := 1024) hx hb dX4_make_37 (by decide) ?_
      refine lv_icmp_ge (tgt := 56) hx hb dX4_make_40 (by decide) (fun h40 => ?_) (fun h40 => ?_)
      · have hjn : j = 1024 := by omega
        subst hjn
        refine lv_aload_n hx hb dX4_make_56 rfl (hl.at rfl) ?_
        refine lv_iconst (v := 0) hx hb dX4_make_57 (by decide) ?_
        refine w_put C hw (c0 := 40) (i0 := i) rfl inA4 tyX4_ok nmX4 14 (by decide) mw163 rfl rfl rfl dX4_make_58 (hB 40 (by decide) (by decide)) rfl rfl rfl rfl (Nat.le_of_ble_eq_true rfl) rfl (fun H locs hw => ?_)
        refine lv_aload_n hx hb dX4_make_61 rfl (hl.at rfl) ?_
        refine lv_iconst (v := 0) hx hb dX4_make_62 (by decide) ?_
        refine w_put C hw (c0 := 40) (i0 := i) rfl inA4 tyX4_ok nmX4 15 (by decide) mw164 rfl rfl rfl dX4_make_63 (hB 40 (by decide) (by decide)) rfl rfl rfl rfl (Nat.le_of_ble_eq_true rfl) rfl (fun H locs hw => ?_)
        refine lv_aload_n hx hb dX4_make_66 rfl (hl.at rfl) ?_
        refine lv_iconst (v := 0) hx hb dX4_make_67 (by decide) ?_
        simp only [upr_uu, upr_s] at hw
        refine w_callV C hN hw (c_X4_start l sz0 D cs X _ Y i hB 0) ⟨(Nat.le_of_ble_eq_true rfl), (Nat.le_of_ble_eq_true rfl), mw170, mw71, cy_X4_start⟩ mw167 mw168 mw169 (w_rec hw (c0 := 40) (i0 := i) (hB 40 (by decide) (by decide)) rfl rfl) rfl hl.1.1 rfl (Nat.le_of_ble_eq_true rfl) dX4_make_68 ⟨Nat.le_of_ble_eq_true rfl, Nat.le_of_ble_eq_true rfl⟩ (fun X' Z' Y' v k n H locs hp hw => ?_)
        obtain ⟨rfl, rfl, rfl, rfl, rfl, hp⟩ := hp
        obtain ⟨s0, s3, s4, s5, sn⟩ := hp
        refine lv_aload_n hx hb dX4_make_71 rfl (hl.at rfl) ?_
        refine lv_iconst (v := 0) hx hb dX4_make_72 (by decide) ?_
        refine w_put C hw (c0 := 40) (i0 := i) rfl inA4 tyX4_ok nmX4 11 (by decide) mw165 rfl rfl rfl dX4_make_73 (hB 40 (by decide) (by decide)) rfl rfl rfl rfl (Nat.le_of_ble_eq_true rfl) rfl (fun H locs hw => ?_)
        refine lv_aload_n hx hb dX4_make_76 rfl (hl.at rfl) ?_
        refine lv_iconst (v := 0) hx hb dX4_make_77 (by decide) ?_
        refine w_put C hw (c0 := 40) (i0 := i) rfl inA4 tyX4_ok nmX4 12 (by decide) mw166 rfl rfl rfl dX4_make_78 (hB 40 (by decide) (by decide)) rfl rfl rfl rfl (Nat.le_of_ble_eq_true rfl) rfl (fun H locs hw => ?_)
        simp only [upr_uu, upr_s] at hw
        refine w_vret C hw hr hlocks dX4_make_81 ⟨rfl, rfl, rfl, rfl, rfl, ⟨?_, fun k hk => ?_, fun k hk => ?_, fun k hk => ?_, fun k hk => ?_, fun k hk => ?_, ⟨0, by decide, ?_, fun j hj => absurd hj (by omega)⟩, fun j hj hlt => ?_⟩, ?_, fun c i' q => ?_⟩
        · simp [upr_s, sn, upd, newG, upr]
        · rw [upr_k (by decide), s0 41 i (by omega), upr_k (by decide), upr_k (by decide), upr_s, stR_in (show k < 4096 by omega)]; rfl
        · rw [upr_k (by decide), s0 42 i (by omega), upr_k (by decide), upr_s, stR_in hk]; rfl
        · rw [upr_k (by decide), s3 k hk]; rfl
        · rw [upr_k (by decide), s4 k hk]; show (0 : Int32) = if 4 = 5 then -1 else if 4 = 4 ∧ k = 9 then nI F else 0; rw [if_neg (by decide), if_neg (by omega)]
        · rw [upr_k (by decide), s5 k hk]; exact Or.inl ⟨by decide, rfl⟩
        · simp [upr_s, sn, upd, upr]; rfl
        · exfalso; simp [upr_s, sn, upd, upr] at hlt; exact absurd hlt (nI_pos (by omega))
        · simp [upr_s, sn, upd, upr]
        · rw [upr_n (fun e => q ⟨e.2, by omega⟩), s0 c i' (by omega), upr_n (fun e => q ⟨e.2, by omega⟩), upr_n (fun e => q ⟨e.2, by omega⟩), upr_n (fun e => q ⟨e.2, by omega⟩), upr_n (fun e => q ⟨e.2, by omega⟩)]
      · exact absurd (nI_le (show 1024 ≤ j by omega) (by omega)) h40
    | succ d ih =>
      intro j hj H locs ls hl hw
      refine lv_iload_n hx hb dX4_make_36 rfl (hl.at rfl) ?_
      refine lv_sipush (v := 1024) hx hb dX4_make_37 (by decide) ?_
      refine lv_icmp_ge (tgt := 56) hx hb dX4_make_40 (by decide) (fun h40 => ?_) (fun h40 => ?_)
      · exact absurd h40 (nI_ge (show j < 1024 by omega) (by decide))
      · refine lv_aload_n hx hb dX4_make_43 rfl (hl.at rfl) ?_
        refine w_get C hw (c0 := 40) (i0 := i) rfl inA4 3 (by decide) mw76 rfl dX4_make_44 (hB 40 (by decide) (by decide)) rfl rfl rfl ?_
        refine lv_iload_n hx hb dX4_make_47 rfl (hl.at rfl) ?_
        refine lv_iconst (v := 0) hx hb dX4_make_48 (by decide) ?_
        refine w_ist C hw (c0 := 42) (i0 := i) dX4_make_49 (hB 42 (by decide) (by decide)) rfl (fun _ => rfl) (vp_in_nI (show j < 1024 by omega) (by decide)) (nI_clamp (by omega)) (fun H locs hw => ?_)
        refine w_iinc hx hb dX4_make_50 hl rfl rfl (fun ls hl => ?_)
        refine lv_goto (tgt := 36) hx hb dX4_make_53 (by decide) ?_
        refine ih (j + 1) (by omega) H locs ls (by rw [← nI_1]; exact hl) ?_
        rw [upr_uu, upr_s, stR_s] at hw
        exact hw
  have loop1 : ∀ (d j : Nat), j + d = 4096 → ∀ (H : Heap) (locs : List Loc) (ls : Array Slot), lo ls [some (.ref (X.1 40 i)), some (.int (nI F)), some (.int (nI j))] → Wd sz0 D cs s X (upr (upr Z 40 i (upd (upd (Z 40 i) 0 (nI F)) 1 1)) 41 i (stR j (fun _ => 0) ((upr Z 40 i (upd (upd (Z 40 i) 0 (nI F)) 1 1)) 41 i))) Y H locs → W p l e ({ frames := 2, cells := 0, slots := 0, locals := 43 } : Room) s m ([.ref (X.1 40 i), .int (nI F)] : List Value).toArray below meth c H locs 0 0 (xQ below (CQ sz0 D cs (Pz X Y (fun Z' v => v = none ∧ BRr Z' i F (newG F) ∧ Z' 40 i 1 = 1 ∧ ∀ c i', ¬ (i' = i ∧ 40 ≤ c ∧ c ≤ 48) → Z' c i' = Z c i'))) ([.ref (X.1 40 i), .int (nI F)] : List Value).toArray s (Asz sz0)) (F0 m 12 ls []) := by
    intro d
    induction d with
    | zero =>
      intro j hj H locs ls hl hw
      refine lv_iload_n hx hb dX4_make_12 rfl (hl.at rfl) ?_
      refine lv_aload_n hx hb dX4_make_13 rfl (hl.at rfl) ?_
      refine w_get C hw (c0 := 40) (i0 := i) rfl inA4 2 (by decide) mw75 rfl dX4_make_14 (hB 40 (by decide) (by decide)) rfl rfl rfl ?_
      refine w_len C hw (c0 := 41) (i0 := i) (ty := 0) dX4_make_17 (hB 41 (by decide) (by decide)) rfl (n := 4096) (v := 4096) rfl rfl rfl (by decide) ?_
      refine lv_icmp_ge (tgt := 34) hx hb dX4_make_18 (by decide) (fun h18 => ?_) (fun h18 => ?_)
      · have hjn : j = 4096 := by omega
        subst hjn
        refine lv_iconst (v := 0) hx hb dX4_make_34 (by decide) ?_
        refine w_istore_n hx hb dX4_make_35 rfl hl (Nat.le_of_ble_eq_true rfl) (fun ls hl => ?_)
        refine loop2 1024 0 (by decide) _ _ _ hl ?_
        rw [stR_0, upr_id]
        exact hw
      · exact absurd (nI_le (show 4096 ≤ j by omega) (by omega)) h18
    | succ d ih =>
      intro j hj H locs ls hl hw
      refine lv_iload_n hx hb dX4_make_12 rfl (hl.at rfl) ?_
      refine lv_aload_n hx hb dX4_make_13 rfl (hl.at rfl) ?_
      refine w_get C hw (c0 := 40) (i0 := i) rfl inA4 2 (by decide) mw75 rfl dX4_make_14 (hB 40 (by decide) (by decide)) rfl rfl rfl ?_
      refine w_len C hw (c0 := 41) (i0 := i) (ty := 0) dX4_make_17 (hB 41 (by decide) (by decide)) rfl (n := 4096) (v := 4096) rfl rfl rfl (by decide) ?_
      refine lv_icmp_ge (tgt := 34) hx hb dX4_make_18 (by decide) (fun h18 => ?_) (fun h18 => ?_)
      · exact absurd h18 (nI_ge (show j < 4096 by omega) (by decide))
      · refine lv_aload_n hx hb dX4_make_21 rfl (hl.at rfl) ?_
        refine w_get C hw (c0 := 40) (i0 := i) rfl inA4 2 (by decide) mw75 rfl dX4_make_22 (hB 40 (by decide) (by decide)) rfl rfl rfl ?_
        refine lv_iload_n hx hb dX4_make_25 rfl (hl.at rfl) ?_
        refine lv_iconst (v := 0) hx hb dX4_make_26 (by decide) ?_
        refine w_ist C hw (c0 := 41) (i0 := i) dX4_make_27 (hB 41 (by decide) (by decide)) rfl (fun _ => rfl) (vp_in_nI (show j < 4096 by omega) (by decide)) (nI_clamp (by omega)) (fun H locs hw => ?_)
        refine w_iinc hx hb dX4_make_28 hl rfl rfl (fun ls hl => ?_)
        refine lv_goto (tgt := 12) hx hb dX4_make_31 (by decide) ?_
        refine ih (j + 1) (by omega) H locs ls (by rw [← nI_1]; exact hl) ?_
        rw [upr_uu, upr_s, stR_s] at hw
        exact hw
  refine loop1 4096 0 (by decide) _ _ _ hl ?_
  rw [stR_0, upr_id]
  exact hw

set_option maxHeartbeats 4000000 in
set_option maxRecDepth 100000 in
theorem c_X4_copy (l : Launch) (sz0 : Nat) (D : va_G) (cs : Nat → ClassId) (X : Sh) (Z : ZT) (Y : va_W) (i o : Nat) (hoi : o ≠ i) (hB : BI X i) (hB2 : BI X o) (F : Nat) (g : GS) (hF : F ≤ 64) (hR : BRr Z o F g) : Ctr l yX4_copy (wsM yX4_copy cX4_copy 3 none) ({ frames := 0, cells := 0, slots := 0, locals := 0 } : Room) sz0 D cs [.ref (X.1 40 i), .ref (X.1 40 o)] X Z Y (Pz X Y (fun Z' v => v = none ∧ BRr Z' i F g ∧ Z' 40 i 1 = 1 ∧ ∀ c i', ¬ (i' = i ∧ 40 ≤ c ∧ c ≤ 48) → Z' c i' = Z c i')) := by
  refine Ctr.ofW (by decide +kernel) (by intro v hv; simp at hv; rcases hv with rfl | rfl <;> rfl) (Nat.le_of_ble_eq_true rfl) ?_
  intro p e s m below meth c ls C hr hlocks hname hl hN hw
  obtain ⟨hx, hb, hml, hown, hts⟩ := id C
  have loop7 : ∀ (d j : Nat), j + d = 1000 → ∀ (Zb : ZT) (H : Heap) (locs : List Loc) (ls : Array Slot), lo ls [some (.ref (X.1 40 i)), some (.ref (X.1 40 o)), some (.int (nI j))] → (∀ c i', ¬ (i' = i ∧ 40 ≤ c ∧ c ≤ 48) → Zb c i' = Z c i') → Zb 40 i = upd (upd (Z 40 i) 0 (Z 40 o 0)) 1 1 → (∀ k, k < 4096 → Zb 41 i k = Z 41 o k) → (∀ k, k < 1024 → Zb 42 i k = Z 42 o k) → (∀ k, k < 8 → Zb 43 i k = Z 43 o k) → (∀ k, k < 9 → Zb 44 i k = Z 44 o k) → (∀ k, k < 256 → Zb 45 i k = Z 45 o k ∧ Zb 46 i k = Z 46 o k) → (∀ k, k < 64 → Zb 47 i k = Z 47 o k) → Wd sz0 D cs s X (upr Zb 48 i (stR j (fun k => Z 48 o k) (Zb 48 i))) Y H locs → W p l e ({ frames := 0, cells := 0, slots := 0, locals := 0 } : Room) s m ([.ref (X.1 40 i), .ref (X.1 40 o)] : List Value).toArray below meth c H locs 0 0 (xQ below (CQ sz0 D cs (Pz X Y (fun Z' v => v = none ∧ BRr Z' i F g ∧ Z' 40 i 1 = 1 ∧ ∀ c i', ¬ (i' = i ∧ 40 ≤ c ∧ c ≤ 48) → Z' c i' = Z c i'))) ([.ref (X.1 40 i), .ref (X.1 40 o)] : List Value).toArray s (Asz sz0)) (F0 m 188 ls []) := by
    intro d
    induction d with
    | zero =>
      intro j hj Zb H locs ls hl hfr d0 d1 d2 d3 d4 d5 d6 hw
      refine lv_iload_n hx hb dX4_copy_188 rfl (hl.at rfl) ?_
      refine lv_sipush (v := 1000) hx hb dX4_copy_189 (by decide) ?_
      refine lv_icmp_ge (tgt := 213) hx hb dX4_copy_192 (by decide) (fun h192 => ?_) (fun h192 => ?_)
      · have hjn : j = 1000 := by omega
        subst hjn
        have zo : ∀ c, Zb c o = Z c o := fun c => hfr c o (fun q => hoi q.1)
        refine lv_aload_n hx hb dX4_copy_213 rfl (hl.at rfl) ?_
        refine lv_aload_n hx hb dX4_copy_214 rfl (hl.at rfl) ?_
        refine w_get C hw (c0 := 40) (i0 := o) rfl inA4 10 (by decide) mw172 rfl dX4_copy_215 (hB2 40 (by decide) (by decide)) rfl rfl rfl ?_
        refine w_put C hw (c0 := 40) (i0 := i) rfl inA4 tyX4_ok nmX4 10 (by decide) mw172 rfl rfl rfl dX4_copy_218 (hB 40 (by decide) (by decide)) rfl rfl rfl rfl (Nat.le_of_ble_eq_true rfl) rfl (fun H locs hw => ?_)
        refine lv_aload_n hx hb dX4_copy_221 rfl (hl.at rfl) ?_
        refine lv_aload_n hx hb dX4_copy_222 rfl (hl.at rfl) ?_
        refine w_get C hw (c0 := 40) (i0 := o) rfl inA4 11 (by decide) mw165 rfl dX4_copy_223 (hB2 40 (by decide) (by decide)) rfl rfl rfl ?_
        refine w_put C hw (c0 := 40) (i0 := i) rfl inA4 tyX4_ok nmX4 11 (by decide) mw165 rfl rfl rfl dX4_copy_226 (hB 40 (by decide) (by decide)) rfl rfl rfl rfl (Nat.le_of_ble_eq_true rfl) rfl (fun H locs hw => ?_)
        refine lv_aload_n hx hb dX4_copy_229 rfl (hl.at rfl) ?_
        refine lv_aload_n hx hb dX4_copy_230 rfl (hl.at rfl) ?_
        refine w_get C hw (c0 := 40) (i0 := o) rfl inA4 12 (by decide) mw166 rfl dX4_copy_231 (hB2 40 (by decide) (by decide)) rfl rfl rfl ?_
        refine w_put C hw (c0 := 40) (i0 := i) rfl inA4 tyX4_ok nmX4 12 (by decide) mw166 rfl rfl rfl dX4_copy_234 (hB 40 (by decide) (by decide)) rfl rfl rfl rfl (Nat.le_of_ble_eq_true rfl) rfl (fun H locs hw => ?_)
        refine lv_aload_n hx hb dX4_copy_237 rfl (hl.at rfl) ?_
        refine lv_aload_n hx hb dX4_copy_238 rfl (hl.at rfl) ?_
        refine w_get C hw (c0 := 40) (i0 := o) rfl inA4 13 (by decide) mw171 rfl dX4_copy_239 (hB2 40 (by decide) (by decide)) rfl rfl rfl ?_
        refine w_put C hw (c0 := 40) (i0 := i) rfl inA4 tyX4_ok nmX4 13 (by decide) mw171 rfl rfl rfl dX4_copy_242 (hB 40 (by decide) (by decide)) rfl rfl rfl rfl (Nat.le_of_ble_eq_true rfl) rfl (fun H locs hw => ?_)
        refine lv_aload_n hx hb dX4_copy_245 rfl (hl.at rfl) ?_
        refine lv_aload_n hx hb dX4_copy_246 rfl (hl.at rfl) ?_
        refine w_get C hw (c0 := 40) (i0 := o) rfl inA4 14 (by decide) mw163 rfl dX4_copy_247 (hB2 40 (by decide) (by decide)) rfl rfl rfl ?_
        refine w_put C hw (c0 := 40) (i0 := i) rfl inA4 tyX4_ok nmX4 14 (by decide) mw163 rfl rfl rfl dX4_copy_250 (hB 40 (by decide) (by decide)) rfl rfl rfl rfl (Nat.le_of_ble_eq_true rfl) rfl (fun H locs hw => ?_)
        refine lv_aload_n hx hb dX4_copy_253 rfl (hl.at rfl) ?_
        refine lv_aload_n hx hb dX4_copy_254 rfl (hl.at rfl) ?_
        refine w_get C hw (c0 := 40) (i0 := o) rfl inA4 15 (by decide) mw164 rfl dX4_copy_255 (hB2 40 (by decide) (by decide)) rfl rfl rfl ?_
        refine w_put C hw (c0 := 40) (i0 := i) rfl inA4 tyX4_ok nmX4 15 (by decide) mw164 rfl rfl rfl dX4_copy_258 (hB 40 (by decide) (by decide)) rfl rfl rfl rfl (Nat.le_of_ble_eq_true rfl) rfl (fun H locs hw => ?_)
        refine lv_aload_n hx hb dX4_copy_261 rfl (hl.at rfl) ?_
        refine lv_aload_n hx hb dX4_copy_262 rfl (hl.at rfl) ?_
        refine w_get C hw (c0 := 40) (i0 := o) rfl inA4 16 (by decide) mw173 rfl dX4_copy_263 (hB2 40 (by decide) (by decide)) rfl rfl rfl ?_
        refine w_put C hw (c0 := 40) (i0 := i) rfl inA4 tyX4_ok nmX4 16 (by decide) mw173 rfl rfl rfl dX4_copy_266 (hB 40 (by decide) (by decide)) rfl rfl rfl rfl (Nat.le_of_ble_eq_true rfl) rfl (fun H locs hw => ?_)
        simp only [upr_uu, upr_s] at hw
        refine w_vret C hw hr hlocks dX4_copy_269 ⟨rfl, rfl, rfl, rfl, rfl, BR_copy hF hR ?_ ?_ ?_ ?_ ?_ ?_ ?_ ?_ (fun k hk => ?_) (fun k hk => ?_) (fun k hk => ?_) (fun k hk => ?_) (fun k hk => ?_) (fun k hk => ?_) (fun k hk => ?_) (fun k hk => ?_), ?_, fun c i' q => ?_⟩
        · simp [upr, hoi, upd, d0, zo]
        · simp [upr, hoi, upd, d0, zo]
        · simp [upr, hoi, upd, d0, zo]
        · simp [upr, hoi, upd, d0, zo]
        · simp [upr, hoi, upd, d0, zo]
        · simp [upr, hoi, upd, d0, zo]
        · simp [upr, hoi, upd, d0, zo]
        · simp [upr, hoi, upd, d0, zo]
        · rw [upr_k (by decide), upr_k (by decide)]; exact d1 k hk
        · rw [upr_k (by decide), upr_k (by decide)]; exact d2 k hk
        · rw [upr_k (by decide), upr_k (by decide)]; exact d3 k hk
        · rw [upr_k (by decide), upr_k (by decide)]; exact d4 k hk
        · rw [upr_k (by decide), upr_k (by decide)]; exact (d5 k hk).1
        · rw [upr_k (by decide), upr_k (by decide)]; exact (d5 k hk).2
        · rw [upr_k (by decide), upr_k (by decide)]; exact d6 k hk
        · rw [upr_k (by decide), upr_s, stR_in hk]
        · simp [upr, hoi, upd, d0, zo]
        · rw [upr_n (fun e => q ⟨e.2, by omega⟩), upr_n (fun e => q ⟨e.2, by omega⟩)]; exact hfr c i' q
      · exact absurd (nI_le (show 1000 ≤ j by omega) (by omega)) h192
    | succ d ih =>
      intro j hj Zb H locs ls hl hfr d0 d1 d2 d3 d4 d5 d6 hw
      refine lv_iload_n hx hb dX4_copy_188 rfl (hl.at rfl) ?_
      refine lv_sipush (v := 1000) hx hb dX4_copy_189 (by decide) ?_
      refine lv_icmp_ge (tgt := 213) hx hb dX4_copy_192 (by decide) (fun h192 => ?_) (fun h192 => ?_)
      · exact absurd h192 (nI_ge (show j < 1000 by omega) (by decide))
      · refine lv_aload_n hx hb dX4_copy_195 rfl (hl.at rfl) ?_
        refine w_get C hw (c0 := 40) (i0 := i) rfl inA4 9 (by decide) mw82 rfl dX4_copy_196 (hB 40 (by decide) (by decide)) rfl rfl rfl ?_
        refine lv_iload_n hx hb dX4_copy_199 rfl (hl.at rfl) ?_
        refine lv_aload_n hx hb dX4_copy_200 rfl (hl.at rfl) ?_
        refine w_get C hw (c0 := 40) (i0 := o) rfl inA4 9 (by decide) mw82 rfl dX4_copy_201 (hB2 40 (by decide) (by decide)) rfl rfl rfl ?_
        refine lv_iload_n hx hb dX4_copy_204 rfl (hl.at rfl) ?_
        refine w_ild C hw (c0 := 48) (i0 := o) dX4_copy_205 (hB2 48 (by decide) (by decide)) rfl rfl (vp_in_nI (show j < 1000 by omega) (by decide)) (nI_clamp (by omega)) ?_
        rw [upr_i hoi, hfr 48 o (fun q => hoi q.1)]
        refine w_ist C hw (c0 := 48) (i0 := i) dX4_copy_206 (hB 48 (by decide) (by decide)) rfl (fun _ => rfl) (vp_in_nI (show j < 1000 by omega) (by decide)) (nI_clamp (by omega)) (fun H locs hw => ?_)
        refine w_iinc hx hb dX4_copy_207 hl rfl rfl (fun ls hl => ?_)
        refine lv_goto (tgt := 188) hx hb dX4_copy_210 (by decide) ?_
        refine ih (j + 1) (by omega) Zb H locs ls (by rw [← nI_1]; exact hl) hfr d0 d1 d2 d3 d4 d5 d6 ?_
        rw [upr_uu, upr_s, stR_s (f := fun k => Z 48 o k)] at hw
        exact hw
  have loop6 : ∀ (d j : Nat), j + d = 64 → ∀ (Zb : ZT) (H : Heap) (locs : List Loc) (ls : Array Slot), lo ls [some (.ref (X.1 40 i)), some (.ref (X.1 40 o)), some (.int (nI j))] → (∀ c i', ¬ (i' = i ∧ 40 ≤ c ∧ c ≤ 48) → Zb c i' = Z c i') → Zb 40 i = upd (upd (Z 40 i) 0 (Z 40 o 0)) 1 1 → (∀ k, k < 4096 → Zb 41 i k = Z 41 o k) → (∀ k, k < 1024 → Zb 42 i k = Z 42 o k) → (∀ k, k < 8 → Zb 43 i k = Z 43 o k) → (∀ k, k < 9 → Zb 44 i k = Z 44 o k) → (∀ k, k < 256 → Zb 45 i k = Z 45 o k ∧ Zb 46 i k = Z 46 o k) → Wd sz0 D cs s X (upr Zb 47 i (stR j (fun k => Z 47 o k) (Zb 47 i))) Y H locs → W p l e ({ frames := 0, cells := 0, slots := 0, locals := 0 } : Room) s m ([.ref (X.1 40 i), .ref (X.1 40 o)] : List Value).toArray below meth c H locs 0 0 (xQ below (CQ sz0 D cs (Pz X Y (fun Z' v => v = none ∧ BRr Z' i F g ∧ Z' 40 i 1 = 1 ∧ ∀ c i', ¬ (i' = i ∧ 40 ≤ c ∧ c ≤ 48) → Z' c i' = Z c i'))) ([.ref (X.1 40 i), .ref (X.1 40 o)] : List Value).toArray s (Asz sz0)) (F0 m 162 ls []) := by
    intro d
    induction d with
    | zero =>
      intro j hj Zb H locs ls hl hfr d0 d1 d2 d3 d4 d5 hw
      refine lv_iload_n hx hb dX4_copy_162 rfl (hl.at rfl) ?_
      refine lv_bipush (v := 64) hx hb dX4_copy_163 (by decide) ?_
      refine lv_icmp_ge (tgt := 186) hx hb dX4_copy_165 (by decide) (fun h165 => ?_) (fun h165 => ?_)
      · have hjn : j = 64 := by omega
        subst hjn
        refine lv_iconst (v := 0) hx hb dX4_copy_186 (by decide) ?_
        refine w_istore_n hx hb dX4_copy_187 rfl hl (Nat.le_of_ble_eq_true rfl) (fun ls hl => ?_)
        refine loop7 1000 0 (by decide) (upr Zb 47 i (stR 64 (fun k => Z 47 o k) (Zb 47 i))) _ _ _ hl (fun c i' q => ?_) ?_ ?_ ?_ ?_ ?_ ?_ ?_ ?_
        · rw [upr_n (fun e => q ⟨e.2, by omega⟩)]; exact hfr c i' q
        · rw [upr_k (by decide)]; exact d0
        · intro k hk; rw [upr_k (by decide)]; exact d1 k hk
        · intro k hk; rw [upr_k (by decide)]; exact d2 k hk
        · intro k hk; rw [upr_k (by decide)]; exact d3 k hk
        · intro k hk; rw [upr_k (by decide)]; exact d4 k hk
        · intro k hk; rw [upr_k (by decide), upr_k (by decide)]; exact d5 k hk
        · intro k hk; rw [upr_s, stR_in hk]
        · rw [stR_0, upr_id]; exact hw
      · exact absurd (nI_le (show 64 ≤ j by omega) (by omega)) h165
    | succ d ih =>
      intro j hj Zb H locs ls hl hfr d0 d1 d2 d3 d4 d5 hw
      refine lv_iload_n hx hb dX4_copy_162 rfl (hl.at rfl) ?_
      refine lv_bipush (v := 64) hx hb dX4_copy_163 (by decide) ?_
      refine lv_icmp_ge (tgt := 186) hx hb dX4_copy_165 (by decide) (fun h165 => ?_) (fun h165 => ?_)
      · exact absurd h165 (nI_ge (show j < 64 by omega) (by decide))
      · refine lv_aload_n hx hb dX4_copy_168 rfl (hl.at rfl) ?_
        refine w_get C hw (c0 := 40) (i0 := i) rfl inA4 8 (by decide) mw81 rfl dX4_copy_169 (hB 40 (by decide) (by decide)) rfl rfl rfl ?_
        refine lv_iload_n hx hb dX4_copy_172 rfl (hl.at rfl) ?_
        refine lv_aload_n hx hb dX4_copy_173 rfl (hl.at rfl) ?_
        refine w_get C hw (c0 := 40) (i0 := o) rfl inA4 8 (by decide) mw81 rfl dX4_copy_174 (hB2 40 (by decide) (by decide)) rfl rfl rfl ?_
        refine lv_iload_n hx hb dX4_copy_177 rfl (hl.at rfl) ?_
        refine w_ild C hw (c0 := 47) (i0 := o) dX4_copy_178 (hB2 47 (by decide) (by decide)) rfl rfl (vp_in_nI (show j < 64 by omega) (by decide)) (nI_clamp (by omega)) ?_
        rw [upr_i hoi, hfr 47 o (fun q => hoi q.1)]
        refine w_ist C hw (c0 := 47) (i0 := i) dX4_copy_179 (hB 47 (by decide) (by decide)) rfl (fun _ => rfl) (vp_in_nI (show j < 64 by omega) (by decide)) (nI_clamp (by omega)) (fun H locs hw => ?_)
        refine w_iinc hx hb dX4_copy_180 hl rfl rfl (fun ls hl => ?_)
        refine lv_goto (tgt := 162) hx hb dX4_copy_183 (by decide) ?_
        refine ih (j + 1) (by omega) Zb H locs ls (by rw [← nI_1]; exact hl) hfr d0 d1 d2 d3 d4 d5 ?_
        rw [upr_uu, upr_s, stR_s (f := fun k => Z 47 o k)] at hw
        exact hw
  have loop5 : ∀ (d j : Nat), j + d = 256 → ∀ (Zb : ZT) (H : Heap) (locs : List Loc) (ls : Array Slot), lo ls [some (.ref (X.1 40 i)), some (.ref (X.1 40 o)), some (.int (nI j))] → (∀ c i', ¬ (i' = i ∧ 40 ≤ c ∧ c ≤ 48) → Zb c i' = Z c i') → Zb 40 i = upd (upd (Z 40 i) 0 (Z 40 o 0)) 1 1 → (∀ k, k < 4096 → Zb 41 i k = Z 41 o k) → (∀ k, k < 1024 → Zb 42 i k = Z 42 o k) → (∀ k, k < 8 → Zb 43 i k = Z 43 o k) → (∀ k, k < 9 → Zb 44 i k = Z 44 o k) → Wd sz0 D cs s X (upr (upr Zb 45 i (stR j (fun k => Z 45 o k) (Zb 45 i))) 46 i (stR j (fun k => Z 46 o k) (Zb 46 i))) Y H locs → W p l e ({ frames := 0, cells := 0, slots := 0, locals := 0 } : Room) s m ([.ref (X.1 40 i), .ref (X.1 40 o)] : List Value).toArray below meth c H locs 0 0 (xQ below (CQ sz0 D cs (Pz X Y (fun Z' v => v = none ∧ BRr Z' i F g ∧ Z' 40 i 1 = 1 ∧ ∀ c i', ¬ (i' = i ∧ 40 ≤ c ∧ c ≤ 48) → Z' c i' = Z c i'))) ([.ref (X.1 40 i), .ref (X.1 40 o)] : List Value).toArray s (Asz sz0)) (F0 m 123 ls []) := by
    intro d
    induction d with
    | zero =>
      intro j hj Zb H locs ls hl hfr d0 d1 d2 d3 d4 hw
      refine lv_iload_n hx hb dX4_copy_123 rfl (hl.at rfl) ?_
      refine lv_sipush (v := 256) hx hb dX4_copy_124 (by decide) ?_
      refine lv_icmp_ge (tgt := 160) hx hb dX4_copy_127 (by decide) (fun h127 => ?_) (fun h127 => ?_)
      · have hjn : j = 256 := by omega
        subst hjn
        refine lv_iconst (v := 0) hx hb dX4_copy_160 (by decide) ?_
        refine w_istore_n hx hb dX4_copy_161 rfl hl (Nat.le_of_ble_eq_true rfl) (fun ls hl => ?_)
        refine loop6 64 0 (by decide) (upr (upr Zb 45 i (stR 256 (fun k => Z 45 o k) (Zb 45 i))) 46 i (stR 256 (fun k => Z 46 o k) (Zb 46 i))) _ _ _ hl (fun c i' q => ?_) ?_ ?_ ?_ ?_ ?_ ?_ ?_
        · rw [upr_n (fun e => q ⟨e.2, by omega⟩), upr_n (fun e => q ⟨e.2, by omega⟩)]; exact hfr c i' q
        · rw [upr_k (by decide), upr_k (by decide)]; exact d0
        · intro k hk; rw [upr_k (by decide), upr_k (by decide)]; exact d1 k hk
        · intro k hk; rw [upr_k (by decide), upr_k (by decide)]; exact d2 k hk
        · intro k hk; rw [upr_k (by decide), upr_k (by decide)]; exact d3 k hk
        · intro k hk; rw [upr_k (by decide), upr_k (by decide)]; exact d4 k hk
        · intro k hk; rw [upr_k (by decide), upr_s, upr_s, stR_in hk, stR_in hk]; exact ⟨rfl, rfl⟩
        · rw [stR_0, upr_id]; exact hw
      · exact absurd (nI_le (show 256 ≤ j by omega) (by omega)) h127
    | succ d ih =>
      intro j hj Zb H locs ls hl hfr d0 d1 d2 d3 d4 hw
      refine lv_iload_n hx hb dX4_copy_123 rfl (hl.at rfl) ?_
      refine lv_sipush (v := 256) hx hb dX4_copy_124 (by decide) ?_
      refine lv_icmp_ge (tgt := 160) hx hb dX4_copy_127 (by decide) (fun h127 => ?_) (fun h127 => ?_)
      · exact absurd h127 (nI_ge (show j < 256 by omega) (by decide))
      · refine lv_aload_n hx hb dX4_copy_130 rfl (hl.at rfl) ?_
        refine w_get C hw (c0 := 40) (i0 := i) rfl inA4 6 (by decide) mw79 rfl dX4_copy_131 (hB 40 (by decide) (by decide)) rfl rfl rfl ?_
        refine lv_iload_n hx hb dX4_copy_134 rfl (hl.at rfl) ?_
        refine lv_aload_n hx hb dX4_copy_135 rfl (hl.at rfl) ?_
        refine w_get C hw (c0 := 40) (i0 := o) rfl inA4 6 (by decide) mw79 rfl dX4_copy_136 (hB2 40 (by decide) (by decide)) rfl rfl rfl ?_
        refine lv_iload_n hx hb dX4_copy_139 rfl (hl.at rfl) ?_
        refine w_ild C hw (c0 := 45) (i0 := o) dX4_copy_140 (hB2 45 (by decide) (by decide)) rfl rfl (vp_in_nI (show j < 256 by omega) (by decide)) (nI_clamp (by omega)) ?_
        rw [upr_i hoi, upr_i hoi, hfr 45 o (fun q => hoi q.1)]
        refine w_ist C hw (c0 := 45) (i0 := i) dX4_copy_141 (hB 45 (by decide) (by decide)) rfl (fun _ => rfl) (vp_in_nI (show j < 256 by omega) (by decide)) (nI_clamp (by omega)) (fun H locs hw => ?_)
        refine lv_aload_n hx hb dX4_copy_142 rfl (hl.at rfl) ?_
        refine w_get C hw (c0 := 40) (i0 := i) rfl inA4 7 (by decide) mw80 rfl dX4_copy_143 (hB 40 (by decide) (by decide)) rfl rfl rfl ?_
        refine lv_iload_n hx hb dX4_copy_146 rfl (hl.at rfl) ?_
        refine lv_aload_n hx hb dX4_copy_147 rfl (hl.at rfl) ?_
        refine w_get C hw (c0 := 40) (i0 := o) rfl inA4 7 (by decide) mw80 rfl dX4_copy_148 (hB2 40 (by decide) (by decide)) rfl rfl rfl ?_
        refine lv_iload_n hx hb dX4_copy_151 rfl (hl.at rfl) ?_
        refine w_ild C hw (c0 := 46) (i0 := o) dX4_copy_152 (hB2 46 (by decide) (by decide)) rfl rfl (vp_in_nI (show j < 256 by omega) (by decide)) (nI_clamp (by omega)) ?_
        rw [upr_i hoi, upr_i hoi, upr_i hoi, hfr 46 o (fun q => hoi q.1)]
        refine w_ist C hw (c0 := 46) (i0 := i) dX4_copy_153 (hB 46 (by decide) (by decide)) rfl (fun _ => rfl) (vp_in_nI (show j < 256 by omega) (by decide)) (nI_clamp (by omega)) (fun H locs hw => ?_)
        refine w_iinc hx hb dX4_copy_154 hl rfl rfl (fun ls hl => ?_)
        refine lv_goto (tgt := 123) hx hb dX4_copy_157 (by decide) ?_
        refine ih (j + 1) (by omega) Zb H locs ls (by rw [← nI_1]; exact hl) hfr d0 d1 d2 d3 d4 ?_
        rw [upr_k (show (45 : Nat) ≠ 46 by decide), upr_s, stR_s (f := fun k => Z 45 o k), upr_k (show (46 : Nat) ≠ 45 by decide), upr_s, stR_s (f := fun k => Z 46 o k), upr_cm (show (46 : Nat) ≠ 45 by decide), upr_uu, upr_uu] at hw
        exact hw
  have loop4 : ∀ (d j : Nat), j + d = 9 → ∀ (Zb : ZT) (H : Heap) (locs : List Loc) (ls : Array Slot), lo ls [some (.ref (X.1 40 i)), some (.ref (X.1 40 o)), some (.int (nI j))] → (∀ c i', ¬ (i' = i ∧ 40 ≤ c ∧ c ≤ 48) → Zb c i' = Z c i') → Zb 40 i = upd (upd (Z 40 i) 0 (Z 40 o 0)) 1 1 → (∀ k, k < 4096 → Zb 41 i k = Z 41 o k) → (∀ k, k < 1024 → Zb 42 i k = Z 42 o k) → (∀ k, k < 8 → Zb 43 i k = Z 43 o k) → Wd sz0 D cs s X (upr Zb 44 i (stR j (fun k => Z 44 o k) (Zb 44 i))) Y H locs → W p l e ({ frames := 0, cells := 0, slots := 0, locals := 0 } : Room) s m ([.ref (X.1 40 i), .ref (X.1 40 o)] : List Value).toArray below meth c H locs 0 0 (xQ below (CQ sz0 D cs (Pz X Y (fun Z' v => v = none ∧ BRr Z' i F g ∧ Z' 40 i 1 = 1 ∧ ∀ c i', ¬ (i' = i ∧ 40 ≤ c ∧ c ≤ 48) → Z' c i' = Z c i'))) ([.ref (X.1 40 i), .ref (X.1 40 o)] : List Value).toArray s (Asz sz0)) (F0 m 97 ls []) := by
    intro d
    induction d with
    | zero =>
      intro j hj Zb H locs ls hl hfr d0 d1 d2 d3 hw
      refine lv_iload_n hx hb dX4_copy_97 rfl (hl.at rfl) ?_
      refine lv_bipush (v := 9) hx hb dX4_copy_98 (by decide) ?_
      refine lv_icmp_ge (tgt := 121) hx hb dX4_copy_100 (by decide) (fun h100 => ?_) (fun h100 => ?_)
      · have hjn : j = 9 := by omega
        subst hjn
        refine lv_iconst (v := 0) hx hb dX4_copy_121 (by decide) ?_
        refine w_istore_n hx hb dX4_copy_122 rfl hl (Nat.le_of_ble_eq_true rfl) (fun ls hl => ?_)
        refine loop5 256 0 (by decide) (upr Zb 44 i (stR 9 (fun k => Z 44 o k) (Zb 44 i))) _ _ _ hl (fun c i' q => ?_) ?_ ?_ ?_ ?_ ?_ ?_
        · rw [upr_n (fun e => q ⟨e.2, by omega⟩)]; exact hfr c i' q
        · rw [upr_k (by decide)]; exact d0
        · intro k hk; rw [upr_k (by decide)]; exact d1 k hk
        · intro k hk; rw [upr_k (by decide)]; exact d2 k hk
        · intro k hk; rw [upr_k (by decide)]; exact d3 k hk
        · intro k hk; rw [upr_s, stR_in hk]
        · rw [stR_0, stR_0, upr_id, upr_id]; exact hw
      · exact absurd (nI_le (show 9 ≤ j by omega) (by omega)) h100
    | succ d ih =>
      intro j hj Zb H locs ls hl hfr d0 d1 d2 d3 hw
      refine lv_iload_n hx hb dX4_copy_97 rfl (hl.at rfl) ?_
      refine lv_bipush (v := 9) hx hb dX4_copy_98 (by decide) ?_
      refine lv_icmp_ge (tgt := 121) hx hb dX4_copy_100 (by decide) (fun h100 => ?_) (fun h100 => ?_)
      · exact absurd h100 (nI_ge (show j < 9 by omega) (by decide))
      · refine lv_aload_n hx hb dX4_copy_103 rfl (hl.at rfl) ?_
        refine w_get C hw (c0 := 40) (i0 := i) rfl inA4 5 (by decide) mw78 rfl dX4_copy_104 (hB 40 (by decide) (by decide)) rfl rfl rfl ?_
        refine lv_iload_n hx hb dX4_copy_107 rfl (hl.at rfl) ?_
        refine lv_aload_n hx hb dX4_copy_108 rfl (hl.at rfl) ?_
        refine w_get C hw (c0 := 40) (i0 := o) rfl inA4 5 (by decide) mw78 rfl dX4_copy_109 (hB2 40 (by decide) (by decide)) rfl rfl rfl ?_
        refine lv_iload_n hx hb dX4_copy_112 rfl (hl.at rfl) ?_
        refine w_ild C hw (c0 := 44) (i0 := o) dX4_copy_113 (hB2 44 (by decide) (by decide)) rfl rfl (vp_in_nI (show j < 9 by omega) (by decide)) (nI_clamp (by omega)) ?_
        rw [upr_i hoi, hfr 44 o (fun q => hoi q.1)]
        refine w_ist C hw (c0 := 44) (i0 := i) dX4_copy_114 (hB 44 (by decide) (by decide)) rfl (fun _ => rfl) (vp_in_nI (show j < 9 by omega) (by decide)) (nI_clamp (by omega)) (fun H locs hw => ?_)
        refine w_iinc hx hb dX4_copy_115 hl rfl rfl (fun ls hl => ?_)
        refine lv_goto (tgt := 97) hx hb dX4_copy_118 (by decide) ?_
        refine ih (j + 1) (by omega) Zb H locs ls (by rw [← nI_1]; exact hl) hfr d0 d1 d2 d3 ?_
        rw [upr_uu, upr_s, stR_s (f := fun k => Z 44 o k)] at hw
        exact hw
  have loop3 : ∀ (d j : Nat), j + d = 8 → ∀ (Zb : ZT) (H : Heap) (locs : List Loc) (ls : Array Slot), lo ls [some (.ref (X.1 40 i)), some (.ref (X.1 40 o)), some (.int (nI j))] → (∀ c i', ¬ (i' = i ∧ 40 ≤ c ∧ c ≤ 48) → Zb c i' = Z c i') → Zb 40 i = upd (upd (Z 40 i) 0 (Z 40 o 0)) 1 1 → (∀ k, k < 4096 → Zb 41 i k = Z 41 o k) → (∀ k, k < 1024 → Zb 42 i k = Z 42 o k) → Wd sz0 D cs s X (upr Zb 43 i (stR j (fun k => Z 43 o k) (Zb 43 i))) Y H locs → W p l e ({ frames := 0, cells := 0, slots := 0, locals := 0 } : Room) s m ([.ref (X.1 40 i), .ref (X.1 40 o)] : List Value).toArray below meth c H locs 0 0 (xQ below (CQ sz0 D cs (Pz X Y (fun Z' v => v = none ∧ BRr Z' i F g ∧ Z' 40 i 1 = 1 ∧ ∀ c i', ¬ (i' = i ∧ 40 ≤ c ∧ c ≤ 48) → Z' c i' = Z c i'))) ([.ref (X.1 40 i), .ref (X.1 40 o)] : List Value).toArray s (Asz sz0)) (F0 m 71 ls []) := by
    intro d
    induction d with
    | zero =>
      intro j hj Zb H locs ls hl hfr d0 d1 d2 hw
      refine lv_iload_n hx hb dX4_copy_71 rfl (hl.at rfl) ?_
      refine lv_bipush (v := 8) hx hb dX4_copy_72 (by decide) ?_
      refine lv_icmp_ge (tgt := 95) hx hb dX4_copy_74 (by decide) (fun h74 => ?_) (fun h74 => ?_)
      · have hjn : j = 8 := by omega
        subst hjn
        refine lv_iconst (v := 0) hx hb dX4_copy_95 (by decide) ?_
        refine w_istore_n hx hb dX4_copy_96 rfl hl (Nat.le_of_ble_eq_true rfl) (fun ls hl => ?_)
        refine loop4 9 0 (by decide) (upr Zb 43 i (stR 8 (fun k => Z 43 o k) (Zb 43 i))) _ _ _ hl (fun c i' q => ?_) ?_ ?_ ?_ ?_ ?_
        · rw [upr_n (fun e => q ⟨e.2, by omega⟩)]; exact hfr c i' q
        · rw [upr_k (by decide)]; exact d0
        · intro k hk; rw [upr_k (by decide)]; exact d1 k hk
        · intro k hk; rw [upr_k (by decide)]; exact d2 k hk
        · intro k hk; rw [upr_s, stR_in hk]
        · rw [stR_0, upr_id]; exact hw
      · exact absurd (nI_le (show 8 ≤ j by omega) (by omega)) h74
    | succ d ih =>
      intro j hj Zb H locs ls hl hfr d0 d1 d2 hw
      refine lv_iload_n hx hb dX4_copy_71 rfl (hl.at rfl) ?_
      refine lv_bipush (v := 8) hx hb dX4_copy_72 (by decide) ?_
      refine lv_icmp_ge (tgt := 95) hx hb dX4_copy_74 (by decide) (fun h74 => ?_) (fun h74 => ?_)
      · exact absurd h74 (nI_ge (show j < 8 by omega) (by decide))
      · refine lv_aload_n hx hb dX4_copy_77 rfl (hl.at rfl) ?_
        refine w_get C hw (c0 := 40) (i0 := i) rfl inA4 4 (by decide) mw77 rfl dX4_copy_78 (hB 40 (by decide) (by decide)) rfl rfl rfl ?_
        refine lv_iload_n hx hb dX4_copy_81 rfl (hl.at rfl) ?_
        refine lv_aload_n hx hb dX4_copy_82 rfl (hl.at rfl) ?_
        refine w_get C hw (c0 := 40) (i0 := o) rfl inA4 4 (by decide) mw77 rfl dX4_copy_83 (hB2 40 (by decide) (by decide)) rfl rfl rfl ?_
        refine lv_iload_n hx hb dX4_copy_86 rfl (hl.at rfl) ?_
        refine w_ild C hw (c0 := 43) (i0 := o) dX4_copy_87 (hB2 43 (by decide) (by decide)) rfl rfl (vp_in_nI (show j < 8 by omega) (by decide)) (nI_clamp (by omega)) ?_
        rw [upr_i hoi, hfr 43 o (fun q => hoi q.1)]
        refine w_ist C hw (c0 := 43) (i0 := i) dX4_copy_88 (hB 43 (by decide) (by decide)) rfl (fun _ => rfl) (vp_in_nI (show j < 8 by omega) (by decide)) (nI_clamp (by omega)) (fun H locs hw => ?_)
        refine w_iinc hx hb dX4_copy_89 hl rfl rfl (fun ls hl => ?_)
        refine lv_goto (tgt := 71) hx hb dX4_copy_92 (by decide) ?_
        refine ih (j + 1) (by omega) Zb H locs ls (by rw [← nI_1]; exact hl) hfr d0 d1 d2 ?_
        rw [upr_uu, upr_s, stR_s (f := fun k => Z 43 o k)] at hw
        exact hw
  have loop2 : ∀ (d j : Nat), j + d = 1024 → ∀ (Zb : ZT) (H : Heap) (locs : List Loc) (ls : Array Slot), lo ls [some (.ref (X.1 40 i)), some (.ref (X.1 40 o)), some (.int (nI j))] → (∀ c i', ¬ (i' = i ∧ 40 ≤ c ∧ c ≤ 48) → Zb c i' = Z c i') → Zb 40 i = upd (upd (Z 40 i) 0 (Z 40 o 0)) 1 1 → (∀ k, k < 4096 → Zb 41 i k = Z 41 o k) → Wd sz0 D cs s X (upr Zb 42 i (stR j (fun k => Z 42 o k) (Zb 42 i))) Y H locs → W p l e ({ frames := 0, cells := 0, slots := 0, locals := 0 } : Room) s m ([.ref (X.1 40 i), .ref (X.1 40 o)] : List Value).toArray below meth c H locs 0 0 (xQ below (CQ sz0 D cs (Pz X Y (fun Z' v => v = none ∧ BRr Z' i F g ∧ Z' 40 i 1 = 1 ∧ ∀ c i', ¬ (i' = i ∧ 40 ≤ c ∧ c ≤ 48) → Z' c i' = Z c i'))) ([.ref (X.1 40 i), .ref (X.1 40 o)] : List Value).toArray s (Asz sz0)) (F0 m 44 ls []) := by
    intro d
    induction d with
    | zero =>
      intro j hj Zb H locs ls hl hfr d0 d1 hw
      refine lv_iload_n hx hb dX4_copy_44 rfl (hl.at rfl) ?_
      refine lv_sipush (v := 1024) hx hb dX4_copy_45 (by decide) ?_
      refine lv_icmp_ge (tgt := 69) hx hb dX4_copy_48 (by decide) (fun h48 => ?_) (fun h48 => ?_)
      · have hjn : j = 1024 := by omega
        subst hjn
        refine lv_iconst (v := 0) hx hb dX4_copy_69 (by decide) ?_
        refine w_istore_n hx hb dX4_copy_70 rfl hl (Nat.le_of_ble_eq_true rfl) (fun ls hl => ?_)
        refine loop3 8 0 (by decide) (upr Zb 42 i (stR 1024 (fun k => Z 42 o k) (Zb 42 i))) _ _ _ hl (fun c i' q => ?_) ?_ ?_ ?_ ?_
        · rw [upr_n (fun e => q ⟨e.2, by omega⟩)]; exact hfr c i' q
        · rw [upr_k (by decide)]; exact d0
        · intro k hk; rw [upr_k (by decide)]; exact d1 k hk
        · intro k hk; rw [upr_s, stR_in hk]
        · rw [stR_0, upr_id]; exact hw
      · exact absurd (nI_le (show 1024 ≤ j by omega) (by omega)) h48
    | succ d ih =>
      intro j hj Zb H locs ls hl hfr d0 d1 hw
      refine lv_iload_n hx hb dX4_copy_44 rfl (hl.at rfl) ?_
      refine lv_sipush (v := 1024) hx hb dX4_copy_45 (by decide) ?_
      refine lv_icmp_ge (tgt := 69) hx hb dX4_copy_48 (by decide) (fun h48 => ?_) (fun h48 => ?_)
      · exact absurd h48 (nI_ge (show j < 1024 by omega) (by decide))
      · refine lv_aload_n hx hb dX4_copy_51 rfl (hl.at rfl) ?_
        refine w_get C hw (c0 := 40) (i0 := i) rfl inA4 3 (by decide) mw76 rfl dX4_copy_52 (hB 40 (by decide) (by decide)) rfl rfl rfl ?_
        refine lv_iload_n hx hb dX4_copy_55 rfl (hl.at rfl) ?_
        refine lv_aload_n hx hb dX4_copy_56 rfl (hl.at rfl) ?_
        refine w_get C hw (c0 := 40) (i0 := o) rfl inA4 3 (by decide) mw76 rfl dX4_copy_57 (hB2 40 (by decide) (by decide)) rfl rfl rfl ?_
        refine lv_iload_n hx hb dX4_copy_60 rfl (hl.at rfl) ?_
        refine w_ild C hw (c0 := 42) (i0 := o) dX4_copy_61 (hB2 42 (by decide) (by decide)) rfl rfl (vp_in_nI (show j < 1024 by omega) (by decide)) (nI_clamp (by omega)) ?_
        rw [upr_i hoi, hfr 42 o (fun q => hoi q.1)]
        refine w_ist C hw (c0 := 42) (i0 := i) dX4_copy_62 (hB 42 (by decide) (by decide)) rfl (fun _ => rfl) (vp_in_nI (show j < 1024 by omega) (by decide)) (nI_clamp (by omega)) (fun H locs hw => ?_)
        refine w_iinc hx hb dX4_copy_63 hl rfl rfl (fun ls hl => ?_)
        refine lv_goto (tgt := 44) hx hb dX4_copy_66 (by decide) ?_
        refine ih (j + 1) (by omega) Zb H locs ls (by rw [← nI_1]; exact hl) hfr d0 d1 ?_
        rw [upr_uu, upr_s, stR_s (f := fun k => Z 42 o k)] at hw
        exact hw
  have loop1 : ∀ (d j : Nat), j + d = 4096 → ∀ (Zb : ZT) (H : Heap) (locs : List Loc) (ls : Array Slot), lo ls [some (.ref (X.1 40 i)), some (.ref (X.1 40 o)), some (.int (nI j))] → (∀ c i', ¬ (i' = i ∧ 40 ≤ c ∧ c ≤ 48) → Zb c i' = Z c i') → Zb 40 i = upd (upd (Z 40 i) 0 (Z 40 o 0)) 1 1 → Wd sz0 D cs s X (upr Zb 41 i (stR j (fun k => Z 41 o k) (Zb 41 i))) Y H locs → W p l e ({ frames := 0, cells := 0, slots := 0, locals := 0 } : Room) s m ([.ref (X.1 40 i), .ref (X.1 40 o)] : List Value).toArray below meth c H locs 0 0 (xQ below (CQ sz0 D cs (Pz X Y (fun Z' v => v = none ∧ BRr Z' i F g ∧ Z' 40 i 1 = 1 ∧ ∀ c i', ¬ (i' = i ∧ 40 ≤ c ∧ c ≤ 48) → Z' c i' = Z c i'))) ([.ref (X.1 40 i), .ref (X.1 40 o)] : List Value).toArray s (Asz sz0)) (F0 m 15 ls []) := by
    intro d
    induction d with
    | zero =>
      intro j hj Zb H locs ls hl hfr d0 hw
      refine lv_iload_n hx hb dX4_copy_15 rfl (hl.at rfl) ?_
      refine lv_aload_n hx hb dX4_copy_16 rfl (hl.at rfl) ?_
      refine w_get C hw (c0 := 40) (i0 := i) rfl inA4 2 (by decide) mw75 rfl dX4_copy_17 (hB 40 (by decide) (by decide)) rfl rfl rfl ?_
      refine w_len C hw (c0 := 41) (i0 := i) (ty := 0) dX4_copy_20 (hB 41 (by decide) (by decide)) rfl (n := 4096) (v := 4096) rfl rfl rfl (by decide) ?_
      refine lv_icmp_ge (tgt := 42) hx hb dX4_copy_21 (by decide) (fun h21 => ?_) (fun h21 => ?_)
      · have hjn : j = 4096 := by omega
        subst hjn
        refine lv_iconst (v := 0) hx hb dX4_copy_42 (by decide) ?_
        refine w_istore_n hx hb dX4_copy_43 rfl hl (Nat.le_of_ble_eq_true rfl) (fun ls hl => ?_)
        refine loop2 1024 0 (by decide) (upr Zb 41 i (stR 4096 (fun k => Z 41 o k) (Zb 41 i))) _ _ _ hl (fun c i' q => ?_) ?_ ?_ ?_
        · rw [upr_n (fun e => q ⟨e.2, by omega⟩)]; exact hfr c i' q
        · rw [upr_k (by decide)]; exact d0
        · intro k hk; rw [upr_s, stR_in hk]
        · rw [stR_0, upr_id]; exact hw
      · exact absurd (nI_le (show 4096 ≤ j by omega) (by omega)) h21
    | succ d ih =>
      intro j hj Zb H locs ls hl hfr d0 hw
      refine lv_iload_n hx hb dX4_copy_15 rfl (hl.at rfl) ?_
      refine lv_aload_n hx hb dX4_copy_16 rfl (hl.at rfl) ?_
      refine w_get C hw (c0 := 40) (i0 := i) rfl inA4 2 (by decide) mw75 rfl dX4_copy_17 (hB 40 (by decide) (by decide)) rfl rfl rfl ?_
      refine w_len C hw (c0 := 41) (i0 := i) (ty := 0) dX4_copy_20 (hB 41 (by decide) (by decide)) rfl (n := 4096) (v := 4096) rfl rfl rfl (by decide) ?_
      refine lv_icmp_ge (tgt := 42) hx hb dX4_copy_21 (by decide) (fun h21 => ?_) (fun h21 => ?_)
      · exact absurd h21 (nI_ge (show j < 4096 by omega) (by decide))
      · refine lv_aload_n hx hb dX4_copy_24 rfl (hl.at rfl) ?_
        refine w_get C hw (c0 := 40) (i0 := i) rfl inA4 2 (by decide) mw75 rfl dX4_copy_25 (hB 40 (by decide) (by decide)) rfl rfl rfl ?_
        refine lv_iload_n hx hb dX4_copy_28 rfl (hl.at rfl) ?_
        refine lv_aload_n hx hb dX4_copy_29 rfl (hl.at rfl) ?_
        refine w_get C hw (c0 := 40) (i0 := o) rfl inA4 2 (by decide) mw75 rfl dX4_copy_30 (hB2 40 (by decide) (by decide)) rfl rfl rfl ?_
        refine lv_iload_n hx hb dX4_copy_33 rfl (hl.at rfl) ?_
        refine w_ild C hw (c0 := 41) (i0 := o) dX4_copy_34 (hB2 41 (by decide) (by decide)) rfl rfl (vp_in_nI (show j < 4096 by omega) (by decide)) (nI_clamp (by omega)) ?_
        rw [upr_i hoi, hfr 41 o (fun q => hoi q.1)]
        refine w_ist C hw (c0 := 41) (i0 := i) dX4_copy_35 (hB 41 (by decide) (by decide)) rfl (fun _ => rfl) (vp_in_nI (show j < 4096 by omega) (by decide)) (nI_clamp (by omega)) (fun H locs hw => ?_)
        refine w_iinc hx hb dX4_copy_36 hl rfl rfl (fun ls hl => ?_)
        refine lv_goto (tgt := 15) hx hb dX4_copy_39 (by decide) ?_
        refine ih (j + 1) (by omega) Zb H locs ls (by rw [← nI_1]; exact hl) hfr d0 ?_
        rw [upr_uu, upr_s, stR_s (f := fun k => Z 41 o k)] at hw
        exact hw
  refine lv_aload_n hx hb dX4_copy_0 rfl (hl.at rfl) ?_
  refine lv_aload_n hx hb dX4_copy_1 rfl (hl.at rfl) ?_
  refine w_get C hw (c0 := 40) (i0 := o) rfl inA4 0 (by decide) mw161 rfl dX4_copy_2 (hB2 40 (by decide) (by decide)) rfl rfl rfl ?_
  refine w_put C hw (c0 := 40) (i0 := i) rfl inA4 tyX4_ok nmX4 0 (by decide) mw161 rfl rfl rfl dX4_copy_5 (hB 40 (by decide) (by decide)) rfl rfl rfl rfl (Nat.le_of_ble_eq_true rfl) rfl (fun H locs hw => ?_)
  refine lv_aload_n hx hb dX4_copy_8 rfl (hl.at rfl) ?_
  refine lv_iconst (v := 1) hx hb dX4_copy_9 (by decide) ?_
  refine w_put C hw (c0 := 40) (i0 := i) rfl inA4 tyX4_ok nmX4 1 (by decide) mw162 rfl rfl rfl dX4_copy_10 (hB 40 (by decide) (by decide)) rfl (by decide) (by decide) rfl (Nat.le_of_ble_eq_true rfl) rfl (fun H locs hw => ?_)
  refine lv_iconst (v := 0) hx hb dX4_copy_13 (by decide) ?_
  refine w_istore_n hx hb dX4_copy_14 rfl hl (Nat.le_of_ble_eq_true rfl) (fun ls hl => ?_)
  simp only [upr_uu, upr_s] at hw
  refine loop1 4096 0 (by decide) (upr Z 40 i (upd (upd (Z 40 i) 0 (Z 40 o 0)) 1 1)) _ _ _ hl (fun c i' q => ?_) ?_ ?_
  · exact upr_n (fun e => q ⟨e.2, by omega⟩)
  · exact upr_s
  · rw [stR_0, upr_id]; exact hw
