set_option maxHeartbeats 4000000 in
set_option maxRecDepth 100000 in
theorem c_fill (l : Launch) (sz0 : Nat) (D : va_G) (cs : Nat → ClassId) (X : Sh) (Z : ZT) (Y : va_W) (c0 i0 n : Nat) (b : Int32) (hm : (c0, i0) ∈ X.2.2.2) (he : ∀ f, Ec cs X c0 i0 f = .inl (cs 0, n, .inl f)) (hn : n < 2 ^ 31) : Ctr l yJ7_fill_53178 (wsM yJ7_fill_53178 cJ7_fill_53178 4 none) ({ frames := 0, cells := 0, slots := 0, locals := 0 } : Room) sz0 D cs [.ref (adr X c0 i0), .int b] X Z Y (Pz X Y (fun Z' v => Z' = upr Z c0 i0 (fun k => if k < n then b else Z c0 i0 k) ∧ v = none)) := by
  refine Ctr.ofW (by decide +kernel) (by intro v hv; simp at hv; rcases hv with rfl | rfl <;> rfl) (Nat.le_of_ble_eq_true rfl) ?_
  intro p e s m below meth c ls C hr hlocks hname hl hN hw
  obtain ⟨hx, hb, hml, hown, hts⟩ := id C
  refine lv_iconst (v := 0) hx hb dJ7_fill_53178_0 (by decide) ?_
  refine w_istore_n hx hb dJ7_fill_53178_1 rfl hl (Nat.le_of_ble_eq_true rfl) (fun ls hl => ?_)
  refine lv_aload_n hx hb dJ7_fill_53178_2 rfl (hl.at rfl) ?_
  refine w_len C hw (c0 := c0) (i0 := i0) (ty := 0) dJ7_fill_53178_3 hm rfl (he _) rfl rfl rfl ?_
  refine w_istore_n hx hb dJ7_fill_53178_4 rfl hl (Nat.le_of_ble_eq_true rfl) (fun ls hl => ?_)
  have loop : ∀ (d j : Nat), j + d = n → ∀ (H : Heap) (locs : List Loc) (ls : Array Slot), lo ls [some (.ref (adr X c0 i0)), some (.int b), some (.int (nI j)), some (.int (nI n))] → Wd sz0 D cs s X (upr Z c0 i0 (fun k => if k < j then b else Z c0 i0 k)) Y H locs → W p l e ({ frames := 0, cells := 0, slots := 0, locals := 0 } : Room) s m ([.ref (adr X c0 i0), .int b] : List Value).toArray below meth c H locs 0 0 (xQ below (CQ sz0 D cs (Pz X Y (fun Z' v => Z' = upr Z c0 i0 (fun k => if k < n then b else Z c0 i0 k) ∧ v = none))) ([.ref (adr X c0 i0), .int b] : List Value).toArray s (Asz sz0)) (F0 m 5 ls []) := by
    intro d
    induction d with
    | zero =>
      intro j hj H locs ls hl hw
      refine lv_iload_n hx hb dJ7_fill_53178_5 rfl (hl.at rfl) ?_
      refine lv_iload_n hx hb dJ7_fill_53178_6 rfl (hl.at rfl) ?_
      refine lv_icmp_ge (tgt := 20) hx hb dJ7_fill_53178_7 (by decide) (fun h7 => ?_) (fun h7 => ?_)
      · have hjn : j = n := by omega
        subst hjn
        exact w_vret C hw hr hlocks dJ7_fill_53178_20 ⟨rfl, rfl, rfl, rfl, rfl, rfl⟩
      · exact absurd (nI_le (show n ≤ j by omega) (by omega)) h7
    | succ d ih =>
      intro j hj H locs ls hl hw
      refine lv_iload_n hx hb dJ7_fill_53178_5 rfl (hl.at rfl) ?_
      refine lv_iload_n hx hb dJ7_fill_53178_6 rfl (hl.at rfl) ?_
      refine lv_icmp_ge (tgt := 20) hx hb dJ7_fill_53178_7 (by decide) (fun h7 => ?_) (fun h7 => ?_)
      · exact absurd h7 (nI_ge (show j < n by omega) hn)
      · refine lv_aload_n hx hb dJ7_fill_53178_10 rfl (hl.at rfl) ?_
        refine lv_iload_n hx hb dJ7_fill_53178_11 rfl (hl.at rfl) ?_
        refine lv_iload_n hx hb dJ7_fill_53178_12 rfl (hl.at rfl) ?_
        refine w_ist C hw (c0 := c0) (i0 := i0) dJ7_fill_53178_13 hm rfl he (vp_in_nI (by omega) hn) (nI_clamp (by omega)) (fun H locs hw => ?_)
        refine w_iinc hx hb dJ7_fill_53178_14 hl rfl rfl (fun ls hl => ?_)
        refine lv_goto (tgt := 5) hx hb dJ7_fill_53178_17 (by decide) ?_
        refine ih (j + 1) (by omega) H locs ls (by rw [← nI_1]; exact hl) ?_
        rw [upr_uu, upr_s] at hw
        have e1 : upd (fun k => if k < j then b else Z c0 i0 k) j b = (fun k => if k < j + 1 then b else Z c0 i0 k) := by
          funext k
          simp only [upd]
          by_cases h1 : k = j
          · rw [if_pos h1, if_pos (by omega)]
          · rw [if_neg h1]
            by_cases h2 : k < j
            · rw [if_pos h2, if_pos (by omega)]
            · rw [if_neg h2, if_neg (by omega)]
        rw [e1] at hw
        exact hw
  refine loop n 0 (by omega) _ _ _ hl ?_
  have e0 : upr Z c0 i0 (fun k => if k < 0 then b else Z c0 i0 k) = Z := upr_id
  rw [e0]
  exact hw
