/-! ===== the constructors of what is made ===== -/

set_option maxHeartbeats 4000000 in
set_option maxRecDepth 100000 in
theorem c_X0_init (l : Launch) (sz0 : Nat) (D : va_G) (cs : Nat → ClassId) (X : Sh) (Z : ZT) (Y : va_W) (a : Nat) : Ctr l yX0_init (wsM yX0_init cX0_init 1 none) ({ frames := 1, cells := 7, slots := 2426, locals := 20 } : Room) sz0 D cs [.ref a] X Z (Y ++ [(a, .inr (0, [.int 0, .int 0, .int 0, .int 0, .int 0, .int 0, .int 0, .null, .null, .null, .null, .null, .null, .int 0, .int 0, .null, .int 0]))]) (fun X' Z' Y' v k n => X = X' ∧ Z = Z' ∧ v = none ∧ k = 7 ∧ n = 2426 ∧ ∃ q1 q2 q3 q4 q5 q6 q7, Y' = Y ++ [(a, .inr (0, [.int 0, .int 0, .int 0, .int 0, .int 0, .int 0, .int 0, .ref q1, .ref q2, .ref q3, .ref q4, .ref q5, .ref q6, .int 0, .int 0, .ref q7, .int 0])), lcell cs q1 64 (fun _ => 0), lcell cs q2 1024 (fun _ => 0), lcell cs q3 8 (fun _ => 0), lcell cs q4 10 (fun _ => 0), lcell cs q5 256 (fun _ => 0), lcell cs q6 64 (fun _ => 0), lcell cs q7 1000 (fun _ => 0)]) := by
  refine Ctr.ofW (by decide +kernel) (by intro v hv; simp at hv; rcases hv with rfl <;> rfl) (Nat.le_of_ble_eq_true rfl) ?_
  intro p e s m below meth c ls C hr hlocks hname hl hN hw
  obtain ⟨hx, hb, hml, hown, hts⟩ := id C
  refine lv_aload_n hx hb dX0_init_0 rfl (hl.at rfl) ?_
  refine w_obj C hl rfl mw114 dX0_init_1 (Nat.le_of_ble_eq_true rfl) (Nat.le_of_ble_eq_true rfl) ?_
  refine lv_aload_n hx hb dX0_init_4 rfl (hl.at rfl) ?_
  refine lv_bipush (v := 64) hx hb dX0_init_5 (by decide) ?_
  refine w_newiL C hw (N := 64) (by decide) (by decide) (by decide) (Nat.le_of_ble_eq_true rfl) (Nat.le_of_ble_eq_true rfl) dX0_init_7 (fun q1 H hw => ?_)
  refine w_putLF C hw hname (k0 := 0) rfl inA0 tyX0_ok nmX0 7 (by decide) mw115 rfl rfl rfl rfl dX0_init_9 rfl rfl rfl (Nat.le_of_ble_eq_true rfl) (fun H locs hw => ?_)
  refine lv_aload_n hx hb dX0_init_12 rfl (hl.at rfl) ?_
  refine lv_sipush (v := 1024) hx hb dX0_init_13 (by decide) ?_
  refine w_newiL C hw (N := 1024) (by decide) (by decide) (by decide) (Nat.le_of_ble_eq_true rfl) (Nat.le_of_ble_eq_true rfl) dX0_init_16 (fun q2 H hw => ?_)
  refine w_putLF C hw hname (k0 := 0) rfl inA0 tyX0_ok nmX0 8 (by decide) mw116 rfl rfl rfl rfl dX0_init_18 rfl rfl rfl (Nat.le_of_ble_eq_true rfl) (fun H locs hw => ?_)
  refine lv_aload_n hx hb dX0_init_21 rfl (hl.at rfl) ?_
  refine lv_bipush (v := 8) hx hb dX0_init_22 (by decide) ?_
  refine w_newiL C hw (N := 8) (by decide) (by decide) (by decide) (Nat.le_of_ble_eq_true rfl) (Nat.le_of_ble_eq_true rfl) dX0_init_24 (fun q3 H hw => ?_)
  refine w_putLF C hw hname (k0 := 0) rfl inA0 tyX0_ok nmX0 9 (by decide) mw117 rfl rfl rfl rfl dX0_init_26 rfl rfl rfl (Nat.le_of_ble_eq_true rfl) (fun H locs hw => ?_)
  refine lv_aload_n hx hb dX0_init_29 rfl (hl.at rfl) ?_
  refine lv_bipush (v := 10) hx hb dX0_init_30 (by decide) ?_
  refine w_newiL C hw (N := 10) (by decide) (by decide) (by decide) (Nat.le_of_ble_eq_true rfl) (Nat.le_of_ble_eq_true rfl) dX0_init_32 (fun q4 H hw => ?_)
  refine w_putLF C hw hname (k0 := 0) rfl inA0 tyX0_ok nmX0 10 (by decide) mw118 rfl rfl rfl rfl dX0_init_34 rfl rfl rfl (Nat.le_of_ble_eq_true rfl) (fun H locs hw => ?_)
  refine lv_aload_n hx hb dX0_init_37 rfl (hl.at rfl) ?_
  refine lv_sipush (v := 256) hx hb dX0_init_38 (by decide) ?_
  refine w_newiL C hw (N := 256) (by decide) (by decide) (by decide) (Nat.le_of_ble_eq_true rfl) (Nat.le_of_ble_eq_true rfl) dX0_init_41 (fun q5 H hw => ?_)
  refine w_putLF C hw hname (k0 := 0) rfl inA0 tyX0_ok nmX0 11 (by decide) mw119 rfl rfl rfl rfl dX0_init_43 rfl rfl rfl (Nat.le_of_ble_eq_true rfl) (fun H locs hw => ?_)
  refine lv_aload_n hx hb dX0_init_46 rfl (hl.at rfl) ?_
  refine lv_bipush (v := 64) hx hb dX0_init_47 (by decide) ?_
  refine w_newiL C hw (N := 64) (by decide) (by decide) (by decide) (Nat.le_of_ble_eq_true rfl) (Nat.le_of_ble_eq_true rfl) dX0_init_49 (fun q6 H hw => ?_)
  refine w_putLF C hw hname (k0 := 0) rfl inA0 tyX0_ok nmX0 12 (by decide) mw120 rfl rfl rfl rfl dX0_init_51 rfl rfl rfl (Nat.le_of_ble_eq_true rfl) (fun H locs hw => ?_)
  refine lv_aload_n hx hb dX0_init_54 rfl (hl.at rfl) ?_
  refine lv_sipush (v := 1000) hx hb dX0_init_55 (by decide) ?_
  refine w_newiL C hw (N := 1000) (by decide) (by decide) (by decide) (Nat.le_of_ble_eq_true rfl) (Nat.le_of_ble_eq_true rfl) dX0_init_58 (fun q7 H hw => ?_)
  refine w_putLF C hw hname (k0 := 0) rfl inA0 tyX0_ok nmX0 15 (by decide) mw121 rfl rfl rfl rfl dX0_init_60 rfl rfl rfl (Nat.le_of_ble_eq_true rfl) (fun H locs hw => ?_)
  exact w_vret C hw hr hlocks dX0_init_63 ⟨rfl, rfl, rfl, rfl, rfl, q1, q2, q3, q4, q5, q6, q7, rfl⟩

set_option maxHeartbeats 4000000 in
set_option maxRecDepth 100000 in
theorem c_X1_init (l : Launch) (sz0 : Nat) (D : va_G) (cs : Nat → ClassId) (X : Sh) (Z : ZT) (Y : va_W) (a : Nat) : Ctr l yX1_init (wsM yX1_init cX1_init 1 none) ({ frames := 1, cells := 9, slots := 3589, locals := 20 } : Room) sz0 D cs [.ref a] X Z (Y ++ [(a, .inr (1, [.int 0, .int 0, .int 0, .int 0, .null, .null, .null, .null, .null, .null, .null, .null, .null]))]) (fun X' Z' Y' v k n => X = X' ∧ Z = Z' ∧ v = none ∧ k = 9 ∧ n = 3589 ∧ ∃ q1 q2 q3 q4 q5 q6 q7 q8 q9, Y' = Y ++ [(a, .inr (1, [.int 0, .int 0, .int 0, .int 0, .ref q1, .ref q2, .ref q3, .ref q4, .ref q5, .ref q6, .ref q7, .ref q8, .ref q9])), lcell cs q1 256 (fun _ => 0), lcell cs q2 256 (fun _ => 0), lcell cs q3 256 (fun _ => 0), zcell cs q4 256, lcell cs q5 513 (fun _ => 0), lcell cs q6 513 (fun _ => 0), zcell cs q7 513, lcell cs q8 513 (fun _ => 0), lcell cs q9 513 (fun _ => 0)]) := by
  refine Ctr.ofW (by decide +kernel) (by intro v hv; simp at hv; rcases hv with rfl <;> rfl) (Nat.le_of_ble_eq_true rfl) ?_
  intro p e s m below meth c ls C hr hlocks hname hl hN hw
  obtain ⟨hx, hb, hml, hown, hts⟩ := id C
  refine lv_aload_n hx hb dX1_init_0 rfl (hl.at rfl) ?_
  refine w_obj C hl rfl mw25 dX1_init_1 (Nat.le_of_ble_eq_true rfl) (Nat.le_of_ble_eq_true rfl) ?_
  refine lv_aload_n hx hb dX1_init_4 rfl (hl.at rfl) ?_
  refine lv_sipush (v := 256) hx hb dX1_init_5 (by decide) ?_
  refine w_newiL C hw (N := 256) (by decide) (by decide) (by decide) (Nat.le_of_ble_eq_true rfl) (Nat.le_of_ble_eq_true rfl) dX1_init_8 (fun q1 H hw => ?_)
  refine w_putL C hw (k0 := 0) rfl inA1 tyX1_ok nmX1 4 (by decide) mw27 rfl rfl rfl dX1_init_10 rfl rfl rfl (Nat.le_of_ble_eq_true rfl) (fun H locs hw => ?_)
  refine lv_aload_n hx hb dX1_init_13 rfl (hl.at rfl) ?_
  refine lv_sipush (v := 256) hx hb dX1_init_14 (by decide) ?_
  refine w_newiL C hw (N := 256) (by decide) (by decide) (by decide) (Nat.le_of_ble_eq_true rfl) (Nat.le_of_ble_eq_true rfl) dX1_init_17 (fun q2 H hw => ?_)
  refine w_putL C hw (k0 := 0) rfl inA1 tyX1_ok nmX1 5 (by decide) mw28 rfl rfl rfl dX1_init_19 rfl rfl rfl (Nat.le_of_ble_eq_true rfl) (fun H locs hw => ?_)
  refine lv_aload_n hx hb dX1_init_22 rfl (hl.at rfl) ?_
  refine lv_sipush (v := 256) hx hb dX1_init_23 (by decide) ?_
  refine w_newiL C hw (N := 256) (by decide) (by decide) (by decide) (Nat.le_of_ble_eq_true rfl) (Nat.le_of_ble_eq_true rfl) dX1_init_26 (fun q3 H hw => ?_)
  refine w_putLF C hw hname (k0 := 0) rfl inA1 tyX1_ok nmX1 6 (by decide) mw29 rfl rfl rfl rfl dX1_init_28 rfl rfl rfl (Nat.le_of_ble_eq_true rfl) (fun H locs hw => ?_)
  refine lv_aload_n hx hb dX1_init_31 rfl (hl.at rfl) ?_
  refine lv_sipush (v := 256) hx hb dX1_init_32 (by decide) ?_
  refine w_newzL C hw (N := 256) (by decide) (by decide) (by decide) (Nat.le_of_ble_eq_true rfl) (Nat.le_of_ble_eq_true rfl) dX1_init_35 (fun q4 H hw => ?_)
  refine w_putLF C hw hname (k0 := 0) rfl inA1 tyX1_ok nmX1 7 (by decide) mw31 rfl rfl rfl rfl dX1_init_37 rfl rfl rfl (Nat.le_of_ble_eq_true rfl) (fun H locs hw => ?_)
  refine lv_aload_n hx hb dX1_init_40 rfl (hl.at rfl) ?_
  refine lv_sipush (v := 513) hx hb dX1_init_41 (by decide) ?_
  refine w_newiL C hw (N := 513) (by decide) (by decide) (by decide) (Nat.le_of_ble_eq_true rfl) (Nat.le_of_ble_eq_true rfl) dX1_init_44 (fun q5 H hw => ?_)
  refine w_putLF C hw hname (k0 := 0) rfl inA1 tyX1_ok nmX1 8 (by decide) mw32 rfl rfl rfl rfl dX1_init_46 rfl rfl rfl (Nat.le_of_ble_eq_true rfl) (fun H locs hw => ?_)
  refine lv_aload_n hx hb dX1_init_49 rfl (hl.at rfl) ?_
  refine lv_sipush (v := 513) hx hb dX1_init_50 (by decide) ?_
  refine w_newiL C hw (N := 513) (by decide) (by decide) (by decide) (Nat.le_of_ble_eq_true rfl) (Nat.le_of_ble_eq_true rfl) dX1_init_53 (fun q6 H hw => ?_)
  refine w_putLF C hw hname (k0 := 0) rfl inA1 tyX1_ok nmX1 9 (by decide) mw33 rfl rfl rfl rfl dX1_init_55 rfl rfl rfl (Nat.le_of_ble_eq_true rfl) (fun H locs hw => ?_)
  refine lv_aload_n hx hb dX1_init_58 rfl (hl.at rfl) ?_
  refine lv_sipush (v := 513) hx hb dX1_init_59 (by decide) ?_
  refine w_newzL C hw (N := 513) (by decide) (by decide) (by decide) (Nat.le_of_ble_eq_true rfl) (Nat.le_of_ble_eq_true rfl) dX1_init_62 (fun q7 H hw => ?_)
  refine w_putLF C hw hname (k0 := 0) rfl inA1 tyX1_ok nmX1 10 (by decide) mw34 rfl rfl rfl rfl dX1_init_64 rfl rfl rfl (Nat.le_of_ble_eq_true rfl) (fun H locs hw => ?_)
  refine lv_aload_n hx hb dX1_init_67 rfl (hl.at rfl) ?_
  refine lv_sipush (v := 513) hx hb dX1_init_68 (by decide) ?_
  refine w_newiL C hw (N := 513) (by decide) (by decide) (by decide) (Nat.le_of_ble_eq_true rfl) (Nat.le_of_ble_eq_true rfl) dX1_init_71 (fun q8 H hw => ?_)
  refine w_putLF C hw hname (k0 := 0) rfl inA1 tyX1_ok nmX1 11 (by decide) mw35 rfl rfl rfl rfl dX1_init_73 rfl rfl rfl (Nat.le_of_ble_eq_true rfl) (fun H locs hw => ?_)
  refine lv_aload_n hx hb dX1_init_76 rfl (hl.at rfl) ?_
  refine lv_sipush (v := 513) hx hb dX1_init_77 (by decide) ?_
  refine w_newiL C hw (N := 513) (by decide) (by decide) (by decide) (Nat.le_of_ble_eq_true rfl) (Nat.le_of_ble_eq_true rfl) dX1_init_80 (fun q9 H hw => ?_)
  refine w_putLF C hw hname (k0 := 0) rfl inA1 tyX1_ok nmX1 12 (by decide) mw36 rfl rfl rfl rfl dX1_init_82 rfl rfl rfl (Nat.le_of_ble_eq_true rfl) (fun H locs hw => ?_)
  exact w_vret C hw hr hlocks dX1_init_85 ⟨rfl, rfl, rfl, rfl, rfl, q1, q2, q3, q4, q5, q6, q7, q8, q9, rfl⟩

set_option maxHeartbeats 4000000 in
set_option maxRecDepth 100000 in
theorem c_X4_init (l : Launch) (sz0 : Nat) (D : va_G) (cs : Nat → ClassId) (X : Sh) (Z : ZT) (Y : va_W) (a : Nat) : Ctr l yX4_init (wsM yX4_init cX4_init 1 none) ({ frames := 1, cells := 8, slots := 6713, locals := 20 } : Room) sz0 D cs [.ref a] X Z (Y ++ [(a, .inr (4, [.int 0, .int 0, .null, .null, .null, .null, .null, .null, .null, .null, .int 0, .int 0, .int 0, .int 0, .int 0, .int 0, .int 0, .int 0, .int 0]))]) (fun X' Z' Y' v k n => X = X' ∧ Z = Z' ∧ v = none ∧ k = 8 ∧ n = 6713 ∧ ∃ q1 q2 q3 q4 q5 q6 q7 q8, Y' = Y ++ [(a, .inr (4, [.int 0, .int 0, .ref q1, .ref q2, .ref q3, .ref q4, .ref q5, .ref q6, .ref q7, .ref q8, .int 0, .int 0, .int 0, .int 0, .int 0, .int 0, .int 0, .int 0, .int 0])), lcell cs q1 4096 (fun _ => 0), lcell cs q2 1024 (fun _ => 0), lcell cs q3 8 (fun _ => 0), lcell cs q4 9 (fun _ => 0), lcell cs q5 256 (fun _ => 0), lcell cs q6 256 (fun _ => 0), lcell cs q7 64 (fun _ => 0), lcell cs q8 1000 (fun _ => 0)]) := by
  refine Ctr.ofW (by decide +kernel) (by intro v hv; simp at hv; rcases hv with rfl <;> rfl) (Nat.le_of_ble_eq_true rfl) ?_
  intro p e s m below meth c ls C hr hlocks hname hl hN hw
  obtain ⟨hx, hb, hml, hown, hts⟩ := id C
  refine lv_aload_n hx hb dX4_init_0 rfl (hl.at rfl) ?_
  refine w_obj C hl rfl mw74 dX4_init_1 (Nat.le_of_ble_eq_true rfl) (Nat.le_of_ble_eq_true rfl) ?_
  refine lv_aload_n hx hb dX4_init_4 rfl (hl.at rfl) ?_
  refine lv_sipush (v := 4096) hx hb dX4_init_5 (by decide) ?_
  refine w_newiL C hw (N := 4096) (by decide) (by decide) (by decide) (Nat.le_of_ble_eq_true rfl) (Nat.le_of_ble_eq_true rfl) dX4_init_8 (fun q1 H hw => ?_)
  refine w_putLF C hw hname (k0 := 0) rfl inA4 tyX4_ok nmX4 2 (by decide) mw75 rfl rfl rfl rfl dX4_init_10 rfl rfl rfl (Nat.le_of_ble_eq_true rfl) (fun H locs hw => ?_)
  refine lv_aload_n hx hb dX4_init_13 rfl (hl.at rfl) ?_
  refine lv_sipush (v := 1024) hx hb dX4_init_14 (by decide) ?_
  refine w_newiL C hw (N := 1024) (by decide) (by decide) (by decide) (Nat.le_of_ble_eq_true rfl) (Nat.le_of_ble_eq_true rfl) dX4_init_17 (fun q2 H hw => ?_)
  refine w_putLF C hw hname (k0 := 0) rfl inA4 tyX4_ok nmX4 3 (by decide) mw76 rfl rfl rfl rfl dX4_init_19 rfl rfl rfl (Nat.le_of_ble_eq_true rfl) (fun H locs hw => ?_)
  refine lv_aload_n hx hb dX4_init_22 rfl (hl.at rfl) ?_
  refine lv_bipush (v := 8) hx hb dX4_init_23 (by decide) ?_
  refine w_newiL C hw (N := 8) (by decide) (by decide) (by decide) (Nat.le_of_ble_eq_true rfl) (Nat.le_of_ble_eq_true rfl) dX4_init_25 (fun q3 H hw => ?_)
  refine w_putLF C hw hname (k0 := 0) rfl inA4 tyX4_ok nmX4 4 (by decide) mw77 rfl rfl rfl rfl dX4_init_27 rfl rfl rfl (Nat.le_of_ble_eq_true rfl) (fun H locs hw => ?_)
  refine lv_aload_n hx hb dX4_init_30 rfl (hl.at rfl) ?_
  refine lv_bipush (v := 9) hx hb dX4_init_31 (by decide) ?_
  refine w_newiL C hw (N := 9) (by decide) (by decide) (by decide) (Nat.le_of_ble_eq_true rfl) (Nat.le_of_ble_eq_true rfl) dX4_init_33 (fun q4 H hw => ?_)
  refine w_putLF C hw hname (k0 := 0) rfl inA4 tyX4_ok nmX4 5 (by decide) mw78 rfl rfl rfl rfl dX4_init_35 rfl rfl rfl (Nat.le_of_ble_eq_true rfl) (fun H locs hw => ?_)
  refine lv_aload_n hx hb dX4_init_38 rfl (hl.at rfl) ?_
  refine lv_sipush (v := 256) hx hb dX4_init_39 (by decide) ?_
  refine w_newiL C hw (N := 256) (by decide) (by decide) (by decide) (Nat.le_of_ble_eq_true rfl) (Nat.le_of_ble_eq_true rfl) dX4_init_42 (fun q5 H hw => ?_)
  refine w_putLF C hw hname (k0 := 0) rfl inA4 tyX4_ok nmX4 6 (by decide) mw79 rfl rfl rfl rfl dX4_init_44 rfl rfl rfl (Nat.le_of_ble_eq_true rfl) (fun H locs hw => ?_)
  refine lv_aload_n hx hb dX4_init_47 rfl (hl.at rfl) ?_
  refine lv_sipush (v := 256) hx hb dX4_init_48 (by decide) ?_
  refine w_newiL C hw (N := 256) (by decide) (by decide) (by decide) (Nat.le_of_ble_eq_true rfl) (Nat.le_of_ble_eq_true rfl) dX4_init_51 (fun q6 H hw => ?_)
  refine w_putLF C hw hname (k0 := 0) rfl inA4 tyX4_ok nmX4 7 (by decide) mw80 rfl rfl rfl rfl dX4_init_53 rfl rfl rfl (Nat.le_of_ble_eq_true rfl) (fun H locs hw => ?_)
  refine lv_aload_n hx hb dX4_init_56 rfl (hl.at rfl) ?_
  refine lv_bipush (v := 64) hx hb dX4_init_57 (by decide) ?_
  refine w_newiL C hw (N := 64) (by decide) (by decide) (by decide) (Nat.le_of_ble_eq_true rfl) (Nat.le_of_ble_eq_true rfl) dX4_init_59 (fun q7 H hw => ?_)
  refine w_putLF C hw hname (k0 := 0) rfl inA4 tyX4_ok nmX4 8 (by decide) mw81 rfl rfl rfl rfl dX4_init_61 rfl rfl rfl (Nat.le_of_ble_eq_true rfl) (fun H locs hw => ?_)
  refine lv_aload_n hx hb dX4_init_64 rfl (hl.at rfl) ?_
  refine lv_sipush (v := 1000) hx hb dX4_init_65 (by decide) ?_
  refine w_newiL C hw (N := 1000) (by decide) (by decide) (by decide) (Nat.le_of_ble_eq_true rfl) (Nat.le_of_ble_eq_true rfl) dX4_init_68 (fun q8 H hw => ?_)
  refine w_putLF C hw hname (k0 := 0) rfl inA4 tyX4_ok nmX4 9 (by decide) mw82 rfl rfl rfl rfl dX4_init_70 rfl rfl rfl (Nat.le_of_ble_eq_true rfl) (fun H locs hw => ?_)
  exact w_vret C hw hr hlocks dX4_init_73 ⟨rfl, rfl, rfl, rfl, rfl, q1, q2, q3, q4, q5, q6, q7, q8, rfl⟩

set_option maxHeartbeats 4000000 in
set_option maxRecDepth 100000 in
theorem c_X2_init (l : Launch) (sz0 : Nat) (D : va_G) (cs : Nat → ClassId) (X : Sh) (Z : ZT) (Y : va_W) (a b : Nat) : Ctr l yX2_init (wsM yX2_init cX2_init 2 none) ({ frames := 1, cells := 0, slots := 0, locals := 20 } : Room) sz0 D cs [.ref a, .ref b] X Z (Y ++ [(a, .inr (2, [.null, .int 0, .int 0, .int 0, .int 0]))]) (fun X' Z' Y' v k n => X = X' ∧ Z = Z' ∧ v = none ∧ k = 0 ∧ n = 0 ∧ Y' = Y ++ [(a, .inr (2, [.ref b, .int 0, .int 0, .int 0, .int 0]))]) := by
  refine Ctr.ofW (by decide +kernel) (by intro v hv; simp at hv; rcases hv with rfl | rfl <;> rfl) (Nat.le_of_ble_eq_true rfl) ?_
  intro p e s m below meth c ls C hr hlocks hname hl hN hw
  obtain ⟨hx, hb, hml, hown, hts⟩ := id C
  refine lv_aload_n hx hb dX2_init_0 rfl (hl.at rfl) ?_
  refine w_obj C hl rfl mw40 dX2_init_1 (Nat.le_of_ble_eq_true rfl) (Nat.le_of_ble_eq_true rfl) ?_
  refine lv_aload_n hx hb dX2_init_4 rfl (hl.at rfl) ?_
  refine lv_aload_n hx hb dX2_init_5 rfl (hl.at rfl) ?_
  refine w_putLF C hw hname (k0 := 0) rfl inA2 tyX2_ok nmX2 0 (by decide) mw41 rfl rfl rfl rfl dX2_init_6 rfl rfl rfl (Nat.le_of_ble_eq_true rfl) (fun H locs hw => ?_)
  exact w_vret C hw hr hlocks dX2_init_9 ⟨rfl, rfl, rfl, rfl, rfl, rfl⟩
