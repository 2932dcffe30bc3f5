/-! ===== GuestHouse: its constructor ===== -/
theorem at_q {D : va_G} {cl : List vw_C} {q n : Nat} {cA : ClassId} {f g : Nat → Option Nat} {H : Heap} (h : va_at D cl (q, .inl (cA, n, .inr (.inr (.inr (.inr f))))) H) (e : ∀ j, j < n → f j = g j) : va_at D cl (q, .inl (cA, n, .inr (.inr (.inr (.inr g))))) H := by
  have h : H[q]? = some (arrV cA n (fun j => va_rf (f j))) := h
  show H[q]? = some (arrV cA n (fun j => va_rf (g j)))
  rw [h]
  unfold arrV
  rw [show (fun j : Fin n => va_rf (f j.val)) = (fun j : Fin n => va_rf (g j.val)) from funext fun j => by rw [e j.val j.isLt]]
def iX (A : Nat → Nat) : Sh := (fun c _ => A c, fun k => if k = 13 then A 3 else if k = 14 then A 4 else 256, fun _ => false, [(0, 0), (2, 0), (3, 0), (4, 0), (5, 0), (6, 0), (7, 0), (8, 0), (9, 0), (10, 0), (11, 0), (12, 0), (1, 0)])

theorem iX_wl {cs : Nat → ClassId} {A : Nat → Nat} : Wl cs (iX A) (fun _ _ _ => 0) = [(A 0, .inr (3, [.ref (A 2), .ref (A 12), .ref (A 1), .int 0, .int 0, .int 0, .int 0])), (A 2, .inr (1, [.int 0, .int 0, .int 0, .int 0, .ref (A 3), .ref (A 4), .ref (A 5), .ref (A 6), .ref (A 7), .ref (A 8), .ref (A 9), .ref (A 10), .ref (A 11)])), lcell cs (A 3) 256 (fun _ => 0), lcell cs (A 4) 256 (fun _ => 0), lcell cs (A 5) 256 (fun _ => 0), zcell cs (A 6) 256, lcell cs (A 7) 513 (fun _ => 0), lcell cs (A 8) 513 (fun _ => 0), zcell cs (A 9) 513, lcell cs (A 10) 513 (fun _ => 0), lcell cs (A 11) 513 (fun _ => 0), (A 12, .inr (2, [.ref (A 2), .int 0, .int 0, .int 0, .int 0])), (A 1, .inl (cs 2, 8, .inr (.inr (.inr (.inr (fun _ => none))))))] := by
  simp [Wl, iX, adr, Ec]
theorem iX_CRx {A : Nat → Nat} : CRx (iX A) := by
  refine ⟨fun c hc => ?_, ⟨fun c i hc q => ?_, fun c i q1 q2 q => ?_⟩, fun i _ q => ?_⟩
  · have : c = 0 ∨ c = 1 ∨ c = 2 ∨ c = 3 ∨ c = 4 ∨ c = 5 ∨ c = 6 ∨ c = 7 ∨ c = 8 ∨ c = 9 ∨ c = 10 ∨ c = 11 ∨ c = 12 := by omega
    rcases this with rfl | rfl | rfl | rfl | rfl | rfl | rfl | rfl | rfl | rfl | rfl | rfl | rfl <;> simp [iX]
  · simp [iX] at q
    omega
  · simp [iX] at q
    omega
  · exact absurd q (by show ¬ false = true; decide)

set_option maxHeartbeats 4000000 in
set_option maxRecDepth 100000 in
theorem c_X3_init (l : Launch) (sz0 : Nat) (D : va_G) (cs : Nat → ClassId) (X : Sh) (Z : ZT) (Y : va_W) (hX0 : X.2.2.2 = []) (a : Nat) (gm : Nat → GS) (nu : Nat → Int32) (hnu : 10 = nu 0 ∧ 7 = nu 1 ∧ 0 = nu 2 ∧ 0 = nu 3) : Ctr l yX3_init (wsM yX3_init cX3_init 1 none) ({ frames := 3, cells := 12, slots := 3615, locals := 68 } : Room) sz0 D cs [.ref a] X Z [(a, .inr (3, [.null, .null, .null, .int 0, .int 0, .int 0, .int 0]))] (fun X' Z' Y' v k n => Y' = [] ∧ v = none ∧ k = 12 ∧ n = 3615 ∧ X'.1 0 0 = a ∧ CRx X' ∧ CR X' Z' (fun _ => 0, gm, nu) 8 14 ∧ unm X' = 8 ∧ (∀ r, r ∈ X'.2.2.2 → r.1 < 30) ∧ (∀ j, X'.2.2.1 j = false)) := by
  refine Ctr.ofW (by decide +kernel) (by intro v hv; simp at hv; rcases hv with rfl <;> rfl) (Nat.le_of_ble_eq_true rfl) ?_
  intro p e s m below meth c ls C hr hlocks hname hl hN hw
  obtain ⟨hx, hb, hml, hown, hts⟩ := id C
  refine lv_aload_n hx hb dX3_init_0 rfl (hl.at rfl) ?_
  refine w_obj C hl rfl mw10 dX3_init_1 (Nat.le_of_ble_eq_true rfl) (Nat.le_of_ble_eq_true rfl) ?_
  refine lv_aload_n hx hb dX3_init_4 rfl (hl.at rfl) ?_
  refine w_newL C (Y0 := []) (L := [(a, .inr (3, [.null, .null, .null, .int 0, .int 0, .int 0, .int 0]))]) hw (ci := 1) (fs := [.int 0, .int 0, .int 0, .int 0, .null, .null, .null, .null, .null, .null, .null, .null, .null]) rfl inA1 tyX1_ok mw13 mw14 mw15 hfs1 (Nat.le_of_ble_eq_true rfl) (Nat.le_of_ble_eq_true rfl) dX3_init_5 (fun qh H hw => ?_)
  refine lv_dup hx hb dX3_init_8 rfl ?_
  refine w_callIN C hN hw (c_X1_init l sz0 D cs X _ [(a, .inr (3, [.null, .null, .null, .int 0, .int 0, .int 0, .int 0]))] qh) ⟨(Nat.le_of_ble_eq_true rfl), (Nat.le_of_ble_eq_true rfl), mw24, mw15, cy_X1_init⟩ mw636 mw23 rfl rfl hl.1.1 rfl (Nat.le_of_ble_eq_true rfl) dX3_init_9 ⟨Nat.le_of_ble_eq_true rfl, Nat.le_of_ble_eq_true rfl⟩ (fun X' Z' Y' v k n H locs hp hw => ?_)
  obtain ⟨rfl, rfl, rfl, rfl, rfl, q1, q2, q3, q4, q5, q6, q7, q8, q9, rfl⟩ := hp
  have hw : Wd sz0 D cs s X Z ([] ++ [(a, .inr (3, [.null, .null, .null, .int 0, .int 0, .int 0, .int 0])), (qh, .inr (1, [.int 0, .int 0, .int 0, .int 0, .ref q1, .ref q2, .ref q3, .ref q4, .ref q5, .ref q6, .ref q7, .ref q8, .ref q9])), lcell cs q1 256 (fun _ => 0), lcell cs q2 256 (fun _ => 0), lcell cs q3 256 (fun _ => 0), zcell cs q4 256, lcell cs q5 513 (fun _ => 0), lcell cs q6 513 (fun _ => 0), zcell cs q7 513, lcell cs q8 513 (fun _ => 0), lcell cs q9 513 (fun _ => 0)]) H locs := hw
  refine w_putLF C hw hname (k0 := 0) rfl inA3 tyX3_ok nmX3 0 (by decide) mw16 rfl rfl rfl rfl dX3_init_12 rfl rfl rfl (Nat.le_of_ble_eq_true rfl) (fun H locs hw => ?_)
  have hw : Wd sz0 D cs s X Z ([] ++ [(a, .inr (3, [.ref qh, .null, .null, .int 0, .int 0, .int 0, .int 0])), (qh, .inr (1, [.int 0, .int 0, .int 0, .int 0, .ref q1, .ref q2, .ref q3, .ref q4, .ref q5, .ref q6, .ref q7, .ref q8, .ref q9])), lcell cs q1 256 (fun _ => 0), lcell cs q2 256 (fun _ => 0), lcell cs q3 256 (fun _ => 0), zcell cs q4 256, lcell cs q5 513 (fun _ => 0), lcell cs q6 513 (fun _ => 0), zcell cs q7 513, lcell cs q8 513 (fun _ => 0), lcell cs q9 513 (fun _ => 0)]) H locs := hw
  refine lv_aload_n hx hb dX3_init_15 rfl (hl.at rfl) ?_
  refine w_newL C (Y0 := []) (L := [(a, .inr (3, [.ref qh, .null, .null, .int 0, .int 0, .int 0, .int 0])), (qh, .inr (1, [.int 0, .int 0, .int 0, .int 0, .ref q1, .ref q2, .ref q3, .ref q4, .ref q5, .ref q6, .ref q7, .ref q8, .ref q9])), lcell cs q1 256 (fun _ => 0), lcell cs q2 256 (fun _ => 0), lcell cs q3 256 (fun _ => 0), zcell cs q4 256, lcell cs q5 513 (fun _ => 0), lcell cs q6 513 (fun _ => 0), zcell cs q7 513, lcell cs q8 513 (fun _ => 0), lcell cs q9 513 (fun _ => 0)]) hw (ci := 2) (fs := [.null, .int 0, .int 0, .int 0, .int 0]) rfl inA2 tyX2_ok mw17 mw18 mw19 hfs2 (Nat.le_of_ble_eq_true rfl) (Nat.le_of_ble_eq_true rfl) dX3_init_16 (fun qp H hw => ?_)
  refine lv_dup hx hb dX3_init_19 rfl ?_
  refine lv_aload_n hx hb dX3_init_20 rfl (hl.at rfl) ?_
  refine w_getL C hw (k0 := 0) rfl inA3 0 (by decide) mw16 rfl dX3_init_21 rfl rfl ?_
  refine w_callI C hN hw (c_X2_init l sz0 D cs X _ [(a, .inr (3, [.ref qh, .null, .null, .int 0, .int 0, .int 0, .int 0])), (qh, .inr (1, [.int 0, .int 0, .int 0, .int 0, .ref q1, .ref q2, .ref q3, .ref q4, .ref q5, .ref q6, .ref q7, .ref q8, .ref q9])), lcell cs q1 256 (fun _ => 0), lcell cs q2 256 (fun _ => 0), lcell cs q3 256 (fun _ => 0), zcell cs q4 256, lcell cs q5 513 (fun _ => 0), lcell cs q6 513 (fun _ => 0), zcell cs q7 513, lcell cs q8 513 (fun _ => 0), lcell cs q9 513 (fun _ => 0)] qp qh) ⟨(Nat.le_of_ble_eq_true rfl), (Nat.le_of_ble_eq_true rfl), mw39, mw19, cy_X2_init⟩ mw37 mw38 rfl rfl hl.1.1 rfl (Nat.le_of_ble_eq_true rfl) dX3_init_24 ⟨Nat.le_of_ble_eq_true rfl, Nat.le_of_ble_eq_true rfl⟩ (fun X' Z' Y' v k n H locs hp hw => ?_)
  obtain ⟨rfl, rfl, rfl, rfl, rfl, rfl⟩ := hp
  have hw : Wd sz0 D cs s X Z ([] ++ [(a, .inr (3, [.ref qh, .null, .null, .int 0, .int 0, .int 0, .int 0])), (qh, .inr (1, [.int 0, .int 0, .int 0, .int 0, .ref q1, .ref q2, .ref q3, .ref q4, .ref q5, .ref q6, .ref q7, .ref q8, .ref q9])), lcell cs q1 256 (fun _ => 0), lcell cs q2 256 (fun _ => 0), lcell cs q3 256 (fun _ => 0), zcell cs q4 256, lcell cs q5 513 (fun _ => 0), lcell cs q6 513 (fun _ => 0), zcell cs q7 513, lcell cs q8 513 (fun _ => 0), lcell cs q9 513 (fun _ => 0), (qp, .inr (2, [.ref qh, .int 0, .int 0, .int 0, .int 0]))]) H locs := hw
  refine w_putLF C hw hname (k0 := 0) rfl inA3 tyX3_ok nmX3 1 (by decide) mw20 rfl rfl rfl rfl dX3_init_27 rfl rfl rfl (Nat.le_of_ble_eq_true rfl) (fun H locs hw => ?_)
  have hw : Wd sz0 D cs s X Z ([] ++ [(a, .inr (3, [.ref qh, .ref qp, .null, .int 0, .int 0, .int 0, .int 0])), (qh, .inr (1, [.int 0, .int 0, .int 0, .int 0, .ref q1, .ref q2, .ref q3, .ref q4, .ref q5, .ref q6, .ref q7, .ref q8, .ref q9])), lcell cs q1 256 (fun _ => 0), lcell cs q2 256 (fun _ => 0), lcell cs q3 256 (fun _ => 0), zcell cs q4 256, lcell cs q5 513 (fun _ => 0), lcell cs q6 513 (fun _ => 0), zcell cs q7 513, lcell cs q8 513 (fun _ => 0), lcell cs q9 513 (fun _ => 0), (qp, .inr (2, [.ref qh, .int 0, .int 0, .int 0, .int 0]))]) H locs := hw
  refine lv_aload_n hx hb dX3_init_30 rfl (hl.at rfl) ?_
  refine lv_bipush (v := 8) hx hb dX3_init_31 (by decide) ?_
  refine w_newqL C hN (Y0 := []) (L := [(a, .inr (3, [.ref qh, .ref qp, .null, .int 0, .int 0, .int 0, .int 0])), (qh, .inr (1, [.int 0, .int 0, .int 0, .int 0, .ref q1, .ref q2, .ref q3, .ref q4, .ref q5, .ref q6, .ref q7, .ref q8, .ref q9])), lcell cs q1 256 (fun _ => 0), lcell cs q2 256 (fun _ => 0), lcell cs q3 256 (fun _ => 0), zcell cs q4 256, lcell cs q5 513 (fun _ => 0), lcell cs q6 513 (fun _ => 0), zcell cs q7 513, lcell cs q8 513 (fun _ => 0), lcell cs q9 513 (fun _ => 0), (qp, .inr (2, [.ref qh, .int 0, .int 0, .int 0, .int 0]))]) hw (t := 2) (N := 8) (Or.inl ⟨rfl, rfl⟩) mw21 (by decide) (by decide) (by decide) (Nat.le_of_ble_eq_true rfl) (Nat.le_of_ble_eq_true rfl) dX3_init_33 (fun qg H hw => ?_)
  have hw : Wd sz0 D cs s X Z ([] ++ [(a, .inr (3, [.ref qh, .ref qp, .null, .int 0, .int 0, .int 0, .int 0])), (qh, .inr (1, [.int 0, .int 0, .int 0, .int 0, .ref q1, .ref q2, .ref q3, .ref q4, .ref q5, .ref q6, .ref q7, .ref q8, .ref q9])), lcell cs q1 256 (fun _ => 0), lcell cs q2 256 (fun _ => 0), lcell cs q3 256 (fun _ => 0), zcell cs q4 256, lcell cs q5 513 (fun _ => 0), lcell cs q6 513 (fun _ => 0), zcell cs q7 513, lcell cs q8 513 (fun _ => 0), lcell cs q9 513 (fun _ => 0), (qp, .inr (2, [.ref qh, .int 0, .int 0, .int 0, .int 0])), (qg, .inl (cs 2, 8, .inr (.inr (.inr (.inr (fun _ => none))))))]) H locs := hw
  refine w_putLF C hw hname (k0 := 0) rfl inA3 tyX3_ok nmX3 2 (by decide) mw22 rfl rfl rfl rfl dX3_init_36 rfl rfl rfl (Nat.le_of_ble_eq_true rfl) (fun H locs hw => ?_)
  have hw : Wd sz0 D cs s X Z ([] ++ [(a, .inr (3, [.ref qh, .ref qp, .ref qg, .int 0, .int 0, .int 0, .int 0])), (qh, .inr (1, [.int 0, .int 0, .int 0, .int 0, .ref q1, .ref q2, .ref q3, .ref q4, .ref q5, .ref q6, .ref q7, .ref q8, .ref q9])), lcell cs q1 256 (fun _ => 0), lcell cs q2 256 (fun _ => 0), lcell cs q3 256 (fun _ => 0), zcell cs q4 256, lcell cs q5 513 (fun _ => 0), lcell cs q6 513 (fun _ => 0), zcell cs q7 513, lcell cs q8 513 (fun _ => 0), lcell cs q9 513 (fun _ => 0), (qp, .inr (2, [.ref qh, .int 0, .int 0, .int 0, .int 0])), (qg, .inl (cs 2, 8, .inr (.inr (.inr (.inr (fun _ => none))))))]) H locs := hw
  have hw : Wd sz0 D cs s (iX (fun k => [a, qg, qh, q1, q2, q3, q4, q5, q6, q7, q8, q9, qp].getD k 0)) (fun _ _ _ => 0) [] H locs := by
    have e0 : Wl cs X Z = [] := by unfold Wl; rw [hX0]; rfl
    obtain ⟨w1, w2, w3, w4⟩ := hw
    rw [e0] at w2 w3
    refine ⟨w1, ?_, ?_, w4⟩
    · rw [iX_wl]; exact w2
    · rw [iX_wl]; exact w3
  have hCX : CRx (iX (fun k => [a, qg, qh, q1, q2, q3, q4, q5, q6, q7, q8, q9, qp].getD k 0)) := iX_CRx
  have hX := hCX.1
  have hl : lo ls [some (.ref ((iX (fun k => [a, qg, qh, q1, q2, q3, q4, q5, q6, q7, q8, q9, qp].getD k 0)).1 0 0))] := hl
  refine lv_aload_n hx hb dX3_init_39 rfl (hl.at rfl) ?_
  refine lv_bipush (v := 8) hx hb dX3_init_40 (by decide) ?_
  refine lv_bipush (v := 10) hx hb dX3_init_42 (by decide) ?_
  refine w_callV C hN hw (c_X3_settle l sz0 D cs (iX (fun k => [a, qg, qh, q1, q2, q3, q4, q5, q6, q7, q8, q9, qp].getD k 0)) _ [] hCX 14 8 10 nu gm ⟨6, 8, by decide, ⟨by show 256 ≤ 256; decide, by show 256 < 32768; decide, by show 16384 ≤ 256 * 2 ^ 6; decide⟩, ⟨by show 256 ≤ 256; decide, by show 256 ≤ 32832; decide, by show 32832 ≤ 256 * 2 ^ 8; decide⟩, fun _ _ => rfl⟩ (by decide) hnu) ⟨(Nat.le_of_ble_eq_true rfl), (Nat.le_of_ble_eq_true rfl), mw45, mw3, cy_X3_settle⟩ mw42 mw43 mw44 (w_rec hw (c0 := 0) (i0 := 0) (hX 0 (by decide)) rfl rfl) rfl hl.1.1 rfl (Nat.le_of_ble_eq_true rfl) dX3_init_44 ⟨Nat.le_of_ble_eq_true rfl, Nat.le_of_ble_eq_true rfl⟩ (fun X' Z' Y' v k n H locs hp hw => ?_)
  obtain ⟨rfl, rfl, rfl, rfl, rfl, hC1, h30⟩ := hp
  exact w_vret C hw hr hlocks dX3_init_47 ⟨rfl, rfl, rfl, rfl, rfl, hCX, hC1, rfl, fun r q => by simp [iX] at q; rcases q with rfl | rfl | rfl | rfl | rfl | rfl | rfl | rfl | rfl | rfl | rfl | rfl | rfl <;> decide, fun _ => rfl⟩
