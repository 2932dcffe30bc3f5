/-- what taking sheet sh leaves -/
def TS (X : Sh) (Z : ZT) (sh fc g4 : Nat) (X' : Sh) (Z' : ZT) (k n : Nat) : Prop :=
  ∃ (V : Nat → Nat) (g4' : Nat), X' = (X.1, V, X.2.2) ∧ V 3 = X.2.1 3 ∧ V 13 = X.2.1 13 ∧ 64 * (sh + 1) ≤ V 4 ∧ X.2.1 4 ≤ V 4 ∧ V 4 ≤ 32832 ∧ 32832 ≤ V 4 * 2 ^ g4' ∧ k + g4' ≤ g4 ∧ n ≤ 32832 * k ∧
    Z' 2 0 = upd (Z 2 0) 3 (nI fc) ∧ (∀ j, j < X.2.1 4 → Z' 4 0 j = Z 4 0 j) ∧ (∀ c i, ¬ ((c = 2 ∨ c = 4) ∧ i = 0) → Z' c i = Z c i)

set_option maxHeartbeats 4000000 in
set_option maxRecDepth 100000 in
theorem c_X1_takeSheet (l : Launch) (sz0 : Nat) (D : va_G) (cs : Nat → ClassId) (X : Sh) (Z : ZT) (Y : va_W) (hX : HXI X) (hU : HUI X) (sh fc g4 kc ks : Nat) (hfc : fc ≤ 512) (h23 : Z 2 0 3 = nI (fc + 1)) (h10 : Z 10 0 fc = nI sh) (hsh : sh < 513) (hla : 256 ≤ X.2.1 4 ∧ X.2.1 4 ≤ 32832 ∧ 32832 ≤ X.2.1 4 * 2 ^ g4) (hkc : g4 ≤ kc) (hks : 32832 * g4 ≤ ks) : Ctr l yX1_takeSheet (wsM yX1_takeSheet cX1_takeSheet 3 (some .int)) ({ frames := 2, cells := kc, slots := ks, locals := 48 } : Room) sz0 D cs [.ref (X.1 2 0)] X Z Y (fun X' Z' Y' v k n => Y = Y' ∧ v = some (.int (nI sh)) ∧ TS X Z sh fc g4 X' Z' k n) := by
  refine Ctr.ofW (by decide +kernel) (by intro v hv; simp at hv; rcases hv with rfl <;> rfl) (Nat.le_of_ble_eq_true rfl) ?_
  intro p e s m below meth c ls C hr hlocks hname hl hN hw
  obtain ⟨hx, hb, hml, hown, hts⟩ := id C
  obtain ⟨l1, l2, l3⟩ := hla
  refine lv_aload_n hx hb dX1_takeSheet_0 rfl (hl.at rfl) ?_
  refine w_get C hw (c0 := 2) (i0 := 0) rfl inA1 3 (by decide) mw57 rfl dX1_takeSheet_1 (hX 2 (by decide)) rfl rfl rfl ?_
  refine lv_topi (fun y ey => ?_)
  obtain rfl : y = nI (fc + 1) := ey.trans h23
  refine lv_if_gt (tgt := 9) hx hb dX1_takeSheet_4 (by decide) (fun h4 => ?_) (fun h4 => ?_)
  · refine lv_aload_n hx hb dX1_takeSheet_9 rfl (hl.at rfl) ?_
    refine lv_dup hx hb dX1_takeSheet_10 rfl ?_
    refine w_get C hw (c0 := 2) (i0 := 0) rfl inA1 3 (by decide) mw57 rfl dX1_takeSheet_11 (hX 2 (by decide)) rfl rfl rfl ?_
    refine lv_topi (fun y ey => ?_)
    obtain rfl : y = nI (fc + 1) := ey.trans h23
    refine lv_iconst (v := 1) hx hb dX1_takeSheet_14 (by decide) ?_
    refine lv_isub hx hb dX1_takeSheet_15 ?_
    refine lv_topi (fun y ey => ?_)
    obtain rfl : y = nI fc := ey.trans (nI_pred fc)
    refine w_put C hw (c0 := 2) (i0 := 0) rfl inA1 tyX1_ok nmX1 3 (by decide) mw57 rfl rfl rfl dX1_takeSheet_16 (hX 2 (by decide)) rfl rfl rfl rfl (Nat.le_of_ble_eq_true rfl) rfl (fun H locs hw => ?_)
    refine lv_aload_n hx hb dX1_takeSheet_19 rfl (hl.at rfl) ?_
    refine w_get C hw (c0 := 2) (i0 := 0) rfl inA1 11 (by decide) mw35 rfl dX1_takeSheet_20 (hX 2 (by decide)) rfl rfl rfl ?_
    refine lv_aload_n hx hb dX1_takeSheet_23 rfl (hl.at rfl) ?_
    refine w_get C hw (c0 := 2) (i0 := 0) rfl inA1 3 (by decide) mw57 rfl dX1_takeSheet_24 (hX 2 (by decide)) rfl rfl rfl ?_
    refine lv_topi (fun y ey => ?_)
    obtain rfl : y = nI fc := ey.trans (by rw [upr_s, upd_s])
    refine w_ild C hw (c0 := 10) (i0 := 0) dX1_takeSheet_27 (hX 10 (by decide)) rfl rfl (vp_in_nI (show fc < 513 by omega) (by omega)) (nI_clamp (by omega)) ?_
    rw [upr_k (show (10 : Nat) ≠ 2 by decide), h10]
    refine w_istore_n hx hb dX1_takeSheet_28 rfl hl (Nat.le_of_ble_eq_true rfl) (fun ls hl => ?_)
    refine lv_aload_n hx hb dX1_takeSheet_29 rfl (hl.at rfl) ?_
    refine w_get C hw (c0 := 2) (i0 := 0) rfl inA1 5 (by decide) mw28 rfl dX1_takeSheet_30 (hX 2 (by decide)) rfl rfl rfl ?_
    refine w_len C hw (c0 := 4) (i0 := 0) (ty := 0) dX1_takeSheet_33 (hX 4 (by decide)) rfl rfl rfl rfl rfl ?_
    refine lv_iload_n hx hb dX1_takeSheet_34 rfl (hl.at rfl) ?_
    refine lv_iconst (v := 1) hx hb dX1_takeSheet_35 (by decide) ?_
    refine lv_iadd hx hb dX1_takeSheet_36 ?_
    refine lv_bipush (v := 64) hx hb dX1_takeSheet_37 (by decide) ?_
    refine lv_imul hx hb dX1_takeSheet_39 ?_
    have em : (nI sh + 1) * 64 = nI (64 * (sh + 1)) := (by rw [nI_1, show nI (sh + 1) * 64 = nI (sh + 1) * nI 64 from rfl, pk_mul, Nat.mul_comm])
    rw [em]
    refine lv_icmp_ge (tgt := 77) hx hb dX1_takeSheet_40 (by decide) (fun h40 => ?_) (fun h40 => ?_)
    · have hle := (nI_leI (show 64 * (sh + 1) < 2 ^ 31 by omega) (show X.2.1 4 < 2 ^ 31 by omega)).mp h40
      refine lv_iload_n hx hb dX1_takeSheet_77 rfl (hl.at rfl) ?_
      exact w_iret C hw hr hlocks dX1_takeSheet_78 ⟨rfl, rfl, X.2.1, g4, rfl, rfl, rfl, hle, Nat.le_refl _, l2, l3, by omega, by omega, by rw [upr_s], fun j _ => by rw [upr_k (by decide)], fun c i hc => upr_n (fun q => hc ⟨Or.inl q.1, q.2⟩)⟩
    · have hlt : X.2.1 4 < 64 * (sh + 1) := by
        rcases Nat.lt_or_ge (X.2.1 4) (64 * (sh + 1)) with q | q
        · exact q
        · exact absurd (nI_le q (by omega)) h40
      have hg4 : 1 ≤ g4 := by
        rcases g4 with _ | g
        · simp at l3; omega
        · omega
      refine lv_iconst (v := 2) hx hb dX1_takeSheet_43 (by decide) ?_
      refine lv_aload_n hx hb dX1_takeSheet_44 rfl (hl.at rfl) ?_
      refine w_get C hw (c0 := 2) (i0 := 0) rfl inA1 5 (by decide) mw28 rfl dX1_takeSheet_45 (hX 2 (by decide)) rfl rfl rfl ?_
      refine w_len C hw (c0 := 4) (i0 := 0) (ty := 0) dX1_takeSheet_48 (hX 4 (by decide)) rfl rfl rfl rfl rfl ?_
      refine lv_imul hx hb dX1_takeSheet_49 ?_
      refine lv_ldc (v := 32832) hx hb hown (hts _ mw229) dX1_takeSheet_50 ?_
      refine va_mmin hx hb (hml.trans hl.1.1.symm) hown (hts _ mw230) (hts _ mw217) (hts _ mw218) (hts _ mw219) (Nat.le_of_ble_eq_true rfl) (Nat.le_of_ble_eq_true rfl) (by show 0 ≤ kc; omega) (by show 0 ≤ ks; omega) dX1_takeSheet_52 ?_
      obtain ⟨mi, hmi⟩ : ∃ mi, mi = min (2 * X.2.1 4) 32832 := ⟨_, rfl⟩
      refine lv_topi (fun y ey => ?_)
      obtain rfl : y = nI mi := ey.trans (by
        have e2 : (2 : Int32) * Int32.ofNat (X.2.1 4, (Sum.inl (upr Z 2 0 (upd (Z 2 0) 3 (nI fc)) 4 0) : (Nat → Int32) ⊕ (Nat → Int64) ⊕ (Nat → UInt32) ⊕ (Nat → UInt64) ⊕ (Nat → Option Nat))).1 = nI (2 * X.2.1 4) := pk_mul 2 (X.2.1 4)
        rw [e2, hmi]
        by_cases q : 32832 < 2 * X.2.1 4
        · rw [if_pos (show (32832 : Int32) < nI (2 * X.2.1 4) from (show nI 32832 < nI (2 * X.2.1 4) from nI_lt q (by omega))), Nat.min_eq_right (by omega)]; rfl
        · rw [if_neg (show ¬ (32832 : Int32) < nI (2 * X.2.1 4) from (show ¬ nI 32832 < nI (2 * X.2.1 4) from nI_nlt (by omega) (by decide))), Nat.min_eq_left (by omega)])
      refine w_istore_n hx hb dX1_takeSheet_55 rfl hl (Nat.le_of_ble_eq_true rfl) (fun ls hl => ?_)
      refine lv_aload_n hx hb dX1_takeSheet_56 rfl (hl.at rfl) ?_
      refine lv_aload_n hx hb dX1_takeSheet_57 rfl (hl.at rfl) ?_
      refine w_get C hw (c0 := 2) (i0 := 0) rfl inA1 5 (by decide) mw28 rfl dX1_takeSheet_58 (hX 2 (by decide)) rfl rfl rfl ?_
      refine lv_iload_n hx hb dX1_takeSheet_61 rfl (hl.at rfl) ?_
      refine lv_iconst (v := 1) hx hb dX1_takeSheet_62 (by decide) ?_
      refine lv_iadd hx hb dX1_takeSheet_63 ?_
      refine lv_bipush (v := 64) hx hb dX1_takeSheet_64 (by decide) ?_
      refine lv_imul hx hb dX1_takeSheet_66 ?_
      refine lv_iload_n hx hb dX1_takeSheet_67 rfl (hl.at rfl) ?_
      rw [em]
      refine va_mmax hx hb (hml.trans hl.1.1.symm) hown (hts _ mw231) (hts _ mw232) (hts _ mw218) (hts _ mw233) (Nat.le_of_ble_eq_true rfl) (Nat.le_of_ble_eq_true rfl) (by show 0 ≤ kc; omega) (by show 0 ≤ ks; omega) dX1_takeSheet_68 ?_
      obtain ⟨ma, hma⟩ : ∃ ma, ma = max (64 * (sh + 1)) mi := ⟨_, rfl⟩
      refine lv_topi (fun y ey => ?_)
      obtain rfl : y = nI ma := ey.trans (by
        rw [hma]
        by_cases q : 64 * (sh + 1) < mi
        · rw [if_pos (nI_lt q (by omega)), Nat.max_eq_right (by omega)]
        · rw [if_neg (nI_nlt (by omega) (by omega)), Nat.max_eq_left (by omega)])
      refine w_callS C hN hw (c_copyOf l sz0 D cs X _ Y 4 0 (X.2.1 4) ma kc ks (hX 4 (by decide)) (fun _ => rfl) (by omega) (by omega) (by omega) (by omega)) ⟨(Nat.le_of_ble_eq_true rfl), (Nat.le_of_ble_eq_true rfl), mw209, mw60, cy_J7_copyOf_59c91⟩ mw207 mw208 rfl hl.1.1 rfl (Nat.le_of_ble_eq_true rfl) dX1_takeSheet_71 ⟨by show 0 + kc ≤ kc; omega, by show 0 + ks ≤ ks; omega⟩ (fun X' Z' Y' v k n H locs hp hw => ?_)
      obtain ⟨rfl, rfl, rfl, rfl, q, rfl, rfl⟩ := hp
      refine w_putM C hw (c0 := 4) (k0 := 5) (Or.inr rfl) rfl mw28 dX1_takeSheet_74 (hX 2 (by decide)) (fun i hi => hU 4 i (by decide) hi) (fun i hi => hU 2 i (by decide) hi) (fun H locs hw => ?_)
      refine lv_iload_n hx hb dX1_takeSheet_77 rfl (hl.at rfl) ?_
      refine w_iret C hw hr hlocks dX1_takeSheet_78 ⟨rfl, rfl, _, g4 - 1, rfl, by simp [va_up], by simp [va_up], ?_, ?_, ?_, ?_, by show 0 + 1 + (g4 - 1) ≤ g4; omega, by show 0 + ma ≤ 32832 * (0 + 1); omega, ?_, fun j hj => ?_, fun c i hc => ?_⟩
      · have e1 : (va_up (va_up X.2.1 (4 + 10) q) 4 ma) 4 = ma := by simp [va_up]
        rw [e1]; omega
      · have e1 : (va_up (va_up X.2.1 (4 + 10) q) 4 ma) 4 = ma := by simp [va_up]
        rw [e1]; omega
      · have e1 : (va_up (va_up X.2.1 (4 + 10) q) 4 ma) 4 = ma := by simp [va_up]
        rw [e1]; omega
      · have e1 : (va_up (va_up X.2.1 (4 + 10) q) 4 ma) 4 = ma := by simp [va_up]
        rw [e1]
        obtain ⟨g, rfl⟩ : ∃ g, g4 = g + 1 := ⟨g4 - 1, by omega⟩
        rw [Nat.add_sub_cancel]
        have hp : 1 ≤ 2 ^ g := Nat.one_le_two_pow
        rcases Nat.lt_or_ge ma 32832 with q2 | q2
        · have h2 : 2 * X.2.1 4 ≤ ma := by omega
          rw [Nat.pow_succ] at l3
          have h3 := Nat.mul_le_mul_right (2 ^ g) h2
          have h4 : 2 * X.2.1 4 * 2 ^ g = X.2.1 4 * (2 ^ g * 2) := by rw [Nat.mul_comm 2, Nat.mul_assoc, Nat.mul_comm 2]
          omega
        · exact Nat.le_trans q2 (Nat.le_mul_of_pos_right _ hp)
      · rw [upr_k (by decide), upr_s]
      · rw [upr_s, if_pos hj, upr_k (by decide)]
      · rw [upr_n (fun q => hc ⟨Or.inr q.1, q.2⟩), upr_n (fun q => hc ⟨Or.inl q.1, q.2⟩)]
  · exact absurd (show (0 : Int32) < nI (fc + 1) from nI_lt (Nat.succ_pos fc) (by omega)) h4
