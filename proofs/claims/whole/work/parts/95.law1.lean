/-! ===== the law: class and reference show one house ===== -/
theorem aoX0 : Cond.arrayOver (.object RX0) ∈ lw_tbl := List.mem_append_right _ (List.mem_append_left _ (List.mem_of_getElem? (i := 89) rfl))
theorem aoX4 : Cond.arrayOver (.object RX4) ∈ lw_tbl := List.mem_append_right _ (List.mem_append_right _ (List.mem_append_right _ (List.mem_append_left _ (List.mem_of_getElem? (i := 53) rfl))))
theorem MR_rows {Z Z' : ZT} {S : HS} (H : MR Z S) (r : ∀ c i, 30 ≤ c → Z' c i = Z c i) : MR Z' S :=
  ⟨by rw [r 30 0 (by decide)]; exact H.1, fun i hi => ⟨fun q => by rw [r 40 i (by decide)]; exact (H.2 i hi).1 q, fun q => ⟨by rw [r 40 i (by decide)]; exact ((H.2 i hi).2 q).1, BRr_rows (fun c h1 _ => r c i (by omega)) ((H.2 i hi).2 q).2⟩⟩⟩
theorem CR_flags {X X' : Sh} {Z : ZT} {S : HS} {h gp : Nat} (H : CR X Z S h gp) (e1 : X'.2.1 = X.2.1) (e2 : ∀ j, j < 8 → X'.2.2.1 j = X.2.2.1 j) : CR X' Z S h gp := by
  obtain ⟨⟨o, hd, g3, g4, fc, hA, hB, hg⟩, b, c⟩ := H
  have gj : ∀ j, j < 8 → gfr X' Z j = gfr X Z j := fun j hj => by unfold gfr; rw [e2 j hj]
  refine ⟨⟨o, hd, g3, g4, fc, hA.congrX (by rw [e1]) (by rw [e1]), ?_, hg⟩, b, fun j hj => ?_⟩
  · refine hB.c.to (X' := X') (Z' := Z) (fun s _ => cnt_same gj (fun _ _ _ _ => rfl)) (by rw [e1]) rfl rfl rfl rfl (fun j k hj hk => ?_) (fun j hj => by rw [gj j hj]; exact hB.2.2.1 j hj)
    rw [gj j hj] at hk
    exact hB.2.1 j k hj hk
  · rw [e2 j hj]; exact c j hj
def LV (a am : Nat) (X : Sh) (Z : ZT) (S : HS) (h gp cells slots : Nat) : Prop :=
  X.1 0 0 = a ∧ X.1 30 0 = am ∧ HOK S ∧ CRx X ∧ CR X Z S h gp ∧ MRx X ∧ MR Z S ∧ cells + gp + 8 * unm X ≤ 165 ∧ slots + 32832 * (gp + 8 * unm X) ≤ 2618387
theorem LV_0 {a am : Nat} {X X2 : Sh} {Z Z2 : ZT} {S : HS} (hS : HOK S) (hnu : S.2.2 0 = 10 ∧ S.2.2 1 = 7 ∧ S.2.2 2 = 0 ∧ S.2.2 3 = 0) (hF : ∀ i, S.1 i = 0) (e0 : X.1 0 0 = a) (hCX : CRx X) (hCR : CR X Z S 8 14) (hun : unm X = 8) (hf : ∀ j, X.2.2.1 j = false) (h5 : m5 X Z am 8 X2 Z2) : LV a am X2 Z2 S 8 14 87 57491 := by
  obtain ⟨h1, h2, h3, h4, h5, h6, h7, h8, h9, h10, h11, h12⟩ := h5
  have un : unm X2 = unm X := by
    unfold unm
    exact sumN_congr fun j hj => by rw [h10 j (by omega)]
  refine ⟨(h8 0 0 (by decide)).trans e0, h1, hS, ⟨fun c q => h11 _ (hCX.1 c q), ⟨fun c i q1 q2 => ?_, fun c i q1 q2 q3 => ?_⟩, fun i hi q => ?_⟩, CR_flags (CR_rows hCR h7) h9 (fun j hj => h10 j (by omega)), ⟨h2, fun i hi => (h3 i hi).1, fun i hi => (h3 i hi).2.1⟩, ⟨?_, fun i hi => ⟨fun _ => (h3 i hi).2.2, fun q => absurd (hF i) q⟩⟩, by rw [un, hun]; decide, by rw [un, hun]; decide⟩
  · rcases h12 _ q2 with q | q
    · exact hCX.2.1.1 c i q1 q
    · have : 30 ≤ c := q
      omega
  · rcases h12 _ q3 with q | q
    · exact absurd (hCX.2.1.2 c i q1 q2 q) (by rw [hf i]; decide)
    · have : 30 ≤ c := q
      omega
  · rw [h10 i (by omega), hf i] at q
    exact absurd q (by decide)
  · rw [h6]
    exact ⟨hnu.1.symm, hnu.2.1.symm, hnu.2.2.1.symm, hnu.2.2.2.symm⟩
theorem law_h4 {L i : Nat} (hL : L ≤ 2048) (hi : i ≤ L) (h : ¬ (Int32.ofNat L - 4 < nI i)) : i + 4 ≤ L := by
  rcases Nat.lt_or_ge L 4 with q | q
  · exfalso
    apply h
    rw [Int32.lt_iff_toInt_lt, nI_toInt (by omega)]
    have : L = 0 ∨ L = 1 ∨ L = 2 ∨ L = 3 := by omega
    rcases this with rfl | rfl | rfl | rfl
    · have : (Int32.ofNat 0 - 4).toInt = -4 := by decide
      omega
    · have : (Int32.ofNat 1 - 4).toInt = -3 := by decide
      omega
    · have : (Int32.ofNat 2 - 4).toInt = -2 := by decide
      omega
    · have : (Int32.ofNat 3 - 4).toInt = -1 := by decide
      omega
  · have e : Int32.ofNat L - 4 = nI (L - 4) := by
      have e1 := nI_add (L - 4) 4
      rw [show L - 4 + 4 = L by omega] at e1
      show nI L - nI 4 = nI (L - 4)
      rw [← e1]
      exact Int32.add_sub_cancel _ _
    rw [e, nI_ltI (by omega) (by omega)] at h
    omega
/-- the world at the law's entry: the classes, the rows' classes -/
theorem law_K {s : State} {args : Array Value} (hts : ∀ w ∈ lw_tbl, w.before args s = true) : NW s ∧ ∃ (D : va_G) (cs : Nat → ClassId), va_K D vwCl (tysA cs) s := by
  have htA : ∀ w ∈ wsA, w.before args s = true := fun w hw => hts w (wa_tbl hw)
  have hN : NW s := ⟨fun w hw hn => va_Nw.of (A := args) (by cases w <;> first | (cases hn; done) | rfl) (hts w hw), va_AO.of (A := args) (hts _ aoX0), va_AO.of (A := args) (hts _ aoX4)⟩
  refine ⟨hN, ?_⟩
  obtain ⟨c0, i0, hk0⟩ := u_known (C := RX0) (T := TX0) (N := 17) (n := 17) htA inA0 (htA _ mw110)
  obtain ⟨c1, i1, hk1⟩ := u_known (C := RX1) (T := TX1) (N := 13) (n := 13) htA inA1 (htA _ mw14)
  obtain ⟨c2, i2, hk2⟩ := u_known (C := RX2) (T := TX2) (N := 5) (n := 5) htA inA2 (htA _ mw18)
  obtain ⟨c3, i3, hk3⟩ := u_known (C := RX3) (T := TX3) (N := 7) (n := 7) htA inA3 (htA _ mw2)
  obtain ⟨c4, i4, hk4⟩ := u_known (C := RX4) (T := TX4) (N := 19) (n := 19) htA inA4 (htA _ mw70)
  obtain ⟨c5, i5, hk5⟩ := u_known (C := RX5) (T := TX5) (N := 5) (n := 5) htA inA5 (htA _ mw5)
  obtain ⟨a0, k0, m0, f0, g0, h0⟩ := Cond.arrayClass_spec (htA _ mw26)
  obtain ⟨a1, k1, m1, f1, g1, h1⟩ := Cond.arrayClass_spec (htA _ mw30)
  obtain ⟨m2, a2, k2, e2, -, g2, h2, f2⟩ := Cond.arrayOver_spec (hts _ aoX0)
  obtain ⟨m3, a3, k3, e3, -, g3, h3, f3⟩ := Cond.arrayOver_spec (hts _ aoX4)
  refine ⟨(fun k => [c0, c1, c2, c3, c4, c5].getD k c0, fun k => [i0, i1, i2, i3, i4, i5].getD k i0), fun k => [a0, a1, a2, a3].getD k a0, ?_, ?_⟩
  · intro k q hq
    match k, hq with
    | 0, hq => cases hq; exact hk0
    | 1, hq => cases hq; exact hk1
    | 2, hq => cases hq; exact hk2
    | 3, hq => cases hq; exact hk3
    | 4, hq => cases hq; exact hk4
    | 5, hq => cases hq; exact hk5
    | k + 6, hq => simp [vwCl] at hq
  · intro k q hq
    match k, hq with
    | 0, hq => cases hq; exact ⟨fun N z => ⟨(fun k h => by cases h), k0, g0, m0, h0⟩, f0⟩
    | 1, hq => cases hq; exact ⟨fun N z => ⟨(fun k h => by cases h), k1, g1, m1, h1⟩, f1⟩
    | 2, hq => cases hq; exact ⟨fun N z => ⟨(fun k h => by cases h), k2, g2, m2, h2⟩, k2, m2, g2, h2, e2, f2⟩
    | 3, hq => cases hq; exact ⟨fun N z => ⟨(fun k h => by cases h), k3, g3, m3, h3⟩, k3, m3, g3, h3, e3, f3⟩
    | k + 4, hq => simp [tysA] at hq
