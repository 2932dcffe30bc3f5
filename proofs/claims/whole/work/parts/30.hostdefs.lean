/-! ===== the host: what its tables say ===== -/
def HUI (X : Sh) : Prop := ∀ c i, c ≤ 12 → (c, i) ∈ X.2.2.2 → i = 0
/-- word k of sheet s -/
def scn (Z : ZT) (s k : Nat) : Int32 := if Z 8 0 s = -1 then Z 4 0 (64 * s + k) else Z 3 0 (64 * (Z 8 0 s).toNatClampNeg + k)
/-- the host's frames, sheets, and what is put away: h frames, o opened, the hand at hd; memory and room may grow g3 and g4 times more -/
def HA (X : Sh) (Z : ZT) (h o hd g3 g4 : Nat) : Prop :=
  (4 ≤ h ∧ h ≤ 256 ∧ o ≤ h ∧ hd < h) ∧
  (Z 2 0 0 = nI h ∧ Z 2 0 1 = nI o ∧ Z 2 0 2 = nI hd) ∧
  (64 * o ≤ X.2.1 3 ∧ 256 ≤ X.2.1 3 ∧ X.2.1 3 < 32768 ∧ 16384 ≤ X.2.1 3 * 2 ^ g3) ∧
  (256 ≤ X.2.1 4 ∧ X.2.1 4 ≤ 32832 ∧ 32832 ≤ X.2.1 4 * 2 ^ g4) ∧
  (∀ s, s < 513 → Z 8 0 s = -1 ∨ ∃ f, f < o ∧ Z 8 0 s = nI f ∧ Z 5 0 f = nI s ∧ 64 * (s + 1) ≤ X.2.1 4) ∧
  (∀ f, f < 256 → Z 5 0 f = -1 ∨ ∃ s, s < 513 ∧ f < o ∧ Z 5 0 f = nI s ∧ Z 8 0 s = nI f) ∧
  (∀ s, s < 513 → Z 9 0 s = 0 ∨ (Z 9 0 s = 1 ∧ Z 8 0 s ≠ -1 ∧ s ≠ 0)) ∧
  (∀ s f k, s < 513 → f < o → k < 64 → Z 8 0 s = nI f → Z 9 0 s = 0 → Z 3 0 (64 * f + k) = Z 4 0 (64 * s + k)) ∧
  (∀ k, k < 64 → Z 4 0 k = 0)
theorem nI_ne_m1 {n : Nat} (h : n < 2 ^ 31) : nI n ≠ -1 := by
  intro e
  have h1 := nI_toInt h
  rw [e] at h1
  have : (-1 : Int32).toInt = -1 := by decide
  omega
theorem nI_inj {a b : Nat} (ha : a < 2 ^ 31) (hb : b < 2 ^ 31) (h : nI a = nI b) : a = b := (nI_eq ha hb).mp h
theorem upd_s {f : Nat → Int32} {k : Nat} {x : Int32} : upd f k x k = x := pk_us
theorem upd_n {f : Nat → Int32} {k j : Nat} {x : Int32} (h : j ≠ k) : upd f k x j = f j := pk_un h
theorem upd_uu {f : Nat → Int32} {k : Nat} {x y : Int32} : upd (upd f k x) k y = upd f k y := by
  funext j
  by_cases h : j = k
  · subst h; rw [upd_s, upd_s]
  · rw [upd_n h, upd_n h, upd_n h]
theorem scn_away {Z : ZT} {s k : Nat} (h : Z 8 0 s = -1) : scn Z s k = Z 4 0 (64 * s + k) := by simp [scn, h]
theorem scn_mem {Z : ZT} {s k f : Nat} (hf : f < 2 ^ 31) (h : Z 8 0 s = nI f) : scn Z s k = Z 3 0 (64 * f + k) := by
  unfold scn
  rw [if_neg (by rw [h]; exact nI_ne_m1 hf), h, nI_clamp hf]
/-- the clock's state within a search: only the hand and the marks have moved -/
def tfZ (Z : ZT) (r : Nat → Int32) (x : Nat) : ZT := upr (upr Z 6 0 r) 2 0 (upd (Z 2 0) 2 (nI x))
theorem tfZ_put {Z : ZT} {r : Nat → Int32} {x y : Nat} : upr (tfZ Z r x) 2 0 (upd (tfZ Z r x 2 0) 2 (nI y)) = tfZ Z r y := by
  unfold tfZ
  rw [upr_uu, upr_s, upd_uu]
theorem tfZ_rec {Z : ZT} {r : Nat → Int32} {x f : Nat} {v : Int32} : upr (tfZ Z r x) 6 0 (upd (tfZ Z r x 6 0) f v) = tfZ Z (upd r f v) x := by
  unfold tfZ
  rw [upr_cm (by decide), upr_uu, upr_k (show (6 : Nat) ≠ 2 by decide), upr_s]
theorem tfZ_o {Z : ZT} {r : Nat → Int32} {x c i : Nat} (h2 : c ≠ 2) (h6 : c ≠ 6) : tfZ Z r x c i = Z c i := by
  unfold tfZ
  rw [upr_k h2, upr_k h6]
theorem tfZ_6 {Z : ZT} {r : Nat → Int32} {x : Nat} : tfZ Z r x 6 0 = r := by
  unfold tfZ
  rw [upr_k (by decide), upr_s]
theorem tfZ_2 {Z : ZT} {r : Nat → Int32} {x : Nat} : tfZ Z r x 2 0 = upd (Z 2 0) 2 (nI x) := by
  unfold tfZ
  rw [upr_s]
theorem tfZ_HA {X : Sh} {Z : ZT} {h o hd g3 g4 : Nat} {r : Nat → Int32} {x : Nat} (H : HA X Z h o hd g3 g4) (hx : x < h) : HA X (tfZ Z r x) h o x g3 g4 := by
  obtain ⟨⟨a1, a2, a3, a4⟩, ⟨b1, b2, b3⟩, c1, c2, c3, c4, c5, c6, c7⟩ := H
  refine ⟨⟨a1, a2, a3, hx⟩, ?_, c1, c2, ?_, ?_, ?_, ?_, ?_⟩
  · rw [tfZ_2]
    exact ⟨by rw [upd_n (by decide)]; exact b1, by rw [upd_n (by decide)]; exact b2, upd_s⟩
  all_goals simp only [tfZ_o (Z := Z) (r := r) (x := x) (c := 3) (by decide) (by decide), tfZ_o (Z := Z) (r := r) (x := x) (c := 4) (by decide) (by decide), tfZ_o (Z := Z) (r := r) (x := x) (c := 5) (by decide) (by decide), tfZ_o (Z := Z) (r := r) (x := x) (c := 8) (by decide) (by decide), tfZ_o (Z := Z) (r := r) (x := x) (c := 9) (by decide) (by decide)]
  · exact c3
  · exact c4
  · exact c5
  · exact c6
  · exact c7
theorem tfZ_scn {Z : ZT} {r : Nat → Int32} {x s k : Nat} : scn (tfZ Z r x) s k = scn Z s k := by
  unfold scn
  rw [tfZ_o (c := 8) (by decide) (by decide), tfZ_o (c := 4) (by decide) (by decide), tfZ_o (c := 3) (by decide) (by decide)]
/-- rows that finding a frame may touch -/
def tfR (c i : Nat) : Prop := i = 0 ∧ (c = 2 ∨ c = 3 ∨ c = 4 ∨ c = 5 ∨ c = 6 ∨ c = 8 ∨ c = 9)
/-- what a search for a frame leaves: frame f is free, no word of a sheet has changed, the frame kp is as it was -/
def TF (X : Sh) (Z : ZT) (h o g3 g4 : Nat) (kp : Int32) (X' : Sh) (Z' : ZT) (f k n : Nat) : Prop :=
  ∃ (V : Nat → Nat) (o' hd' g3' : Nat), X' = (X.1, V, X.2.2) ∧ V 4 = X.2.1 4 ∧ V 14 = X.2.1 14 ∧ nI f ≠ kp ∧ f < o' ∧ o ≤ o' ∧ HA X' Z' h o' hd' g3' g4 ∧ k + g3' ≤ g3 ∧ n ≤ 32768 * k ∧ Z' 5 0 f = -1 ∧
    (∀ s, s < 513 → Z 8 0 s = kp → Z' 8 0 s = kp ∧ Z' 9 0 s = Z 9 0 s) ∧ (∀ s, s < 513 → Z' 8 0 s = -1 ∨ Z' 8 0 s = Z 8 0 s) ∧ (∀ s j, s < 513 → j < 64 → scn Z' s j = scn Z s j) ∧ (∀ c i, ¬ tfR c i → Z' c i = Z c i) ∧ (∀ j, j ≠ 1 → j ≠ 2 → Z' 2 0 j = Z 2 0 j)
/-- a sheet is put away: its frame is free -/
def evZ (Z : ZT) (f s : Nat) (a : Nat → Int32) : ZT := upr (upr (upr (upr Z 4 0 a) 9 0 (upd (Z 9 0) s 0)) 8 0 (upd (Z 8 0) s (-1))) 5 0 (upd (Z 5 0) f (-1))
theorem evZ_5 {Z : ZT} {f s : Nat} {a : Nat → Int32} : evZ Z f s a 5 0 = upd (Z 5 0) f (-1) := by unfold evZ; rw [upr_s]
theorem evZ_8 {Z : ZT} {f s : Nat} {a : Nat → Int32} : evZ Z f s a 8 0 = upd (Z 8 0) s (-1) := by unfold evZ; rw [upr_k (by decide), upr_s]
theorem evZ_9 {Z : ZT} {f s : Nat} {a : Nat → Int32} : evZ Z f s a 9 0 = upd (Z 9 0) s 0 := by unfold evZ; rw [upr_k (by decide), upr_k (by decide), upr_s]
theorem evZ_4 {Z : ZT} {f s : Nat} {a : Nat → Int32} : evZ Z f s a 4 0 = a := by unfold evZ; rw [upr_k (by decide), upr_k (by decide), upr_k (by decide), upr_s]
theorem evZ_o {Z : ZT} {f s c i : Nat} {a : Nat → Int32} (h4 : c ≠ 4) (h5 : c ≠ 5) (h8 : c ≠ 8) (h9 : c ≠ 9) : evZ Z f s a c i = Z c i := by unfold evZ; rw [upr_k h5, upr_k h8, upr_k h9, upr_k h4]
theorem ev_main {X : Sh} {Z : ZT} {h o hd g3 g4 f s : Nat} {a : Nat → Int32} (H : HA X Z h o hd g3 g4) (hs : s < 513) (hf : f < o) (h5 : Z 5 0 f = nI s) (h8 : Z 8 0 s = nI f)
    (ha : ∀ j, j < 64 → a (64 * s + j) = Z 3 0 (64 * f + j)) (hb : ∀ j, ¬ (64 * s ≤ j ∧ j < 64 * s + 64) → a j = Z 4 0 j) :
    HA X (evZ Z f s a) h o hd g3 g4 ∧ (∀ s' j, s' < 513 → j < 64 → scn (evZ Z f s a) s' j = scn Z s' j) := by
  obtain ⟨⟨a1, a2, a3, a4⟩, ⟨b1, b2, b3⟩, c1, c2, c3, c4, c5, c6, c7⟩ := H
  have hf31 : f < 2 ^ 31 := by omega
  have one : ∀ s', s' < 513 → Z 8 0 s' = nI f → s' = s := by
    intro s' hs' e
    rcases c3 s' hs' with q | ⟨f', hf', e1, e2, -⟩
    · rw [q] at e; exact absurd e.symm (nI_ne_m1 hf31)
    · have : f' = f := nI_inj (by omega) hf31 (e1.symm.trans e)
      subst this
      exact nI_inj (by omega) (by omega) (e2.symm.trans h5)
  refine ⟨⟨⟨a1, a2, a3, a4⟩, ?_, c1, c2, ?_, ?_, ?_, ?_, ?_⟩, ?_⟩
  · rw [evZ_o (by decide) (by decide) (by decide) (by decide)]
    exact ⟨b1, b2, b3⟩
  · intro s' hs'
    rw [evZ_8, evZ_5]
    by_cases e : s' = s
    · subst e; exact Or.inl upd_s
    · rw [upd_n e]
      rcases c3 s' hs' with q | ⟨f', hf', e1, e2, e3⟩
      · exact Or.inl q
      · refine Or.inr ⟨f', hf', e1, ?_, e3⟩
        rw [upd_n]
        · exact e2
        · intro q
          subst q
          exact e (one s' hs' e1)
  · intro f' hf'
    rw [evZ_8, evZ_5]
    by_cases e : f' = f
    · subst e; exact Or.inl upd_s
    · rw [upd_n e]
      rcases c4 f' hf' with q | ⟨s', hs', e0, e1, e2⟩
      · exact Or.inl q
      · refine Or.inr ⟨s', hs', e0, e1, ?_⟩
        rw [upd_n]
        · exact e2
        · intro q
          subst q
          exact e (nI_inj (by omega) hf31 (e2.symm.trans h8))
  · intro s' hs'
    rw [evZ_8, evZ_9]
    by_cases e : s' = s
    · subst e; exact Or.inl upd_s
    · rw [upd_n e, upd_n e]
      exact c5 s' hs'
  · intro s' f' k hs' hf' hk e1 e2
    rw [evZ_8] at e1
    rw [evZ_9] at e2
    rw [evZ_4, evZ_o (by decide) (by decide) (by decide) (by decide)]
    by_cases e : s' = s
    · subst e
      rw [upd_s] at e1
      exact absurd e1.symm (nI_ne_m1 (by omega))
    · rw [upd_n e] at e1 e2
      rw [hb _ (by omega)]
      exact c6 s' f' k hs' hf' hk e1 e2
  · intro k hk
    rw [evZ_4]
    by_cases e : s = 0
    · subst e
      have := ha k hk
      rw [show 64 * 0 + k = k by omega] at this
      rw [this]
      have h0 : Z 9 0 0 = 0 := by
        rcases c5 0 (by omega) with q | ⟨-, -, q⟩
        · exact q
        · exact absurd rfl q
      have := c6 0 f k (by omega) hf hk h8 h0
      rw [show 64 * 0 + k = k by omega] at this
      rw [this]
      exact c7 k hk
    · rw [hb _ (by omega)]
      exact c7 k hk
  · intro s' j hs' hj
    by_cases e : s' = s
    · subst e
      rw [scn_away (by rw [evZ_8, upd_s]), evZ_4, ha j hj, scn_mem hf31 h8]
    · rcases c3 s' hs' with q | ⟨f', hf', e1, -, -⟩
      · rw [scn_away (by rw [evZ_8, upd_n e]; exact q), scn_away q, evZ_4, hb _ (by omega)]
      · rw [scn_mem (by omega) (show evZ Z f s a 8 0 s' = nI f' by rw [evZ_8, upd_n e]; exact e1), scn_mem (by omega) e1, evZ_o (by decide) (by decide) (by decide) (by decide)]
/-- one more frame is opened -/
theorem op_main {X X' : Sh} {Z Z' : ZT} {h o hd g3 g4 g3' : Nat} (H : HA X Z h o hd g3 g4) (ho : o < h) (hV4 : X'.2.1 4 = X.2.1 4) (hV3 : 64 * (o + 1) ≤ X'.2.1 3 ∧ 256 ≤ X'.2.1 3 ∧ X'.2.1 3 < 32768 ∧ 16384 ≤ X'.2.1 3 * 2 ^ g3')
    (h2 : Z' 2 0 = upd (Z 2 0) 1 (nI (o + 1))) (h3 : ∀ j, j < 64 * o → Z' 3 0 j = Z 3 0 j) (hr : ∀ c, c ≠ 2 → c ≠ 3 → Z' c 0 = Z c 0) : HA X' Z' h (o + 1) hd g3' g4 ∧ (∀ s j, s < 513 → j < 64 → scn Z' s j = scn Z s j) ∧ Z' 5 0 o = -1 := by
  obtain ⟨⟨a1, a2, a3, a4⟩, ⟨b1, b2, b3⟩, c1, c2, c3, c4, c5, c6, c7⟩ := H
  have r4 := hr 4 (by decide) (by decide)
  have r5 := hr 5 (by decide) (by decide)
  have r8 := hr 8 (by decide) (by decide)
  have r9 := hr 9 (by decide) (by decide)
  refine ⟨⟨⟨a1, a2, ho, a4⟩, ?_, hV3, by rw [hV4]; exact c2, ?_, ?_, ?_, ?_, ?_⟩, ?_, ?_⟩
  · rw [h2]
    exact ⟨by rw [upd_n (by decide)]; exact b1, upd_s, by rw [upd_n (by decide)]; exact b3⟩
  · intro s hs
    rw [r8, r5, hV4]
    rcases c3 s hs with q | ⟨f, q1, q2⟩
    · exact Or.inl q
    · exact Or.inr ⟨f, by omega, q2⟩
  · intro f hf
    rw [r8, r5]
    rcases c4 f hf with q | ⟨s, q1, q2, q3⟩
    · exact Or.inl q
    · exact Or.inr ⟨s, q1, by omega, q3⟩
  · rw [r8, r9]; exact c5
  · intro s f k hs hf hk e1 e2
    rw [r8] at e1
    rw [r9] at e2
    rw [r4]
    have hfo : f < o := by
      rcases c3 s hs with q | ⟨f', q1, q2, -⟩
      · rw [q] at e1; exact absurd e1.symm (nI_ne_m1 (by omega))
      · have := nI_inj (by omega) (by omega) (q2.symm.trans e1); omega
    rw [h3 _ (by omega)]
    exact c6 s f k hs hfo hk e1 e2
  · rw [r4]; exact c7
  · intro s j hs hj
    rcases c3 s hs with q | ⟨f, q1, q2, -⟩
    · rw [scn_away (by rw [r8]; exact q), scn_away q, r4]
    · rw [scn_mem (by omega) (show Z' 8 0 s = nI f by rw [r8]; exact q2), scn_mem (by omega) q2, h3 _ (by omega)]
  · rw [r5]
    rcases c4 o (by omega) with q | ⟨s, q1, q2, -⟩
    · exact q
    · omega
