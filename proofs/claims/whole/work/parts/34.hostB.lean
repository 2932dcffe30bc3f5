/-! ===== counting: who uses which sheet ===== -/
def sumN : Nat → (Nat → Nat) → Nat
  | 0, _ => 0
  | n + 1, f => sumN n f + f n
theorem sumN_congr {n : Nat} {f g : Nat → Nat} (h : ∀ k, k < n → f k = g k) : sumN n f = sumN n g := by
  induction n with
  | zero => rfl
  | succ n ih => simp only [sumN]; rw [ih (fun k hk => h k (by omega)), h n (by omega)]
theorem sumN_zero {n : Nat} {f : Nat → Nat} (h : ∀ k, k < n → f k = 0) : sumN n f = 0 := by
  induction n with
  | zero => rfl
  | succ n ih => simp only [sumN]; rw [ih (fun k hk => h k (by omega)), h n (by omega)]
theorem sumN_add {n : Nat} {f g : Nat → Nat} : sumN n (fun k => f k + g k) = sumN n f + sumN n g := by
  induction n with
  | zero => rfl
  | succ n ih => simp only [sumN]; rw [ih]; omega
theorem sumN_le {n : Nat} {f g : Nat → Nat} (h : ∀ k, k < n → f k ≤ g k) : sumN n f ≤ sumN n g := by
  induction n with
  | zero => exact Nat.le_refl _
  | succ n ih => simp only [sumN]; have := ih (fun k hk => h k (by omega)); have := h n (by omega); omega
theorem sumN_const {n c : Nat} : sumN n (fun _ => c) = n * c := by
  induction n with
  | zero => simp [sumN]
  | succ n ih => simp only [sumN]; rw [ih, Nat.succ_mul]
theorem sumN_ge {n k : Nat} {f : Nat → Nat} (h : k < n) : f k ≤ sumN n f := by
  induction n with
  | zero => omega
  | succ n ih =>
    simp only [sumN]
    rcases Nat.lt_or_ge k n with q | q
    · have := ih q; omega
    · have : k = n := by omega
      subst this
      omega
theorem sumN_ge2 {n k j : Nat} {f : Nat → Nat} (h : k < n) (hj : j < n) (hkj : k ≠ j) : f k + f j ≤ sumN n f := by
  induction n with
  | zero => omega
  | succ n ih =>
    simp only [sumN]
    rcases Nat.lt_or_ge k n with q | q
    · rcases Nat.lt_or_ge j n with q2 | q2
      · have := ih q q2; omega
      · have e : j = n := by omega
        subst e
        have := sumN_ge (f := f) q
        omega
    · have e : k = n := by omega
      subst e
      have := sumN_ge (f := f) (show j < k by omega)
      omega
/-- one term changes -/
theorem sumN_chg {n k : Nat} {f g : Nat → Nat} (hk : k < n) (h : ∀ j, j < n → j ≠ k → f j = g j) : sumN n f + g k = sumN n g + f k := by
  induction n with
  | zero => omega
  | succ n ih =>
    simp only [sumN]
    rcases Nat.lt_or_ge k n with q | q
    · have := ih q (fun j hj hne => h j (by omega) hne)
      have := h n (by omega) (by omega)
      omega
    · have e : k = n := by omega
      subst e
      have := sumN_congr (n := k) (f := f) (g := g) (fun j hj => h j (by omega) (by omega))
      omega
theorem sumN_swap {n m : Nat} {f : Nat → Nat → Nat} : sumN n (fun i => sumN m (fun j => f i j)) = sumN m (fun j => sumN n (fun i => f i j)) := by
  induction n with
  | zero => simp only [sumN]; exact (sumN_zero (fun _ _ => rfl)).symm
  | succ n ih => simp only [sumN]; rw [ih, sumN_add]
theorem sumN_one {n s : Nat} (h : s < n) : sumN n (fun k => if k = s then 1 else 0) = 1 := by
  induction n with
  | zero => omega
  | succ n ih =>
    simp only [sumN]
    rcases Nat.lt_or_ge s n with q | q
    · rw [ih q, if_neg (by omega)]
    · have e : s = n := by omega
      subst e
      rw [if_pos rfl, sumN_zero (fun k hk => if_neg (by omega))]
theorem sumN_pos {n : Nat} {f : Nat → Nat} (h : sumN n f ≠ 0) : ∃ k, k < n ∧ f k ≠ 0 := by
  induction n with
  | zero => exact absurd rfl h
  | succ n ih =>
    by_cases e : f n = 0
    · simp only [sumN] at h
      obtain ⟨k, hk, hf⟩ := ih (by omega)
      exact ⟨k, by omega, hf⟩
    · exact ⟨n, by omega, e⟩
/-- frames of guest j that are there -/
def gfr (X : Sh) (Z : ZT) (j : Nat) : Nat := if X.2.2.1 j = true ∧ Z 20 j 0 ≠ 0 then (Z 20 j 6).toNatClampNeg else 0
def use1 (Z : ZT) (j k s : Nat) : Nat := if Z 21 j k = nI s then 1 else 0
def cnt (X : Sh) (Z : ZT) (s : Nat) : Nat := (if s = 0 then 1 else 0) + sumN 8 (fun j => sumN (gfr X Z j) (fun k => use1 Z j k s))
/-- the uses of the sheets, and those that are free -/
def HB (X : Sh) (Z : ZT) (fc : Nat) : Prop :=
  (∀ s, s < 513 → Z 7 0 s = nI (cnt X Z s)) ∧
  (∀ j k, j < 8 → k < gfr X Z j → ∃ s, s < 513 ∧ Z 21 j k = nI s) ∧
  (∀ j, j < 8 → gfr X Z j ≤ 64) ∧
  (∀ s, s < 513 → cnt X Z s ≠ 0 → 64 * (s + 1) ≤ X.2.1 4) ∧
  (∀ s, s < 513 → Z 8 0 s ≠ -1 → cnt X Z s ≠ 0) ∧
  Z 2 0 3 = nI fc ∧
  (∀ j, j < fc → ∃ s, s < 513 ∧ Z 10 0 j = nI s ∧ cnt X Z s = 0) ∧
  (∀ j j', j < fc → j' < fc → Z 10 0 j = Z 10 0 j' → j = j') ∧
  sumN 513 (fun s => if cnt X Z s = 0 then 1 else 0) = fc
theorem HB.fc_le {X : Sh} {Z : ZT} {fc : Nat} (H : HB X Z fc) : fc ≤ 512 := by
  obtain ⟨-, -, -, -, -, -, -, -, h⟩ := H
  rw [← h]
  have h1 : sumN 513 (fun s => if cnt X Z s = 0 then 1 else 0) ≤ sumN 513 (fun s => if s = 0 then 0 else 1) := sumN_le (fun k _ => by
    by_cases e : k = 0
    · subst e
      rw [if_neg (by unfold cnt; simp)]
      exact Nat.zero_le _
    · rw [if_neg e]
      split <;> omega)
  have h2 : sumN 513 (fun s => if s = 0 then 0 else 1) + sumN 513 (fun k => if k = 0 then 1 else 0) = 513 := by
    rw [← sumN_add]
    have : (fun k => (if k = 0 then 0 else 1) + if k = 0 then 1 else 0) = (fun _ : Nat => 1) := by
      funext k
      split <;> rfl
    rw [this, sumN_const]
  rw [sumN_one (by decide)] at h2
  omega
/-- all uses together -/
theorem HB.total {X : Sh} {Z : ZT} {fc : Nat} (H : HB X Z fc) : sumN 513 (fun s => cnt X Z s) ≤ 513 := by
  obtain ⟨-, h1, h2, -⟩ := H
  have e1 : sumN 513 (fun s => cnt X Z s) = 1 + sumN 8 (fun j => gfr X Z j) := by
    have e2 : (fun s => cnt X Z s) = (fun s => (if s = 0 then 1 else 0) + sumN 8 (fun j => sumN (gfr X Z j) (fun k => use1 Z j k s))) := rfl
    rw [e2, sumN_add, sumN_one (by decide), sumN_swap]
    congr 1
    refine sumN_congr fun j hj => ?_
    rw [sumN_swap]
    have e3 : sumN (gfr X Z j) (fun k => sumN 513 (fun s => use1 Z j k s)) = sumN (gfr X Z j) (fun _ => 1) := sumN_congr fun k hk => by
      obtain ⟨s0, hs0, e⟩ := h1 j k hj hk
      have : sumN 513 (fun s => use1 Z j k s) = sumN 513 (fun s => if s = s0 then 1 else 0) := sumN_congr fun s hs => by
        unfold use1
        rw [e]
        by_cases q : s = s0
        · subst q; rw [if_pos rfl, if_pos rfl]
        · rw [if_neg q, if_neg]
          intro q2
          exact q (nI_inj (by omega) (by omega) q2.symm)
      rw [this, sumN_one hs0]
    rw [e3, sumN_const, Nat.mul_one]
  have e4 : sumN 8 (fun j => gfr X Z j) ≤ sumN 8 (fun _ => 64) := sumN_le (fun j hj => h2 j hj)
  rw [sumN_const] at e4
  omega
/-- where a sheet has two users, another is free -/
theorem HB.room {X : Sh} {Z : ZT} {fc s : Nat} (H : HB X Z fc) (hs : s < 513) (h2 : 2 ≤ cnt X Z s) : 0 < fc := by
  have h1 := H.total
  obtain ⟨-, -, -, -, -, -, -, -, h⟩ := H
  rw [← h]
  rcases Nat.eq_zero_or_pos (sumN 513 (fun s => if cnt X Z s = 0 then 1 else 0)) with q | q
  · exfalso
    have h3 : ∀ k, k < 513 → 1 ≤ cnt X Z k := by
      intro k hk
      have := sumN_ge (f := fun s => if cnt X Z s = 0 then 1 else 0) hk
      try dsimp only at this
      split at this <;> omega
    have h4 : sumN 513 (fun k => if k = s then 2 else 1) ≤ sumN 513 (fun s => cnt X Z s) := sumN_le (fun k hk => by
      split
      · rename_i e; rw [e]; exact h2
      · exact h3 k hk)
    have h5 : sumN 513 (fun k => if k = s then 2 else 1) = 514 := by
      have e : (fun k => if k = s then 2 else 1) = (fun k => 1 + if k = s then 1 else 0) := by
        funext k
        split <;> rfl
      rw [e, sumN_add, sumN_const, sumN_one hs]
    omega
  · exact q
theorem cnt_ge {X : Sh} {Z : ZT} {i k s : Nat} (hi : i < 8) (hk : k < gfr X Z i) (e : Z 21 i k = nI s) : 1 + (if s = 0 then 1 else 0) ≤ cnt X Z s := by
  unfold cnt
  have h1 := sumN_ge (f := fun j => sumN (gfr X Z j) (fun k => use1 Z j k s)) hi
  have h2 := sumN_ge (f := fun k => use1 Z i k s) hk
  have h3 : use1 Z i k s = 1 := by unfold use1; rw [if_pos e]
  try dsimp only at h1 h2
  omega
theorem cnt_two {X : Sh} {Z : ZT} {i k j k' s : Nat} (hi : i < 8) (hk : k < gfr X Z i) (e : Z 21 i k = nI s) (hj : j < 8) (hk' : k' < gfr X Z j) (e' : Z 21 j k' = nI s) (hne : ¬ (i = j ∧ k = k')) : 2 ≤ cnt X Z s := by
  unfold cnt
  have u1 : use1 Z i k s = 1 := by unfold use1; rw [if_pos e]
  have u2 : use1 Z j k' s = 1 := by unfold use1; rw [if_pos e']
  by_cases hij : i = j
  · subst hij
    have h1 := sumN_ge (f := fun j => sumN (gfr X Z j) (fun k => use1 Z j k s)) hi
    have h2 := sumN_ge2 (f := fun k => use1 Z i k s) hk hk' (fun q => hne ⟨rfl, q⟩)
    try dsimp only at h1 h2
    omega
  · have h1 := sumN_ge2 (f := fun j => sumN (gfr X Z j) (fun k => use1 Z j k s)) hi hj hij
    have h2 := sumN_ge (f := fun k => use1 Z i k s) hk
    have h3 := sumN_ge (f := fun k => use1 Z j k s) hk'
    try dsimp only at h1 h2 h3
    omega
/-- frame k of guest i has another sheet -/
theorem cnt_chg {X X' : Sh} {Z Z' : ZT} {i k s : Nat} (hi : i < 8) (hk : k < gfr X Z i) (hX : ∀ j, j < 8 → gfr X' Z' j = gfr X Z j) (h21 : ∀ j k', j < 8 → k' < gfr X Z j → ¬ (j = i ∧ k' = k) → Z' 21 j k' = Z 21 j k') : cnt X' Z' s + use1 Z i k s = cnt X Z s + use1 Z' i k s := by
  unfold cnt
  have e1 : sumN 8 (fun j => sumN (gfr X' Z' j) (fun k => use1 Z' j k s)) = sumN 8 (fun j => sumN (gfr X Z j) (fun k => use1 Z' j k s)) := sumN_congr fun j hj => by rw [hX j hj]
  rw [e1]
  have h1 := sumN_chg (f := fun j => sumN (gfr X Z j) (fun k => use1 Z' j k s)) (g := fun j => sumN (gfr X Z j) (fun k => use1 Z j k s)) hi (fun j hj hne => sumN_congr fun k' hk' => by unfold use1; rw [h21 j k' hj hk' (fun q => hne q.1)])
  have h2 := sumN_chg (f := fun k => use1 Z' i k s) (g := fun k => use1 Z i k s) hk (fun k' hk' hne => by unfold use1; rw [h21 i k' hi hk' (fun q => hne q.2)])
  try dsimp only at h1 h2
  omega
/-- what uses says of two worlds whose guests have the same sheets -/
theorem cnt_same {X X' : Sh} {Z Z' : ZT} {s : Nat} (hX : ∀ j, j < 8 → gfr X' Z' j = gfr X Z j) (h21 : ∀ j k', j < 8 → k' < gfr X Z j → Z' 21 j k' = Z 21 j k') : cnt X' Z' s = cnt X Z s := by
  unfold cnt
  congr 1
  refine sumN_congr fun j hj => ?_
  rw [hX j hj]
  exact sumN_congr fun k hk => by unfold use1; rw [h21 j k hj hk]
/-- word w of frame k of guest j -/
def mw (Z : ZT) (j k w : Nat) : Int32 := scn Z (Z 21 j k).toNatClampNeg w
