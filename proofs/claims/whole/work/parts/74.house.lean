/-! ===== the house as a thing of its own: frames (0: no guest), machines, numbers (0 slice, 1 current, 2 left, 3 steps) ===== -/
abbrev HS : Type := (Nat → Nat) × (Nat → GS) × (Nat → Int32)
def upm (m : Nat → GS) (i : Nat) (g : GS) : Nat → GS := fun j => if j = i then g else m j
def upn (F : Nat → Nat) (i n : Nat) : Nat → Nat := fun j => if j = i then n else F j
theorem upm_s {m : Nat → GS} {i : Nat} {g : GS} : upm m i g i = g := if_pos rfl
theorem upm_n {m : Nat → GS} {i j : Nat} {g : GS} (h : j ≠ i) : upm m i g j = m j := if_neg h
theorem upn_s {m : Nat → Nat} {i : Nat} {g : Nat} : upn m i g i = g := if_pos rfl
theorem upn_n {m : Nat → Nat} {i j : Nat} {g : Nat} (h : j ≠ i) : upn m i g j = m j := if_neg h
def setM (S : HS) (i : Nat) (g : GS) : HS := (S.1, upm S.2.1 i g, S.2.2)
def addSt (S : HS) (x : Int32) : HS := (S.1, S.2.1, upd S.2.2 3 (S.2.2 3 + x))
def fnd (S : HS) (a : Int32) : Bool := decide (¬ a < 0 ∧ ¬ 8 ≤ a ∧ S.1 a.toNatClampNeg ≠ 0)
theorem fnd_y {S : HS} {i : Nat} (hi : i < 8) (h : S.1 i ≠ 0) : fnd S (nI i) = true := by
  unfold fnd
  rw [nI_clamp (by omega)]
  exact decide_eq_true ⟨nI_pos (by omega), nI_ge (b := 8) hi (by decide), h⟩
theorem fnd_of {S : HS} {a : Int32} (h : fnd S a = true) : ∃ i, i < 8 ∧ a = nI i ∧ S.1 i ≠ 0 := by
  unfold fnd at h
  obtain ⟨h0, h1, h2⟩ := of_decide_eq_true h
  obtain ⟨i, hi, rfl⟩ := nI_of h0
  rw [nI_clamp hi] at h2
  exact ⟨i, Nat.not_le.mp (fun q => h1 (show nI 8 ≤ nI i from nI_le q hi)), rfl, h2⟩
theorem fnd_n {S : HS} {a : Int32} (h : ¬ (¬ a < 0 ∧ ¬ 8 ≤ a ∧ S.1 a.toNatClampNeg ≠ 0)) : fnd S a = false := decide_eq_false h
def lfF (F : Nat → Nat) : Nat → Nat → Nat
  | 0, j => j
  | d + 1, j => if F j = 0 then j else lfF F d (j + 1)
def leastF (F : Nat → Nat) : Nat := lfF F 8 0
theorem lfF_spec {F : Nat → Nat} : ∀ d j, j ≤ lfF F d j ∧ lfF F d j ≤ j + d ∧ (lfF F d j < j + d → F (lfF F d j) = 0) := by
  intro d
  induction d with
  | zero => intro j; exact ⟨Nat.le_refl _, Nat.le_refl _, fun h => absurd h (by show ¬ j < j + 0; omega)⟩
  | succ d ih =>
    intro j
    unfold lfF
    by_cases c : F j = 0
    · rw [if_pos c]; exact ⟨Nat.le_refl _, by omega, fun _ => c⟩
    · rw [if_neg c]
      obtain ⟨h1, h2, h3⟩ := ih (j + 1)
      exact ⟨by omega, by omega, fun h => h3 (by omega)⟩
theorem leastF_le {F : Nat → Nat} : leastF F ≤ 8 := by have := (lfF_spec (F := F) 8 0).2.1; unfold leastF; omega
theorem leastF_0 {F : Nat → Nat} (h : leastF F < 8) : F (leastF F) = 0 := (lfF_spec (F := F) 8 0).2.2 (by unfold leastF at h; omega)
/-- what always holds of the house -/
def HOK (S : HS) : Prop :=
  (∀ i, i < 8 → S.1 i ≤ 64 ∧ (S.1 i ≠ 0 → GInv (S.1 i) (S.2.1 i))) ∧ (∃ c, c < 8 ∧ S.2.2 1 = nI c) ∧ (∃ x, x ≤ 1000 ∧ S.2.2 2 = nI x) ∧ (∃ x, 1 ≤ x ∧ x ≤ 1000 ∧ S.2.2 0 = nI x)
theorem HOK_set {S : HS} {i : Nat} {g : GS} (H : HOK S) (hg : S.1 i ≠ 0 → GInv (S.1 i) g) : HOK (setM S i g) := by
  obtain ⟨h1, h2, h3, h4⟩ := H
  refine ⟨fun j hj => ⟨(h1 j hj).1, fun hn => ?_⟩, h2, h3, h4⟩
  show GInv (S.1 j) (upm S.2.1 i g j)
  by_cases e : j = i
  · subst e; rw [upm_s]; exact hg hn
  · rw [upm_n e]; exact (h1 j hj).2 hn
theorem HOK_st {S : HS} {x : Int32} (H : HOK S) : HOK (addSt S x) := by
  obtain ⟨h1, ⟨c, h2, e2⟩, ⟨z, h3, e3⟩, ⟨y, h4, h5, e4⟩⟩ := H
  refine ⟨h1, ⟨c, h2, ?_⟩, ⟨z, h3, ?_⟩, ⟨y, h4, h5, ?_⟩⟩
  · show upd S.2.2 3 (S.2.2 3 + x) 1 = nI c; rw [upd_n (by decide)]; exact e2
  · show upd S.2.2 3 (S.2.2 3 + x) 2 = nI z; rw [upd_n (by decide)]; exact e3
  · show upd S.2.2 3 (S.2.2 3 + x) 0 = nI y; rw [upd_n (by decide)]; exact e4
/-! the calls -/
def insS (S : HS) (h sl : Int32) : HS × Int32 := if h < 4 ∨ 256 < h ∨ sl < 1 ∨ 1000 < sl then (S, -1) else ((fun _ => 0, S.2.1, upd (upd (upd (upd S.2.2 0 sl) 1 7) 2 0) 3 0), 0)
def gstS (S : HS) (f : Int32) : HS × Int32 := if f < 1 ∨ 64 < f then (S, -1) else if leastF S.1 = 8 then (S, -12) else ((upn S.1 (leastF S.1) f.toNatClampNeg, upm S.2.1 (leastF S.1) (newG f.toNatClampNeg), S.2.2), nI (leastF S.1))
def pkS (S : HS) (a x v : Int32) : HS × Int32 :=
  if fnd S a = false then (S, -14) else if ¬ S.2.1 a.toNatClampNeg 0 1 = 0 then (S, -1) else if hasWv (nI (S.1 a.toNatClampNeg)) x = 0 then (S, -2)
  else (setM S a.toNatClampNeg (gu (S.2.1 a.toNatClampNeg) 1 x.toNatClampNeg v), 0)
def pdS (S : HS) (a x v : Int32) : HS × Int32 :=
  if fnd S a = false then (S, -14) else if ¬ S.2.1 a.toNatClampNeg 0 1 = 0 then (S, -1) else if x < 0 ∨ ¬ x < 1024 then (S, -2)
  else (setM S a.toNatClampNeg (gu (S.2.1 a.toNatClampNeg) 2 x.toNatClampNeg v), 0)
def stS (S : HS) (a pc : Int32) : HS × Int32 :=
  if fnd S a = false then (S, -14) else if ¬ S.2.1 a.toNatClampNeg 0 1 = 0 then (S, -1)
  else (setM S a.toNatClampNeg (resG (S.2.1 a.toNatClampNeg) (S.1 a.toNatClampNeg) pc), 0)
def spS (S : HS) (a : Int32) : HS × Int32 := if fnd S a = false then (S, -14) else (setM S a.toNatClampNeg (gu (S.2.1 a.toNatClampNeg) 0 1 0), 0)
def ariS (g : GS) (v : Int32) : GS := gu (gu g 6 (g 0 14).toNatClampNeg v) 0 14 (g 0 14 + 1)
def ipS (S : HS) (a v : Int32) : HS × Int32 :=
  if fnd S a = false then (S, -14) else if ¬ S.2.1 a.toNatClampNeg 0 14 < 64 then (S, -12)
  else (setM S a.toNatClampNeg (if S.2.1 a.toNatClampNeg 0 1 = 2 then gu (ariS (S.2.1 a.toNatClampNeg) v) 0 1 1 else ariS (S.2.1 a.toNatClampNeg) v), 0)
def cpS (S : HS) (a : Int32) : HS × Int32 :=
  if fnd S a = false then (S, -14) else if leastF S.1 = 8 then (S, -12)
  else ((upn S.1 (leastF S.1) (S.1 a.toNatClampNeg), upm S.2.1 (leastF S.1) (S.2.1 a.toNatClampNeg), S.2.2), nI (leastF S.1))
def drS (S : HS) (a : Int32) : HS × Int32 := if fnd S a = false then (S, -14) else ((upn S.1 a.toNatClampNeg 0, S.2.1, S.2.2), 0)
def runs (S : HS) (i : Nat) : Bool := decide (S.1 i ≠ 0 ∧ S.2.1 i 0 1 = 1)
def srch (S : HS) (c : Nat) : Nat → Nat → Nat
  | 0, j => j
  | d + 1, j => if runs S ((c + j) % 8) = true then j else srch S c d (j + 1)
def stp1 (S : HS) (i : Nat) : HS := setM S i (stepS (S.1 i) (S.2.1 i))
/-- one turn: whether there is one, and the house behind it (its steps are counted elsewhere) -/
def turnS (S : HS) : HS × Bool :=
  if ¬ S.2.2 2 = 0 ∧ runs S (S.2.2 1).toNatClampNeg = true then (stp1 (S.1, S.2.1, upd S.2.2 2 (S.2.2 2 - 1)) (S.2.2 1).toNatClampNeg, true)
  else if srch S (S.2.2 1).toNatClampNeg 8 1 = 9 then (S, false)
  else (stp1 (S.1, S.2.1, upd (upd S.2.2 1 (nI (((S.2.2 1).toNatClampNeg + srch S (S.2.2 1).toNatClampNeg 8 1) % 8))) 2 (S.2.2 0 - 1)) (((S.2.2 1).toNatClampNeg + srch S (S.2.2 1).toNatClampNeg 8 1) % 8), true)
def runL : Nat → Nat → HS → HS × Nat
  | 0, k, S => (S, k)
  | d + 1, k, S => if (turnS S).2 = true then runL d (k + 1) (turnS S).1 else (S, k)
def runS (S : HS) (n : Int32) : HS × Int32 := if n < 0 ∨ 2000 < n then (S, -1) else (addSt (runL n.toNatClampNeg 0 S).1 (nI (runL n.toNatClampNeg 0 S).2), nI (runL n.toNatClampNeg 0 S).2)
def onlL (i : Nat) : Nat → Nat → HS → HS × Nat
  | 0, k, S => (S, k)
  | d + 1, k, S => if S.2.1 i 0 1 = 1 then onlL i d (k + 1) (stp1 S i) else (S, k)
def onS (S : HS) (a n : Int32) : HS × Int32 :=
  if fnd S a = false then (S, -14) else if n < 0 ∨ 2000 < n then (S, -1)
  else (addSt (onlL a.toNatClampNeg n.toNatClampNeg 0 S).1 (nI (onlL a.toNatClampNeg n.toNatClampNeg 0 S).2), nI (onlL a.toNatClampNeg n.toNatClampNeg 0 S).2)
def staQ (S : HS) (a : Int32) : Int32 := if fnd S a = false then -14 else S.2.1 a.toNatClampNeg 0 1
def telG (g : GS) (w : Int32) : Int32 :=
  if ¬ w < 0 ∧ w < 8 then g 3 w.toNatClampNeg else if ¬ w < 10 ∧ w < 20 then g 4 (w - 10).toNatClampNeg
  else if w = 8 then g 0 2 else if w = 9 then g 0 3 else if w = 20 then g 0 14 else if w = 21 then g 0 16 else if w = 22 then g 0 4 else if w = 23 then g 0 5 else 0
def tolQ (S : HS) (a w : Int32) : Int32 := if fnd S a = false then 0 else telG (S.2.1 a.toNatClampNeg) w
def pekQ (S : HS) (a x : Int32) : Int32 := if fnd S a = false then 0 else if hasWv (nI (S.1 a.toNatClampNeg)) x = 0 then 0 else S.2.1 a.toNatClampNeg 1 x.toNatClampNeg
def dskQ (S : HS) (a x : Int32) : Int32 := if fnd S a = false then 0 else if x < 0 ∨ ¬ x < 1024 then 0 else S.2.1 a.toNatClampNeg 2 x.toNatClampNeg
def outQ (S : HS) (a x : Int32) : Int32 := if fnd S a = false then 0 else if x < 0 ∨ ¬ x < 1000 ∨ ¬ x < S.2.1 a.toNatClampNeg 0 16 then 0 else S.2.1 a.toNatClampNeg 7 x.toNatClampNeg
def cacQ (S : HS) (a x : Int32) : Int32 := if fnd S a = false then -1 else if x < 0 ∨ ¬ x < 256 then -1 else S.2.1 a.toNatClampNeg 5 x.toNatClampNeg
def cntF (F : Nat → Nat) (n : Nat) : Nat := sumN n (fun i => if F i = 0 then 0 else 1)
def houQ (S : HS) (w : Int32) : Int32 := if w = 0 then S.2.2 1 else if w = 1 then S.2.2 2 else if w = 2 then nI (cntF S.1 8) else if w = 3 then S.2.2 3 else 0
/-! what the calls keep -/
theorem HOK_ins {S : HS} {h sl : Int32} (H : HOK S) : HOK (insS S h sl).1 := by
  unfold insS
  split
  · exact H
  · rename_i c
    have c1 : ¬ sl < 1 := fun q => c (Or.inr (Or.inr (Or.inl q)))
    have c2 : ¬ 1000 < sl := fun q => c (Or.inr (Or.inr (Or.inr q)))
    obtain ⟨x, hx, ex⟩ := nI_of (x := sl) (fun q => c1 (Int32.lt_trans q (by decide)))
    refine ⟨fun i _ => ⟨by show 0 ≤ 64; omega, fun q => absurd rfl q⟩, ⟨7, by decide, rfl⟩, ⟨0, by decide, rfl⟩, ⟨x, ?_, ?_, ?_⟩⟩
    · rcases Nat.eq_zero_or_pos x with q | q
      · subst q; rw [ex] at c1; exact absurd (show nI 0 < 1 by decide) c1
      · exact q
    · rcases Nat.lt_or_ge 1000 x with q | q
      · rw [ex] at c2; exact absurd (show nI 1000 < nI x from nI_lt q hx) c2
      · exact q
    · show upd (upd (upd (upd S.2.2 0 sl) 1 7) 2 0) 3 0 0 = nI x
      rw [upd_n (by decide), upd_n (by decide), upd_n (by decide), upd_s, ex]
theorem GInv_new {F : Nat} : GInv F (newG F) := by
  refine ⟨by show (0 : Int32) &&& 1799 = 0; decide, Or.inl rfl, ?_, fun p hp => Or.inl rfl⟩
  show (if (4 : Nat) = 5 then (-1 : Int32) else if 4 = 4 ∧ 9 = 9 then nI F else 0) = nI F
  rw [if_neg (by decide), if_pos ⟨rfl, rfl⟩]
theorem frm_of {f : Int32} (h : ¬ (f < 1 ∨ 64 < f)) : ∃ n, 1 ≤ n ∧ n ≤ 64 ∧ f = nI n := by
  have c1 : ¬ f < 1 := fun q => h (Or.inl q)
  have c2 : ¬ 64 < f := fun q => h (Or.inr q)
  obtain ⟨x, hx, ex⟩ := nI_of (x := f) (fun q => c1 (Int32.lt_trans q (by decide)))
  refine ⟨x, ?_, ?_, ex⟩
  · rcases Nat.eq_zero_or_pos x with q | q
    · subst q; rw [ex] at c1; exact absurd (show nI 0 < 1 by decide) c1
    · exact q
  · rcases Nat.lt_or_ge 64 x with q | q
    · rw [ex] at c2; exact absurd (show nI 64 < nI x from nI_lt q hx) c2
    · exact q
theorem HOK_new {S : HS} {k n : Nat} {g : GS} (H : HOK S) (hn : n ≤ 64) (hg : n ≠ 0 → GInv n g) : HOK (upn S.1 k n, upm S.2.1 k g, S.2.2) := by
  obtain ⟨h1, h2, h3, h4⟩ := H
  refine ⟨fun j hj => ?_, h2, h3, h4⟩
  show upn S.1 k n j ≤ 64 ∧ (upn S.1 k n j ≠ 0 → GInv (upn S.1 k n j) (upm S.2.1 k g j))
  by_cases e : j = k
  · subst e; rw [upn_s, upm_s]; exact ⟨hn, hg⟩
  · rw [upn_n e, upm_n e]; exact h1 j hj
theorem HOK_gst {S : HS} {f : Int32} (H : HOK S) : HOK (gstS S f).1 := by
  unfold gstS
  split
  · exact H
  · rename_i c
    obtain ⟨n, h1, h2, rfl⟩ := frm_of c
    split
    · exact H
    · rw [nI_clamp (by omega)]
      exact HOK_new H h2 (fun _ => GInv_new)
theorem HOK.inv {S : HS} (H : HOK S) {a : Int32} (h : ¬ fnd S a = false) : GInv (S.1 a.toNatClampNeg) (S.2.1 a.toNatClampNeg) := by
  obtain ⟨i, hi, rfl, h0⟩ := fnd_of (Bool.not_eq_false _ ▸ h)
  rw [nI_clamp (by omega)]
  exact (H.1 i hi).2 h0
theorem HOK_pk {S : HS} {a x v : Int32} (H : HOK S) : HOK (pkS S a x v).1 := by
  unfold pkS
  split
  · exact H
  · rename_i c
    split
    · exact H
    · split
      · exact H
      · exact HOK_set H (fun _ => GInv_r (by decide) (by decide) (by decide) (H.inv c))
theorem HOK_pd {S : HS} {a x v : Int32} (H : HOK S) : HOK (pdS S a x v).1 := by
  unfold pdS
  split
  · exact H
  · rename_i c
    split
    · exact H
    · split
      · exact H
      · exact HOK_set H (fun _ => GInv_r (by decide) (by decide) (by decide) (H.inv c))
theorem GInv_res {F : Nat} {g : GS} {pc : Int32} : GInv F (resG g F pc) := by
  unfold resG
  refine ⟨?_, ?_, ?_, fun p hp => Or.inl ?_⟩
  · rw [gr_o (by decide), gr_o (by decide), gr_s]; show (0 : Int32) &&& 1799 = 0; decide
  · rw [gr_s]; right; rw [upd_n (by decide), upd_n (by decide), upd_s]
  · rw [gr_o (by decide), gr_o (by decide), gr_s]; rfl
  · rw [gr_o (by decide), gr_s]
theorem HOK_sta {S : HS} {a pc : Int32} (H : HOK S) : HOK (stS S a pc).1 := by
  unfold stS
  split
  · exact H
  · split
    · exact H
    · exact HOK_set H (fun _ => GInv_res)
theorem HOK_sp {S : HS} {a : Int32} (H : HOK S) : HOK (spS S a).1 := by
  unfold spS
  split
  · exact H
  · rename_i c
    exact HOK_set H (fun _ => GInv_0 (by decide) (H.inv c))
theorem GInv_ari {F : Nat} {g : GS} {v : Int32} (H : GInv F g) : GInv F (ariS g v) := GInv_0 (by decide) (GInv_r (by decide) (by decide) (by decide) H)
theorem HOK_ip {S : HS} {a v : Int32} (H : HOK S) : HOK (ipS S a v).1 := by
  unfold ipS
  split
  · exact H
  · rename_i c
    split
    · exact H
    · refine HOK_set H (fun _ => ?_)
      split
      · exact GInv_0 (by decide) (GInv_ari (H.inv c))
      · exact GInv_ari (H.inv c)
theorem HOK_cp {S : HS} {a : Int32} (H : HOK S) : HOK (cpS S a).1 := by
  unfold cpS
  split
  · exact H
  · rename_i c
    split
    · exact H
    · obtain ⟨i, hi, rfl, h0⟩ := fnd_of (Bool.not_eq_false _ ▸ c)
      rw [nI_clamp (by omega)]
      exact HOK_new H (H.1 i hi).1 (H.1 i hi).2
theorem HOK_dr {S : HS} {a : Int32} (H : HOK S) : HOK (drS S a).1 := by
  unfold drS
  split
  · exact H
  · obtain ⟨h1, h2, h3, h4⟩ := H
    refine ⟨fun j hj => ?_, h2, h3, h4⟩
    show upn S.1 a.toNatClampNeg 0 j ≤ 64 ∧ (upn S.1 a.toNatClampNeg 0 j ≠ 0 → GInv (upn S.1 a.toNatClampNeg 0 j) (S.2.1 j))
    by_cases e : j = a.toNatClampNeg
    · subst e; rw [upn_s]; exact ⟨by omega, fun q => absurd rfl q⟩
    · rw [upn_n e]; exact h1 j hj
theorem HOK_stp {S : HS} {i : Nat} (H : HOK S) (hi : i < 8) : HOK (stp1 S i) := HOK_set H (fun h => stepS_inv (H.1 i hi).1 ((H.1 i hi).2 h))
theorem HOK_num {S : HS} {f : Nat → Int32} (H : HOK S) (h1 : ∃ c, c < 8 ∧ f 1 = nI c) (h2 : ∃ x, x ≤ 1000 ∧ f 2 = nI x) (h0 : f 0 = S.2.2 0) : HOK (S.1, S.2.1, f) := by
  obtain ⟨g1, g2, g3, g4⟩ := H
  exact ⟨g1, h1, h2, by show ∃ x, 1 ≤ x ∧ x ≤ 1000 ∧ f 0 = nI x; rw [h0]; exact g4⟩
theorem HOK_turn {S : HS} (H : HOK S) : HOK (turnS S).1 := by
  obtain ⟨c, hc, ec⟩ := H.2.1
  obtain ⟨x, hx, ex⟩ := H.2.2.1
  obtain ⟨y, hy1, hy, ey⟩ := H.2.2.2
  unfold turnS
  split
  · rename_i q
    have hx0 : x ≠ 0 := fun e => q.1 (by rw [ex, e]; rfl)
    obtain ⟨x', rfl⟩ : ∃ x', x = x' + 1 := ⟨x - 1, by omega⟩
    refine HOK_stp (HOK_num H ⟨c, hc, by rw [upd_n (by decide)]; exact ec⟩ ⟨x', by omega, by rw [upd_s, ex, nI_pred]⟩ (by rw [upd_n (by decide)])) ?_
    rw [ec, nI_clamp (by omega)]; exact hc
  · split
    · exact H
    · obtain ⟨y', rfl⟩ : ∃ y', y = y' + 1 := ⟨y - 1, by omega⟩
      refine HOK_stp (HOK_num H ⟨_, Nat.mod_lt _ (by decide), by rw [upd_n (by decide), upd_s]⟩ ⟨y', by omega, by rw [upd_s, ey, nI_pred]⟩ (by rw [upd_n (by decide), upd_n (by decide)])) (Nat.mod_lt _ (by decide))
theorem HOK_runL : ∀ (d k : Nat) {S : HS}, HOK S → HOK (runL d k S).1 := by
  intro d
  induction d with
  | zero => intro k S H; exact H
  | succ d ih =>
    intro k S H
    unfold runL
    split
    · exact ih (k + 1) (HOK_turn H)
    · exact H
theorem HOK_run {S : HS} {n : Int32} (H : HOK S) : HOK (runS S n).1 := by
  unfold runS
  split
  · exact H
  · exact HOK_st (HOK_runL _ _ H)
theorem HOK_onlL {i : Nat} (hi : i < 8) : ∀ (d k : Nat) {S : HS}, HOK S → HOK (onlL i d k S).1 := by
  intro d
  induction d with
  | zero => intro k S H; exact H
  | succ d ih =>
    intro k S H
    unfold onlL
    split
    · exact ih (k + 1) (HOK_stp H hi)
    · exact H
theorem HOK_on {S : HS} {a n : Int32} (H : HOK S) : HOK (onS S a n).1 := by
  unfold onS
  split
  · exact H
  · rename_i c
    split
    · exact H
    · obtain ⟨i, hi, rfl, h0⟩ := fnd_of (Bool.not_eq_false _ ▸ c)
      rw [nI_clamp (by omega)]
      exact HOK_st (HOK_onlL hi _ _ H)
/-! ===== the reference shows the house ===== -/
def MRx (X : Sh) : Prop := MI X ∧ (∀ i, i < 8 → BI X i) ∧ (∀ i, i < 8 → X.2.2.1 (100 + i) = true)
def MR (Z : ZT) (S : HS) : Prop :=
  (Z 30 0 1 = S.2.2 0 ∧ Z 30 0 2 = S.2.2 1 ∧ Z 30 0 3 = S.2.2 2 ∧ Z 30 0 4 = S.2.2 3) ∧ ∀ i, i < 8 → (S.1 i = 0 → Z 40 i 1 = 0) ∧ (S.1 i ≠ 0 → Z 40 i 1 = 1 ∧ BRr Z i (S.1 i) (S.2.1 i))
def FM (Z Z' : ZT) : Prop := ∀ c i, c < 30 → Z' c i = Z c i
theorem FM.refl {Z : ZT} : FM Z Z := fun _ _ _ => rfl
theorem FM.trans {Z Z1 Z2 : ZT} (h : FM Z Z1) (k : FM Z1 Z2) : FM Z Z2 := fun c i q => by rw [k c i q, h c i q]
theorem FM.up {Z Z1 : ZT} {c i : Nat} {f : Nat → Int32} (h : FM Z Z1) (hc : 30 ≤ c) : FM Z (upr Z1 c i f) := fun c' i' q => by rw [upr_k (by omega)]; exact h c' i' q
theorem FM.sb {Z Z1 Z2 : ZT} {i : Nat} (h : FM Z Z1) (s : SB Z1 i Z2) : FM Z Z2 := fun c i' q => by rw [s.1 c i' (by omega)]; exact h c i' q
theorem BRr_rows {Z Z' : ZT} {i F : Nat} {g : GS} (h : ∀ c, 40 ≤ c → c ≤ 48 → Z' c i = Z c i) (H : BRr Z i F g) : BRr Z' i F g := by
  unfold BRr
  rw [h 40 (by decide) (by decide), h 41 (by decide) (by decide), h 42 (by decide) (by decide), h 43 (by decide) (by decide), h 44 (by decide) (by decide), h 45 (by decide) (by decide), h 46 (by decide) (by decide), h 47 (by decide) (by decide), h 48 (by decide) (by decide)]
  exact H
theorem MR_set {Z Z' : ZT} {S : HS} {i : Nat} {g : GS} (H : MR Z S) (h0 : S.1 i ≠ 0) (hi : i < 8) (s : SB Z i Z') (hR : BRr Z' i (S.1 i) g) : MR Z' (setM S i g) := by
  obtain ⟨n, m⟩ := H
  refine ⟨by rw [s.1 30 0 (by omega)]; exact n, fun j hj => ?_⟩
  show (S.1 j = 0 → Z' 40 j 1 = 0) ∧ (S.1 j ≠ 0 → Z' 40 j 1 = 1 ∧ BRr Z' j (S.1 j) (upm S.2.1 i g j))
  by_cases e : j = i
  · subst e
    rw [upm_s]
    exact ⟨fun q => absurd q h0, fun q => ⟨by rw [s.2]; exact ((m j hj).2 q).1, hR⟩⟩
  · rw [upm_n e, s.1 40 j (by omega)]
    exact ⟨(m j hj).1, fun q => ⟨((m j hj).2 q).1, BRr_rows (fun c _ _ => s.1 c j (by omega)) ((m j hj).2 q).2⟩⟩
/-- machine k is made, or made anew -/
theorem MR_new {Z Z' : ZT} {S : HS} {k n : Nat} {g : GS} (H : MR Z S) (hn : n ≠ 0) (hfr : ∀ c i', ¬ (i' = k ∧ 40 ≤ c ∧ c ≤ 48) → Z' c i' = Z c i') (h1 : Z' 40 k 1 = 1) (hR : BRr Z' k n g) : MR Z' (upn S.1 k n, upm S.2.1 k g, S.2.2) := by
  obtain ⟨m0, m⟩ := H
  refine ⟨by rw [hfr 30 0 (by omega)]; exact m0, fun j hj => ?_⟩
  show (upn S.1 k n j = 0 → Z' 40 j 1 = 0) ∧ (upn S.1 k n j ≠ 0 → Z' 40 j 1 = 1 ∧ BRr Z' j (upn S.1 k n j) (upm S.2.1 k g j))
  by_cases e : j = k
  · subst e
    rw [upm_s, upn_s]
    exact ⟨fun q => absurd q hn, fun _ => ⟨h1, hR⟩⟩
  · rw [upm_n e, upn_n e, hfr 40 j (by omega)]
    exact ⟨(m j hj).1, fun q => ⟨((m j hj).2 q).1, BRr_rows (fun c _ _ => hfr c j (by omega)) ((m j hj).2 q).2⟩⟩
/-- the house's own numbers -/
theorem MR_num {Z : ZT} {S : HS} {f n : Nat → Int32} (H : MR Z S) (h : f 1 = n 0 ∧ f 2 = n 1 ∧ f 3 = n 2 ∧ f 4 = n 3) : MR (upr Z 30 0 f) (S.1, S.2.1, n) := by
  refine ⟨by rw [upr_s]; exact h, fun j hj => ?_⟩
  show (S.1 j = 0 → upr Z 30 0 f 40 j 1 = 0) ∧ (S.1 j ≠ 0 → upr Z 30 0 f 40 j 1 = 1 ∧ BRr (upr Z 30 0 f) j (S.1 j) (S.2.1 j))
  rw [upr_k (by decide)]
  exact ⟨(H.2 j hj).1, fun q => ⟨((H.2 j hj).2 q).1, BRr_rows (fun c _ _ => upr_k (by omega)) ((H.2 j hj).2 q).2⟩⟩
theorem arefM {X : Sh} {i : Nat} (h : X.2.2.1 (100 + i) = true) : va_rf (if X.2.2.1 (100 + i) = true then some (X.1 40 i) else none) = .ref (X.1 40 i) := by
  rw [if_pos h]; rfl
theorem arefG {X : Sh} {i : Nat} (h : X.2.2.1 i = true) : va_rf (if X.2.2.1 i = true then some (X.1 20 i) else none) = .ref (X.1 20 i) := by
  rw [if_pos h]; rfl
theorem arefN {X : Sh} {i : Nat} (h : ¬ X.2.2.1 i = true) : va_rf (if X.2.2.1 i = true then some (X.1 20 i) else none) = .null := by
  rw [if_neg h]; rfl
