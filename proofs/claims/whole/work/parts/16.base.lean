/-! ===== the roles of a module, and small words ===== -/
def HXI (X : Sh) : Prop := ∀ c, c ≤ 12 → (c, 0) ∈ X.2.2.2
def GI (X : Sh) (i : Nat) : Prop := ∀ c, 20 ≤ c → c ≤ 27 → (c, i) ∈ X.2.2.2
def MI (X : Sh) : Prop := ∀ c, 30 ≤ c → c ≤ 31 → (c, 0) ∈ X.2.2.2
def BI (X : Sh) (i : Nat) : Prop := ∀ c, 40 ≤ c → c ≤ 48 → (c, i) ∈ X.2.2.2
theorem upr_uu {Z : ZT} {c i : Nat} {f g : Nat → Int32} : upr (upr Z c i f) c i g = upr Z c i g := by
  funext c' i'
  simp only [upr]
  split <;> rfl
theorem upr_id {Z : ZT} {c i : Nat} : upr Z c i (Z c i) = Z := by
  funext c' i'
  simp only [upr]
  split
  · rename_i h; rw [h.1, h.2]
  · rfl
theorem upr_cm {Z : ZT} {c i c' i' : Nat} {f g : Nat → Int32} (h : c ≠ c') : upr (upr Z c i f) c' i' g = upr (upr Z c' i' g) c i f := by
  funext a b
  simp only [upr]
  by_cases h1 : a = c' ∧ b = i'
  · rw [if_pos h1, if_neg (fun q => h (q.1.symm.trans h1.1)), if_pos h1]
  · rw [if_neg h1, if_neg h1]
theorem vpr {x N : Int32} {n : Nat} (hN : N.toInt = n) (h0 : ¬ x < 0) (h1 : ¬ N ≤ x) : vp_in x n := by
  rw [vp_in_iff]
  rw [Int32.lt_iff_toInt_lt] at h0
  rw [Int32.le_iff_toInt_le] at h1
  have : (0 : Int32).toInt = 0 := by decide
  omega
theorem vp63 (x : Int32) : vp_in (x &&& 63) 64 := pk_andIn x 6 (by decide) (by decide)
theorem vp7 (x : Int32) : vp_in (x &&& 7) 8 := pk_andIn x 3 (by decide) (by decide)
theorem vp255 (x : Int32) : vp_in (x &&& 255) 256 := pk_andIn x 8 (by decide) (by decide)
def hasWv (F a : Int32) : Int32 := if a < 0 then 0 else if 64 * F ≤ a then 0 else 1
def timeUpv (C T : Int32) : Int32 := if T = 0 then 0 else if C - T < 0 then 0 else 1
