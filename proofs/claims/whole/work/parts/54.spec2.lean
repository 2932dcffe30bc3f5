/-! ===== instructions ===== -/
def fillC (g : GS) : GS := gr g 5 (fillR 256 (-1) (g 5))
def cotS (g : GS) (w nx cn : Int32) : ER :=
  if opc w = 19 then (g, 8 + g 0 3, numS w, nx, cn)
  else if g 0 3 = 0 ∧ g 4 0 &&& 1024 = 0 then (g, 3, w, nx, cn)
  else (gu g 3 (fD w) (g 4 8), 0, 0, nx, cn)
def rcS (g : GS) (w nx cn : Int32) : ER := if numS w < 0 ∨ ¬ numS w < 10 then (g, 2, w, nx, cn) else (gu g 3 (fD w) (g 4 (numS w).toNatClampNeg), 0, 0, nx, cn)
def wcS (g : GS) (w nx cn : Int32) : ER :=
  if numS w < 0 ∨ ¬ numS w < 9 then (g, 2, w, nx, cn)
  else if numS w = 8 then (g, 0, 0, nx, g 3 (fA w) + 1)
  else (if numS w = 5 then fillC (gu g 4 (numS w).toNatClampNeg (if numS w = 0 then g 3 (fA w) &&& 1799 else g 3 (fA w))) else gu g 4 (numS w).toNatClampNeg (if numS w = 0 then g 3 (fA w) &&& 1799 else g 3 (fA w)), 0, 0, nx, cn)
def leaveS (g : GS) : GS := gr (gu g 4 0 (((g 4 0 &&& 1792) ||| 2) ||| (if g 4 0 &&& 2 = 0 then 0 else 1))) 0 (upd (g 0) 3 (if g 4 0 &&& 4 = 0 then 0 else 1))
def waitS (g : GS) (nx cn : Int32) : ER :=
  if ¬ timeUpv (g 4 8) (g 4 6) = 0 ∨ ¬ g 0 14 ≤ 0 then (g, 0, 0, nx, cn)
  else if ¬ g 4 6 = 0 then (g, 0, 0, nx, g 4 6)
  else (gu g 0 1 2, 0, 0, nx, cn)
def popS (g : GS) : GS × Int32 := if ¬ 0 < g 0 14 then (g, 0) else (gr (gu g 0 14 (g 0 14 - 1)) 6 (fun j => g 6 (j + 1)), g 6 0)
def inS (g : GS) (n : Int32) : GS × Int32 := if n = 0 then popS g else if n = 1 then (g, g 0 14) else if n = 2 then (g, g 0 16) else if n = 3 then (g, g 0 4) else (g, 0)
def putS (g : GS) (a : Int32) : GS := gu (if g 0 16 < 0 ∨ 1000 ≤ g 0 16 then g else gu g 7 (g 0 16).toNatClampNeg a) 0 16 (g 0 16 + 1)
def diskS (g : GS) (a : Int32) : GS :=
  if a &&& 1 = 0 then gr g 1 (fun k => if 64 * (g 0 4).toNatClampNeg ≤ k ∧ k < 64 * (g 0 4).toNatClampNeg + 64 then g 2 (64 * secN (a >>> ((1 : Int32) &&& 31)) + (k - 64 * (g 0 4).toNatClampNeg)) else g 1 k)
  else gr g 2 (fun k => if 64 * secN (a >>> ((1 : Int32) &&& 31)) ≤ k ∧ k < 64 * secN (a >>> ((1 : Int32) &&& 31)) + 64 then g 1 (64 * (g 0 4).toNatClampNeg + (k - 64 * secN (a >>> ((1 : Int32) &&& 31)))) else g 2 k)
def outS (F : Nat) (g : GS) (a n : Int32) : GS :=
  if n = 0 then putS g a else if n = 1 then gu g 0 4 a else if n = 2 ∧ ¬ g 0 4 < 0 ∧ ¬ nI F ≤ g 0 4 then diskS g a else g
def supS (F : Nat) (g : GS) (w nx cn : Int32) : ER :=
  if opc w = 21 then rcS g w nx cn
  else if opc w = 22 then wcS g w nx cn
  else if opc w = 23 then (leaveS g, 0, 0, g 4 2, cn)
  else if opc w = 24 then (fillC g, 0, 0, nx, cn)
  else if opc w = 25 then (gu g 5 (g 3 (fA w) &&& 255).toNatClampNeg (-1), 0, 0, nx, cn)
  else if opc w = 26 then waitS g nx cn
  else if opc w = 27 then (gu g 0 1 3, 0, 0, nx, cn)
  else if opc w = 28 then (gu (inS g (numS w)).1 3 (fD w) (inS g (numS w)).2, 0, 0, nx, cn)
  else (outS F g (g 3 (fA w)) (numS w), 0, 0, nx, cn)
def execS (F : Nat) (g : GS) (w nx cn : Int32) : ER :=
  if ¬ 10 < opc w then (gu g 3 (fD w) (sumS (opc w) (g 3 (fA w)) (g 3 (fB w)) (numS w)), 0, 0, nx, cn)
  else if ¬ 13 < opc w then ((useS F g w).1, (useS F g w).2.1, (useS F g w).2.2.1, nx, cn)
  else if ¬ 18 < opc w then ((jumpS g w nx).1, 0, 0, (jumpS g w nx).2, cn)
  else if ¬ 20 < opc w then cotS g w nx cn
  else if ¬ opc w ≤ 29 then (g, 2, w, nx, cn)
  else if g 0 3 = 0 then (g, 3, w, nx, cn)
  else supS F g w nx cn
def finS (r : ER) : GS := if r.2.1 = 0 then gu (gu r.1 0 2 r.2.2.2.1) 4 8 r.2.2.2.2 else trapS r.1 r.2.1 r.2.2.1
def stepS (F : Nat) (g : GS) : GS :=
  if ¬ lineS (g 4 0) (g 4 8) (g 4 6) (g 0 14) = 0 then trapS g (lineS (g 4 0) (g 4 8) (g 4 6) (g 0 14)) 0
  else if ¬ (locS F g (g 0 2) 11).2.1 = 0 then trapS (locS F g (g 0 2) 11).1 (locS F g (g 0 2) 11).2.1 (locS F g (g 0 2) 11).2.2.1
  else finS (execS F (locS F g (g 0 2) 11).1 ((locS F g (g 0 2) 11).1 1 (locS F g (g 0 2) 11).2.2.2.toNatClampNeg) (g 0 2 + 1) (g 4 8 + 1))
/-- the processor's notes behind an instruction -/
def rowE (z : Nat → Int32) (r : ER) : Nat → Int32 := if r.2.1 = 0 then upd (upd z 3 r.2.2.2.1) 4 r.2.2.2.2 else upd (upd z 1 r.2.1) 2 r.2.2.1
theorem upd_id {f : Nat → Int32} {k : Nat} : upd f k (f k) = f := by
  funext j
  by_cases e : j = k
  · subst e; rw [upd_s]
  · rw [upd_n e]
theorem rowE_id {z : Nat → Int32} {g : GS} : rowE z (g, 0, 0, z 3, z 4) = z := by
  unfold rowE
  rw [if_pos rfl, upd_id, upd_id]
/-- bits of a table's word in the cache: eight times the frame, and less than eight -/
theorem nI_or (a b : Nat) : nI a ||| nI b = nI (a ||| b) := by
  apply Int32.toBitVec_inj.mp
  rw [Int32.toBitVec_or]
  show BitVec.ofNat 32 a ||| BitVec.ofNat 32 b = BitVec.ofNat 32 (a ||| b)
  exact (BitVec.ofNat_or).symm
theorem small_and (x : Int32) (k : Nat) (m : Int32) (hm : m.toBitVec.toNat = 2 ^ k - 1) : ∃ j, j < 2 ^ k ∧ x &&& m = nI j := pk_andE x k hm
theorem and4 (x : Int32) : x &&& 4 = nI 0 ∨ x &&& 4 = nI 4 := by
  obtain ⟨n, hn, rfl⟩ : ∃ n, n < 2 ^ 32 ∧ x = nI n := ⟨x.toBitVec.toNat, x.toBitVec.isLt, by
    apply Int32.toBitVec_inj.mp
    show x.toBitVec = BitVec.ofNat 32 x.toBitVec.toNat
    rw [BitVec.ofNat_toNat, BitVec.setWidth_eq]⟩
  have e : nI n &&& 4 = nI (n &&& 4) := by
    apply Int32.toBitVec_inj.mp
    rw [Int32.toBitVec_and]
    show BitVec.ofNat 32 n &&& BitVec.ofNat 32 4 = BitVec.ofNat 32 (n &&& 4)
    exact (BitVec.ofNat_and).symm
  rw [e]
  have h : n &&& 4 = 0 ∨ n &&& 4 = 4 := by
    have h4 : n &&& 4 = (n &&& 7) &&& 4 := by
      rw [Nat.and_assoc]; rfl
    have h7 : n &&& 7 = n % 8 := Nat.and_two_pow_sub_one_eq_mod n 3
    rw [h4, h7]
    have h8 : n % 8 < 8 := Nat.mod_lt _ (by decide)
    generalize n % 8 = r at h8 ⊢
    have : ∀ r : Fin 8, r.val &&& 4 = 0 ∨ r.val &&& 4 = 4 := by decide
    exact this ⟨r, h8⟩
  rcases h with h | h
  · left; rw [h]
  · right; rw [h]
theorem ent_nI {w : Int32} {f F : Nat} (hf : (w >>> ((8 : Int32) &&& 31)) &&& 63 = nI f) (hfF : f < F) (hF : F ≤ 64) : ∃ e, e < 8 * F ∧ e / 8 = f ∧ entS w = nI e := by
  unfold entS
  obtain ⟨x, hx, ex⟩ := small_and (w >>> ((1 : Int32) &&& 31)) 2 3 (by decide)
  rw [hf, ex, pk_shlN (3 &&& 31) 3 (by decide) (by omega)]
  have key : ∀ y, y < 8 → f * 2 ^ 3 ||| x ||| y < 8 * F ∧ (f * 2 ^ 3 ||| x ||| y) / 8 = f := by
    intro y hy
    have h1 : x ||| y < 2 ^ 3 := Nat.or_lt_two_pow (by omega) hy
    have h2 : f * 2 ^ 3 ||| x ||| y = 2 ^ 3 * f + (x ||| y) := by
      rw [Nat.or_assoc, Nat.mul_comm, Nat.two_pow_add_eq_or_of_lt h1]
    rw [h2]
    omega
  rcases and4 (w >>> ((2 : Int32) &&& 31)) with q | q <;> rw [q, nI_or, nI_or]
  · exact ⟨_, (key 0 (by decide)).1, (key 0 (by decide)).2, rfl⟩
  · exact ⟨_, (key 4 (by decide)).1, (key 4 (by decide)).2, rfl⟩
