/-! ===== Int32 by its bits: bt x i ===== -/
def bt (x : Int32) (i : Nat) : Bool := x.toBitVec.getLsbD i
theorem b_ext {x y : Int32} (h : ∀ i, i < 32 → bt x i = bt y i) : x = y := Int32.toBitVec_inj.mp (BitVec.eq_of_getLsbD_eq (fun i hi => h i hi))
theorem b_or (x y : Int32) (i : Nat) : bt (x ||| y) i = (bt x i || bt y i) := by unfold bt; rw [Int32.toBitVec_or, BitVec.getLsbD_or]
theorem b_and (x y : Int32) (i : Nat) : bt (x &&& y) i = (bt x i && bt y i) := by unfold bt; rw [Int32.toBitVec_and, BitVec.getLsbD_and]
theorem b_xor (x y : Int32) (i : Nat) : bt (x ^^^ y) i = (bt x i ^^ bt y i) := by unfold bt; rw [Int32.toBitVec_xor, BitVec.getLsbD_xor]
theorem b_big {x : Int32} {i : Nat} (h : 32 ≤ i) : bt x i = false := BitVec.getLsbD_of_ge _ _ h
theorem b_255 (i : Nat) : bt 255 i = decide (i < 8) := by
  rcases Nat.lt_or_ge i 32 with h | h
  · exact (by decide +kernel : ∀ i, i < 32 → bt 255 i = decide (i < 8)) i h
  · rw [b_big h, decide_eq_false (by omega)]
theorem b_65535 (i : Nat) : bt 65535 i = decide (i < 16) := by
  rcases Nat.lt_or_ge i 32 with h | h
  · exact (by decide +kernel : ∀ i, i < 32 → bt 65535 i = decide (i < 16)) i h
  · rw [b_big h, decide_eq_false (by omega)]
theorem b_m1 : ∀ i, i < 32 → bt (-1) i = true := by decide +kernel
theorem b_0 (i : Nat) : bt 0 i = false := BitVec.getLsbD_zero
theorem s_l : ∀ n, n < 32 → ((nI n &&& 31).toBitVec.smod 32).toNat = n := by decide +kernel
theorem s_u : ∀ n, n < 32 → (((nI n).toUInt32 &&& Int32.toUInt32 31).toBitVec % 32).toNat = n := by decide +kernel
theorem b_shl (n : Nat) (hn : n < 32) (x : Int32) {i : Nat} (hi : i < 32) : bt (x <<< (nI n &&& 31)) i = (decide (n ≤ i) && bt x (i - n)) := by
  unfold bt
  rw [Int32.toBitVec_shiftLeft]
  show (x.toBitVec <<< ((nI n &&& 31).toBitVec.smod 32).toNat).getLsbD i = _
  rw [s_l n hn, BitVec.getLsbD_shiftLeft]
  rcases Nat.lt_or_ge i n with h | h
  · simp [h, Nat.not_le.mpr h]
  · simp [hi, h, Nat.not_lt.mpr h]
theorem b_ushr (n : Nat) (hn : n < 32) (x : Int32) (i : Nat) : bt ((x.toUInt32 >>> ((nI n).toUInt32 &&& Int32.toUInt32 31)).toInt32) i = bt x (n + i) := by
  show (x.toUInt32 >>> ((nI n).toUInt32 &&& Int32.toUInt32 31)).toBitVec.getLsbD i = x.toUInt32.toBitVec.getLsbD (n + i)
  rw [UInt32.toBitVec_shiftRight]
  show (x.toUInt32.toBitVec >>> (((nI n).toUInt32 &&& Int32.toUInt32 31).toBitVec % 32).toNat).getLsbD i = _
  rw [s_u n hn, BitVec.getLsbD_ushiftRight]
theorem b_sshr (n : Nat) (hn : n < 32) (x : Int32) {i : Nat} (hi : i < 32) : bt (x >>> (nI n &&& 31)) i = if n + i < 32 then bt x (n + i) else bt x 31 := by
  unfold bt
  rw [Int32.toBitVec_shiftRight]
  show (x.toBitVec.sshiftRight ((nI n &&& 31).toBitVec.smod 32).toNat).getLsbD i = _
  rw [s_l n hn, BitVec.getLsbD_sshiftRight, BitVec.msb_eq_getLsbD_last]
  simp [hi]
theorem b_shl8 (x : Int32) {i : Nat} (hi : i < 32) : bt (x <<< ((8 : Int32) &&& 31)) i = (decide (8 ≤ i) && bt x (i - 8)) := b_shl 8 (by omega) x hi
theorem b_shl16 (x : Int32) {i : Nat} (hi : i < 32) : bt (x <<< ((16 : Int32) &&& 31)) i = (decide (16 ≤ i) && bt x (i - 16)) := b_shl 16 (by omega) x hi
theorem b_shl24 (x : Int32) {i : Nat} (hi : i < 32) : bt (x <<< ((24 : Int32) &&& 31)) i = (decide (24 ≤ i) && bt x (i - 24)) := b_shl 24 (by omega) x hi
theorem b_sshr8 (x : Int32) {i : Nat} (hi : i < 32) : bt (x >>> ((8 : Int32) &&& 31)) i = if 8 + i < 32 then bt x (8 + i) else bt x 31 := b_sshr 8 (by omega) x hi
/-! ===== bits that the two machines speak of in two ways ===== -/
theorem b_7 : ∀ i, i < 32 → bt 7 i = decide (i < 3) := by decide +kernel
theorem b_1 : ∀ i, i < 32 → bt 1 i = decide (i = 0) := by decide +kernel
theorem sa7 (w : Int32) (k : Nat) (hk : k ≤ 29) : (w >>> (nI k &&& 31)) &&& 7 = ush w (nI k) &&& 7 := by
  apply b_ext
  intro i hi
  rw [b_and, b_and, b_7 i hi, b_sshr k (by omega) w hi]
  show _ = (bt ((w.toUInt32 >>> ((nI k).toUInt32 &&& Int32.toUInt32 31)).toInt32) i && _)
  rw [b_ushr k (by omega) w i]
  by_cases q : i < 3
  · rw [if_pos (by omega)]
  · rw [decide_eq_false q, Bool.and_false, Bool.and_false]
theorem bit_of {M : Int32} {k : Nat} (hM : ∀ i, i < 32 → bt M i = decide (i = k)) (x : Int32) : x &&& M = if bt x k = true then M else 0 := by
  apply b_ext
  intro i hi
  rw [b_and, hM i hi]
  by_cases q : i = k
  · subst q
    rw [decide_eq_true rfl, Bool.and_true]
    by_cases c : bt x i = true
    · rw [if_pos c, c, hM i hi, decide_eq_true rfl]
    · rw [if_neg c, b_0]; exact Bool.eq_false_iff.mpr c
  · rw [decide_eq_false q, Bool.and_false]
    split
    · rw [hM i hi, decide_eq_false q]
    · rw [b_0]
theorem sbit (x : Int32) (k : Nat) (hk : k < 31) : (x >>> (nI k &&& 31)) &&& 1 = if bt x k = true then 1 else 0 := by
  rw [bit_of (k := 0) b_1, b_sshr k (by omega) x (by decide), if_pos (show k + 0 < 32 by omega)]
  rfl
theorem hasSt {x M : Int32} {k : Nat} (hk : k < 31) (hM : ∀ i, i < 32 → bt M i = decide (i = k)) (h0 : M ≠ 0) : (x >>> (nI k &&& 31)) &&& 1 = if x &&& M = 0 then 0 else 1 := by
  rw [sbit x k hk, bit_of hM]
  by_cases c : bt x k = true
  · rw [if_pos c, if_pos c, if_neg h0]
  · rw [if_neg c, if_neg c, if_pos rfl]
theorem k_0 : ∀ i, i < 32 → bt 1 i = decide (i = 0) := b_1
theorem k_1 : ∀ i, i < 32 → bt 2 i = decide (i = 1) := by decide +kernel
theorem k_2 : ∀ i, i < 32 → bt 4 i = decide (i = 2) := by decide +kernel
theorem k_8 : ∀ i, i < 32 → bt 256 i = decide (i = 8) := by decide +kernel
theorem k_9 : ∀ i, i < 32 → bt 512 i = decide (i = 9) := by decide +kernel
theorem k_10 : ∀ i, i < 32 → bt 1024 i = decide (i = 10) := by decide +kernel
theorem m8 : ∀ i, i < 32 → (bt 1799 i && bt (-8) i) = bt 1792 i := by decide +kernel
theorem and_m8 {x : Int32} (h : x &&& 1799 = x) : x &&& (-8) = x &&& 1792 := by
  apply b_ext
  intro i hi
  have e : bt x i = (bt x i && bt 1799 i) := by rw [← b_and, h]
  rw [b_and, b_and, ← m8 i hi, ← Bool.and_assoc, ← e]
theorem or_as (a b c : Int32) : (a ||| b) ||| c = a ||| (b ||| c) := b_ext (fun i _ => by rw [b_or, b_or, b_or, b_or, Bool.or_assoc])
theorem or_cm (a b : Int32) : a ||| b = b ||| a := b_ext (fun i _ => by rw [b_or, b_or, Bool.or_comm])
/-- the status behind a trap, and behind its end -/
theorem st_trap {x m : Int32} (h : x &&& 1799 = x) (hm : m = 0 ∨ m = 1) : ((x &&& (-8)) ||| ((x &&& 1) <<< ((1 : Int32) &&& 31))) ||| (m <<< ((2 : Int32) &&& 31)) = (x &&& 1792) ||| ((if x &&& 1 = 0 then 0 else 2) ||| (if m = 0 then 0 else 4)) := by
  rw [and_m8 h, or_as]
  have e1 : (x &&& 1) <<< ((1 : Int32) &&& 31) = if x &&& 1 = 0 then 0 else 2 := by
    rw [bit_of k_0]
    by_cases c : bt x 0 = true
    · rw [if_pos c, if_neg (by decide)]; decide +kernel
    · rw [if_neg c, if_pos rfl]; decide +kernel
  have e2 : m <<< ((2 : Int32) &&& 31) = if m = 0 then 0 else 4 := by
    rcases hm with q | q <;> rw [q] <;> decide +kernel
  rw [e1, e2]
theorem st_leave {x : Int32} (h : x &&& 1799 = x) : ((x &&& (-8)) ||| ((x >>> ((1 : Int32) &&& 31)) &&& 1)) ||| 2 = ((x &&& 1792) ||| 2) ||| (if x &&& 2 = 0 then 0 else 1) := by
  rw [and_m8 h, show (x >>> ((1 : Int32) &&& 31)) &&& 1 = if x &&& 2 = 0 then 0 else 1 from hasSt (by decide) k_1 (by decide), or_as, or_as, or_cm (if x &&& 2 = 0 then (0 : Int32) else 1) 2]
/-- an entry of the cache: a frame and three bits -/
theorem eb_1 : ∀ f : Fin 64, ∀ b : Fin 8, nI (8 * f.val + b.val) &&& 1 = nI b.val &&& 1 := by decide +kernel
theorem eb_2 : ∀ f : Fin 64, ∀ b : Fin 8, nI (8 * f.val + b.val) &&& 2 = nI b.val &&& 2 := by decide +kernel
theorem eb_4 : ∀ f : Fin 64, ∀ b : Fin 8, nI (8 * f.val + b.val) &&& 4 = nI b.val &&& 4 := by decide +kernel
theorem eb_o : ∀ f : Fin 64, ∀ b : Fin 8, nI (8 * f.val + b.val) ||| 4 = nI (8 * f.val + (b.val ||| 4)) := by decide +kernel
theorem eb_b : ∀ b : Fin 8, b.val ||| 4 < 8 ∧ nI b.val ||| 4 = nI (b.val ||| 4) := by decide +kernel
theorem ent_fb (w : Int32) : ∃ f b, f < 64 ∧ b < 8 ∧ (w >>> ((8 : Int32) &&& 31)) &&& 63 = nI f ∧ ((w >>> ((1 : Int32) &&& 31)) &&& 3) ||| ((w >>> ((2 : Int32) &&& 31)) &&& 4) = nI b ∧ entS w = nI (8 * f + b) := by
  obtain ⟨f, hf, ef⟩ := small_and (w >>> ((8 : Int32) &&& 31)) 6 63 (by decide)
  obtain ⟨x, hx, ex⟩ := small_and (w >>> ((1 : Int32) &&& 31)) 2 3 (by decide)
  have key : ∀ y, y < 8 → (w >>> ((2 : Int32) &&& 31)) &&& 4 = nI y → ∃ f b, f < 64 ∧ b < 8 ∧ (w >>> ((8 : Int32) &&& 31)) &&& 63 = nI f ∧ ((w >>> ((1 : Int32) &&& 31)) &&& 3) ||| ((w >>> ((2 : Int32) &&& 31)) &&& 4) = nI b ∧ entS w = nI (8 * f + b) := by
    intro y hy ey
    have h1 : x ||| y < 2 ^ 3 := Nat.or_lt_two_pow (by omega) hy
    refine ⟨f, x ||| y, hf, h1, ef, by rw [ex, ey, nI_or], ?_⟩
    unfold entS
    rw [ef, ex, ey, pk_shlN (3 &&& 31) 3 (by decide) (by omega), nI_or, nI_or, Nat.or_assoc, Nat.mul_comm f, ← Nat.two_pow_add_eq_or_of_lt h1]
  rcases and4 (w >>> ((2 : Int32) &&& 31)) with q | q
  · exact key 0 (by decide) q
  · exact key 4 (by decide) q
/-- below, without a sign -/
theorem bias (x : Int32) : (x + (-2147483648)).toInt = if x.toInt < 0 then x.toInt + 2147483648 else x.toInt - 2147483648 := by
  rw [Int32.toInt_add, show (-2147483648 : Int32).toInt = -2147483648 by decide]
  have h1 := x.toInt_lt
  have h2 := x.le_toInt
  rw [Int.bmod_def]
  split <;> split <;> omega
theorem blw {a b : Int32} (hb : ¬ b < 0) : b + (-2147483648) ≤ a + (-2147483648) ↔ a < 0 ∨ b ≤ a := by
  rw [Int32.le_iff_toInt_le, bias, bias, Int32.le_iff_toInt_le, Int32.lt_iff_toInt_lt]
  rw [Int32.lt_iff_toInt_lt] at hb
  rw [show (0 : Int32).toInt = 0 by decide] at hb ⊢
  have h1 := a.toInt_lt
  have h2 := b.toInt_lt
  have h3 := a.le_toInt
  rw [if_neg hb]
  split <;> omega
theorem div64 {n : Nat} (h : n < 2 ^ 31) : nI n / 64 = nI (n / 64) := by
  apply Int32.toInt_inj.mp
  rw [Int32.toInt_div_of_ne_right _ _ (by decide), nI_toInt h, nI_toInt (by omega), show (64 : Int32).toInt = 64 by decide]
  rw [Int.tdiv_eq_ediv_of_nonneg (by omega)]
  omega
