/-! ===== machine i of the reference shows the machine g ===== -/
def CE (f b e : Int32) : Prop := (f < 0 ∧ e = -1) ∨ ∃ fn bn, fn < 64 ∧ bn < 8 ∧ f = nI fn ∧ b = nI bn ∧ e = nI (8 * fn + bn)
def BRr (Z : ZT) (i F : Nat) (g : GS) : Prop :=
  (Z 40 i 0 = nI F ∧ Z 40 i 12 = g 0 1 ∧ Z 40 i 10 = g 0 2 ∧ Z 40 i 11 = g 0 3 ∧ Z 40 i 13 = g 0 4 ∧ Z 40 i 16 = g 0 5 ∧ Z 40 i 14 = g 0 14 ∧ Z 40 i 15 = g 0 16) ∧
  (∀ a, a < 64 * F → Z 41 i a = g 1 a) ∧ (∀ k, k < 1024 → Z 42 i k = g 2 k) ∧ (∀ k, k < 8 → Z 43 i k = g 3 k) ∧ (∀ k, k < 9 → Z 44 i k = g 4 k) ∧ (∀ k, k < 256 → CE (Z 45 i k) (Z 46 i k) (g 5 k)) ∧
  (∃ w, w ≤ 64 ∧ Z 40 i 14 = nI w ∧ ∀ j, j < w → Z 47 i j = g 6 j) ∧ (∀ j, j < 1000 → nI j < Z 40 i 15 → Z 48 i j = g 7 j)
/-- only machine i has moved, and it is there as before -/
def SB (Z : ZT) (i : Nat) (Z' : ZT) : Prop := (∀ c i', ¬ (i' = i ∧ 40 ≤ c ∧ c ≤ 48) → Z' c i' = Z c i') ∧ Z' 40 i 1 = Z 40 i 1
theorem SB.refl {Z : ZT} {i : Nat} : SB Z i Z := ⟨fun _ _ _ => rfl, rfl⟩
theorem SB.trans {Z Z1 Z2 : ZT} {i : Nat} (S : SB Z i Z1) (T : SB Z1 i Z2) : SB Z i Z2 := ⟨fun c i' q => by rw [T.1 c i' q, S.1 c i' q], by rw [T.2, S.2]⟩
theorem SB.up {Z Z1 : ZT} {i c : Nat} {f : Nat → Int32} (S : SB Z i Z1) (h1 : 41 ≤ c) (h2 : c ≤ 48) : SB Z i (upr Z1 c i f) := S.trans ⟨fun c' i' q => upr_n (fun e => q ⟨e.2, by omega, by omega⟩), by rw [upr_k (by omega)]⟩
theorem SB.u40 {Z Z1 : ZT} {i k : Nat} {x : Int32} (S : SB Z i Z1) (h1 : k ≠ 1) : SB Z i (upr Z1 40 i (upd (Z1 40 i) k x)) := S.trans ⟨fun c' i' q => upr_n (fun e => q ⟨e.2, by omega, by omega⟩), by rw [upr_s, upd_n (Ne.symm h1)]⟩
section BRX
variable {Z : ZT} {i F d : Nat} {g : GS} {x : Int32}
theorem BRr.k (H : BRr Z i F g) {k : Nat} (h : k < 9) : Z 44 i k = g 4 k := H.2.2.2.2.1 k h
theorem BRr.r (H : BRr Z i F g) {k : Nat} (h : k < 8) : Z 43 i k = g 3 k := H.2.2.2.1 k h
theorem BRr.m (H : BRr Z i F g) {k : Nat} (h : k < 64 * F) : Z 41 i k = g 1 k := H.2.1 k h
theorem BR_43 (H : BRr Z i F g) : BRr (upr Z 43 i (upd (Z 43 i) d x)) i F (gu g 3 d x) := by
  obtain ⟨h0, h1, h2, h3, h4, h5, h6, h7⟩ := H
  unfold BRr
  simp only [upr_k (show (40 : Nat) ≠ 43 by decide), upr_k (show (41 : Nat) ≠ 43 by decide), upr_k (show (42 : Nat) ≠ 43 by decide), upr_k (show (44 : Nat) ≠ 43 by decide), upr_k (show (45 : Nat) ≠ 43 by decide), upr_k (show (46 : Nat) ≠ 43 by decide), upr_k (show (47 : Nat) ≠ 43 by decide), upr_k (show (48 : Nat) ≠ 43 by decide), upr_s, gu_s,
    gu_o (show (0 : Nat) ≠ 3 by decide), gu_o (show (1 : Nat) ≠ 3 by decide), gu_o (show (2 : Nat) ≠ 3 by decide), gu_o (show (4 : Nat) ≠ 3 by decide), gu_o (show (5 : Nat) ≠ 3 by decide), gu_o (show (6 : Nat) ≠ 3 by decide), gu_o (show (7 : Nat) ≠ 3 by decide)]
  exact ⟨h0, h1, h2, upd_eq h3, h4, h5, h6, h7⟩
theorem BR_44 (H : BRr Z i F g) : BRr (upr Z 44 i (upd (Z 44 i) d x)) i F (gu g 4 d x) := by
  obtain ⟨h0, h1, h2, h3, h4, h5, h6, h7⟩ := H
  unfold BRr
  simp only [upr_k (show (40 : Nat) ≠ 44 by decide), upr_k (show (41 : Nat) ≠ 44 by decide), upr_k (show (42 : Nat) ≠ 44 by decide), upr_k (show (43 : Nat) ≠ 44 by decide), upr_k (show (45 : Nat) ≠ 44 by decide), upr_k (show (46 : Nat) ≠ 44 by decide), upr_k (show (47 : Nat) ≠ 44 by decide), upr_k (show (48 : Nat) ≠ 44 by decide), upr_s, gu_s,
    gu_o (show (0 : Nat) ≠ 4 by decide), gu_o (show (1 : Nat) ≠ 4 by decide), gu_o (show (2 : Nat) ≠ 4 by decide), gu_o (show (3 : Nat) ≠ 4 by decide), gu_o (show (5 : Nat) ≠ 4 by decide), gu_o (show (6 : Nat) ≠ 4 by decide), gu_o (show (7 : Nat) ≠ 4 by decide)]
  exact ⟨h0, h1, h2, h3, upd_eq h4, h5, h6, h7⟩
theorem BR_41 (H : BRr Z i F g) : BRr (upr Z 41 i (upd (Z 41 i) d x)) i F (gu g 1 d x) := by
  obtain ⟨h0, h1, h2, h3, h4, h5, h6, h7⟩ := H
  unfold BRr
  simp only [upr_k (show (40 : Nat) ≠ 41 by decide), upr_k (show (44 : Nat) ≠ 41 by decide), upr_k (show (42 : Nat) ≠ 41 by decide), upr_k (show (43 : Nat) ≠ 41 by decide), upr_k (show (45 : Nat) ≠ 41 by decide), upr_k (show (46 : Nat) ≠ 41 by decide), upr_k (show (47 : Nat) ≠ 41 by decide), upr_k (show (48 : Nat) ≠ 41 by decide), upr_s, gu_s,
    gu_o (show (0 : Nat) ≠ 1 by decide), gu_o (show (4 : Nat) ≠ 1 by decide), gu_o (show (2 : Nat) ≠ 1 by decide), gu_o (show (3 : Nat) ≠ 1 by decide), gu_o (show (5 : Nat) ≠ 1 by decide), gu_o (show (6 : Nat) ≠ 1 by decide), gu_o (show (7 : Nat) ≠ 1 by decide)]
  exact ⟨h0, upd_eq h1, h2, h3, h4, h5, h6, h7⟩
/-- the cache's row, whatever becomes of it -/
theorem BR_c {f b e : Nat → Int32} (H : BRr Z i F g) (h : ∀ k, k < 256 → CE (f k) (b k) (e k)) : BRr (upr (upr Z 45 i f) 46 i b) i F (gr g 5 e) := by
  obtain ⟨h0, h1, h2, h3, h4, h5, h6, h7⟩ := H
  unfold BRr
  simp only [upr_k (show (40 : Nat) ≠ 45 by decide), upr_k (show (41 : Nat) ≠ 45 by decide), upr_k (show (44 : Nat) ≠ 45 by decide), upr_k (show (42 : Nat) ≠ 45 by decide), upr_k (show (43 : Nat) ≠ 45 by decide), upr_k (show (45 : Nat) ≠ 46 by decide), upr_k (show (46 : Nat) ≠ 45 by decide), upr_k (show (47 : Nat) ≠ 45 by decide), upr_k (show (48 : Nat) ≠ 45 by decide),
    upr_k (show (40 : Nat) ≠ 46 by decide), upr_k (show (41 : Nat) ≠ 46 by decide), upr_k (show (44 : Nat) ≠ 46 by decide), upr_k (show (42 : Nat) ≠ 46 by decide), upr_k (show (43 : Nat) ≠ 46 by decide), upr_k (show (47 : Nat) ≠ 46 by decide), upr_k (show (48 : Nat) ≠ 46 by decide), upr_s, gr_s,
    gr_o (show (0 : Nat) ≠ 5 by decide), gr_o (show (4 : Nat) ≠ 5 by decide), gr_o (show (2 : Nat) ≠ 5 by decide), gr_o (show (3 : Nat) ≠ 5 by decide), gr_o (show (1 : Nat) ≠ 5 by decide), gr_o (show (6 : Nat) ≠ 5 by decide), gr_o (show (7 : Nat) ≠ 5 by decide)]
  exact ⟨h0, h1, h2, h3, h4, h, h6, h7⟩
theorem BR_45 {f e : Nat → Int32} (H : BRr Z i F g) (h : ∀ k, k < 256 → CE (f k) (Z 46 i k) (e k)) : BRr (upr Z 45 i f) i F (gr g 5 e) := by
  have q := BR_c (f := f) (b := Z 46 i) (e := e) H h
  rw [show Z 46 i = upr Z 45 i f 46 i from (upr_k (by decide)).symm, upr_id] at q
  exact q
theorem BR_46 {b e : Nat → Int32} (H : BRr Z i F g) (h : ∀ k, k < 256 → CE (Z 45 i k) (b k) (e k)) : BRr (upr Z 46 i b) i F (gr g 5 e) := by
  have q := BR_c (f := Z 45 i) (b := b) (e := e) H h
  rw [upr_id] at q
  exact q
theorem gu_gr {r k : Nat} {v : Int32} : gu g r k v = gr g r (upd (g r) k v) := rfl
/-- numbers of the machine, and notes -/
theorem BR_40 {f : Nat → Int32} {n : Nat → Int32} (H : BRr Z i F g) (h0 : f 0 = Z 40 i 0) (h14 : f 14 = Z 40 i 14) (h15 : f 15 = Z 40 i 15) (n14 : n 14 = g 0 14) (n16 : n 16 = g 0 16) (hn : f 12 = n 1 ∧ f 10 = n 2 ∧ f 11 = n 3 ∧ f 13 = n 4 ∧ f 16 = n 5) : BRr (upr Z 40 i f) i F (gr g 0 n) := by
  obtain ⟨⟨a0, a1, a2, a3, a4, a5, a6, a7⟩, h1, h2, h3, h4, h5, h6, h7⟩ := H
  unfold BRr
  simp only [upr_k (show (41 : Nat) ≠ 40 by decide), upr_k (show (44 : Nat) ≠ 40 by decide), upr_k (show (42 : Nat) ≠ 40 by decide), upr_k (show (43 : Nat) ≠ 40 by decide), upr_k (show (45 : Nat) ≠ 40 by decide), upr_k (show (46 : Nat) ≠ 40 by decide), upr_k (show (47 : Nat) ≠ 40 by decide), upr_k (show (48 : Nat) ≠ 40 by decide), upr_s, gr_s,
    gr_o (show (5 : Nat) ≠ 0 by decide), gr_o (show (4 : Nat) ≠ 0 by decide), gr_o (show (2 : Nat) ≠ 0 by decide), gr_o (show (3 : Nat) ≠ 0 by decide), gr_o (show (1 : Nat) ≠ 0 by decide), gr_o (show (6 : Nat) ≠ 0 by decide), gr_o (show (7 : Nat) ≠ 0 by decide), h0, h14, h15, n14, n16]
  exact ⟨⟨a0, hn.1, hn.2.1, hn.2.2.1, hn.2.2.2.1, hn.2.2.2.2, a6, a7⟩, h1, h2, h3, h4, h5, h6, h7⟩
theorem BRr.n (H : BRr Z i F g) : Z 40 i 12 = g 0 1 ∧ Z 40 i 10 = g 0 2 ∧ Z 40 i 11 = g 0 3 ∧ Z 40 i 13 = g 0 4 ∧ Z 40 i 16 = g 0 5 := ⟨H.1.2.1, H.1.2.2.1, H.1.2.2.2.1, H.1.2.2.2.2.1, H.1.2.2.2.2.2.1⟩
/-- a note -/
theorem BR_nt (H : BRr Z i F g) (hd : 17 ≤ d) : BRr (upr Z 40 i (upd (Z 40 i) d x)) i F g := by
  have u : ∀ k, k < 17 → upd (Z 40 i) d x k = Z 40 i k := fun k q => upd_n (by omega)
  have q := BR_40 (f := upd (Z 40 i) d x) (n := g 0) H (u 0 (by decide)) (u 14 (by decide)) (u 15 (by decide)) rfl rfl (by rw [u 12 (by decide), u 10 (by decide), u 11 (by decide), u 13 (by decide), u 16 (by decide)]; exact H.n)
  rw [gr_id] at q
  exact q
/-- number d of the reference is number d' of the machine -/
def nmB (d d' : Nat) : Bool := (d == 12 && d' == 1) || (d == 10 && d' == 2) || (d == 11 && d' == 3) || (d == 13 && d' == 4) || (d == 16 && d' == 5)
theorem BR_n {d' : Nat} (H : BRr Z i F g) (hd : nmB d d' = true) : BRr (upr Z 40 i (upd (Z 40 i) d x)) i F (gu g 0 d' x) := by
  have hd2 : (d = 12 ∧ d' = 1) ∨ (d = 10 ∧ d' = 2) ∨ (d = 11 ∧ d' = 3) ∨ (d = 13 ∧ d' = 4) ∨ (d = 16 ∧ d' = 5) := by
    simp [nmB] at hd; omega
  have u : ∀ k, k ≠ d → upd (Z 40 i) d x k = Z 40 i k := fun k q => upd_n q
  have v : ∀ k, k ≠ d' → upd (g 0) d' x k = g 0 k := fun k q => upd_n q
  obtain ⟨n1, n2, n3, n4, n5⟩ := H.n
  have w : ∀ k k', Z 40 i k = g 0 k' → (k = d ↔ k' = d') → upd (Z 40 i) d x k = upd (g 0) d' x k' := fun k k' e q => by
    by_cases c : k = d
    · rw [c, q.mp c, upd_s, upd_s]
    · rw [u k c, v k' (fun r => c (q.mpr r)), e]
  rw [gu_gr]
  exact BR_40 H (u 0 (by omega)) (u 14 (by omega)) (u 15 (by omega)) (v 14 (by omega)) (v 16 (by omega)) ⟨w 12 1 n1 (by omega), w 10 2 n2 (by omega), w 11 3 n3 (by omega), w 13 4 n4 (by omega), w 16 5 n5 (by omega)⟩
end BRX
