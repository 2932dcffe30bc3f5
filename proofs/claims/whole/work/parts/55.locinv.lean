theorem or4_lt {e F : Nat} (h : e < 8 * F) : e ||| 4 < 8 * F := by
  have h1 : e = 2 ^ 3 * (e / 8) + e % 8 := by omega
  have h2 : e % 8 ||| 4 < 2 ^ 3 := Nat.or_lt_two_pow (by omega) (by decide)
  have h3 : e ||| 4 = 2 ^ 3 * (e / 8) + (e % 8 ||| 4) := by
    rw [Nat.two_pow_add_eq_or_of_lt h2, ← Nat.or_assoc, ← Nat.two_pow_add_eq_or_of_lt (show e % 8 < 2 ^ 3 by omega), ← h1]
  omega
/-- the cache's entries are of frames that are there -/
def CInv (F : Nat) (g : GS) : Prop := ∀ p, p < 256 → g 5 p = -1 ∨ ∃ e, e < 8 * F ∧ g 5 p = nI e ∧ g 4 5 < 0 ∧ ¬ hasWv (nI F) (64 * (g 4 5 &&& 63) + nI p) = 0
theorem locF_ok {F p tab : Nat} {g : GS} {a kind : Int32} {en : Nat} (hF : F ≤ 64) (hC : CInv F g) (hp : p < 256) (hen : en < 8 * F) (hr : g 4 5 < 0) (ht : ¬ hasWv (nI F) (64 * (g 4 5 &&& 63) + nI p) = 0) (ha : ¬ a < 0) (hk : kind ≠ 0) :
    (∀ r, r ≠ 1 → r ≠ 5 → (locF g p tab a kind (nI en)).1 r = g r) ∧ CInv F (locF g p tab a kind (nI en)).1 ∧ ((locF g p tab a kind (nI en)).2.1 = 0 → ∃ n, n < 64 * F ∧ (locF g p tab a kind (nI en)).2.2.2 = nI n) := by
  have hin : ∃ n, n < 64 * F ∧ (nI en >>> ((3 : Int32) &&& 31)) * 64 + (a &&& 63) = nI n := by
    obtain ⟨an, han, rfl⟩ := nI_of ha
    refine ⟨64 * (en / 8) + an % 64, by omega, ?_⟩
    rw [pk_shrN (by omega) (3 &&& 31) 3 (by decide), show en / 2 ^ 3 = en / 8 from rfl, m64, and63m han, nI_add]
  unfold locF
  by_cases c1 : (g 0 3 = 0 ∧ nI en &&& 2 = 0) ∨ (kind = 13 ∧ nI en &&& 1 = 0)
  · rw [if_pos c1]
    exact ⟨fun _ _ _ => rfl, hC, fun q => absurd q hk⟩
  · rw [if_neg c1]
    by_cases c2 : kind = 13 ∧ nI en &&& 4 = 0
    · rw [if_pos c2]
      refine ⟨fun r h1 h5 => by show gu (gu g 1 tab (g 1 tab ||| 16)) 5 p (nI en ||| 4) r = g r; rw [gu_o h5, gu_o h1], fun p' hp' => ?_, fun _ => hin⟩
      show gu (gu g 1 tab (g 1 tab ||| 16)) 5 p (nI en ||| 4) 5 p' = -1 ∨ _
      rw [gu_s, gu_o (show (5 : Nat) ≠ 1 by decide)]
      have e4 : gu (gu g 1 tab (g 1 tab ||| 16)) 5 p (nI en ||| 4) 4 = g 4 := by rw [gu_o (by decide), gu_o (by decide)]
      show _ ∨ ∃ e, e < 8 * F ∧ upd (g 5) p (nI en ||| 4) p' = nI e ∧ gu (gu g 1 tab (g 1 tab ||| 16)) 5 p (nI en ||| 4) 4 5 < 0 ∧ ¬ hasWv (nI F) (64 * (gu (gu g 1 tab (g 1 tab ||| 16)) 5 p (nI en ||| 4) 4 5 &&& 63) + nI p') = 0
      rw [e4]
      by_cases q : p' = p
      · subst q
        right
        exact ⟨en ||| 4, or4_lt hen, by rw [upd_s, show (4 : Int32) = nI 4 from rfl, nI_or], hr, ht⟩
      · rw [upd_n q]; exact hC p' hp'
    · rw [if_neg c2]
      exact ⟨fun _ _ _ => rfl, hC, fun _ => hin⟩
theorem locS_ok {F : Nat} {g : GS} {a kind : Int32} (hF : F ≤ 64) (hC : CInv F g) (hk : kind ≠ 0) :
    (∀ r, r ≠ 1 → r ≠ 5 → (locS F g a kind).1 r = g r) ∧ CInv F (locS F g a kind).1 ∧ ((locS F g a kind).2.1 = 0 → ∃ n, n < 64 * F ∧ (locS F g a kind).2.2.2 = nI n) := by
  unfold locS
  by_cases c1 : ¬ g 4 5 < 0
  · rw [if_pos c1]
    by_cases c2 : hasWv (nI F) a = 0
    · rw [if_pos c2]; exact ⟨fun _ _ _ => rfl, hC, fun q => absurd q (show ¬ (5 : Int32) = 0 by decide)⟩
    · rw [if_neg c2]; exact ⟨fun _ _ _ => rfl, hC, fun _ => hasWv_in hF c2⟩
  · rw [if_neg c1]
    have c1' := Classical.not_not.mp c1
    by_cases c2 : a < 0 ∨ ¬ a < 16384
    · rw [if_pos c2]; exact ⟨fun _ _ _ => rfl, hC, fun q => absurd q hk⟩
    · rw [if_neg c2]
      have ha : ¬ a < 0 := fun q => c2 (Or.inl q)
      have ha2 : a < 16384 := Classical.not_not.mp (fun q => c2 (Or.inr q))
      obtain ⟨p, hp, ep⟩ := page_of ha ha2
      rw [ep, nI_clamp (show p < 2 ^ 31 by omega)]
      by_cases c3 : g 5 p = -1
      · rw [if_pos c3]
        by_cases c4 : hasWv (nI F) (64 * (g 4 5 &&& 63) + nI p) = 0
        · rw [if_pos c4]; exact ⟨fun _ _ _ => rfl, hC, fun q => absurd q (show ¬ (5 : Int32) = 0 by decide)⟩
        · rw [if_neg c4]
          generalize (64 * (g 4 5 &&& 63) + nI p).toNatClampNeg = tn
          by_cases c5 : g 1 tn &&& 1 = 0 ∨ ¬ ((g 1 tn >>> ((8 : Int32) &&& 31)) &&& 63) < nI F
          · rw [if_pos c5]; exact ⟨fun _ _ _ => rfl, hC, fun q => absurd q hk⟩
          · rw [if_neg c5]
            have c6 : ((g 1 tn >>> ((8 : Int32) &&& 31)) &&& 63) < nI F := Classical.not_not.mp (fun q => c5 (Or.inr q))
            obtain ⟨f, hf, ef⟩ := small_and (g 1 tn >>> ((8 : Int32) &&& 31)) 6 63 (by decide)
            rw [ef] at c6
            have hfF : f < F := (nI_ltI (by omega) (by omega)).mp c6
            obtain ⟨e, he, -, ee⟩ := ent_nI ef hfF hF
            rw [ee]
            have hg4 : gu (gu g 1 tn (g 1 tn ||| 8)) 5 p (nI e) 4 = g 4 := by rw [gu_o (by decide), gu_o (by decide)]
            have hC2 : CInv F (gu (gu g 1 tn (g 1 tn ||| 8)) 5 p (nI e)) := by
              intro p' hp'
              rw [hg4, gu_s, gu_o (show (5 : Nat) ≠ 1 by decide)]
              by_cases q : p' = p
              · subst q
                exact Or.inr ⟨e, he, upd_s, c1', c4⟩
              · rw [upd_n q]; exact hC p' hp'
            obtain ⟨m1, m2, m3⟩ := locF_ok (tab := tn) (kind := kind) hF hC2 hp he (by rw [hg4]; exact c1') (by rw [hg4]; exact c4) ha hk
            refine ⟨fun r h1 h5 => by rw [m1 r h1 h5, gu_o h5, gu_o h1], m2, m3⟩
      · rw [if_neg c3]
        rcases hC p hp with q | ⟨e, he, ee, hr, ht⟩
        · exact absurd q c3
        · rw [ee]
          exact locF_ok hF hC hp he hr ht ha hk
theorem GInv.c {F : Nat} {g : GS} (h : GInv F g) : CInv F g := h.2.2.2
theorem locS_inv {F : Nat} {g : GS} {a kind : Int32} (hF : F ≤ 64) (h : GInv F g) (hk : kind ≠ 0) : GInv F (locS F g a kind).1 := by
  obtain ⟨m1, m2, -⟩ := locS_ok (a := a) hF h.c hk
  obtain ⟨h1, h2, h3, h4⟩ := h
  refine ⟨?_, ?_, ?_, m2⟩
  · rw [m1 4 (by decide) (by decide)]; exact h1
  · rw [m1 0 (by decide) (by decide)]; exact h2
  · rw [m1 4 (by decide) (by decide)]; exact h3
