/-! ===== rows that make: an int array, and the host's two rows that are made anew ===== -/
theorem va_P.mem {D : va_G} {cl : List vw_C} {ws : va_W} {H : Heap} (h : va_P D cl ws H) {q : Nat × va_E} (hq : q ∈ ws) : va_at D cl q H := by
  obtain ⟨k, hk⟩ := List.getElem?_of_mem hq
  exact h k q hk
theorem va_P.of_mem {D : va_G} {cl : List vw_C} {ws : va_W} {H : Heap} (h : ∀ q ∈ ws, va_at D cl q H) : va_P D cl ws H := fun _ q hk => h q (List.mem_of_getElem? hk)
/-- a world whose cells stand, place by place, at the addresses of another's different places -/
theorem vD_by {A : Nat → Prop} {ws ws' : va_W} (h : va_D A ws) (g : Nat → Nat) (hi : ∀ i j : Nat, i < ws'.length → j < ws'.length → g i = g j → i = j) (hg : ∀ (k : Nat) (q : Nat × va_E), ws'[k]? = some q → ∃ q', ws[g k]? = some q' ∧ q'.1 = q.1) : va_D A ws' := by
  refine ⟨fun i j x y hx hy hxy => ?_, fun k q hk => ?_⟩
  · obtain ⟨x', h1, h2⟩ := hg i x hx
    obtain ⟨y', h3, h4⟩ := hg j y hy
    exact hi i j (List.getElem?_eq_some_iff.mp hx).1 (List.getElem?_eq_some_iff.mp hy).1 (h.1 _ _ x' y' h1 h3 (h2.trans (hxy.trans h4.symm)))
  · obtain ⟨q', h1, h2⟩ := hg k q hk
    rw [← h2]
    exact h.2 _ q' h1
abbrev lcell (cs : Nat → ClassId) (q N : Nat) (f : Nat → Int32) : Nat × va_E := (q, .inl (cs 0, N, .inl f))
section WN
variable {p : Program} {l : Launch} {e : Env} {R : Room} {s : State} {m : MethodId} {args : Array Value} {below : List Frame} {meth : Method} {c : Code} {H : Heap} {locs : List Loc} {cells slots : Nat} {Q : State → Prop}
variable {cc : ByteArray} {pc nL : Nat} {ls : Array Slot} {rest : List Value} {own : String}
variable {sz0 : Nat} {D : va_G} {cs : Nat → ClassId} {X : Sh} {Z : ZT} {Y : va_W}
theorem Wd.hA {H : Heap} {locs : List Loc} (hw : Wd sz0 D cs s X Z Y H locs) : ∀ q, s.heap.size ≤ q → Asz sz0 q := fun _ h => Nat.le_trans hw.2.2.2.2 h
theorem w_newi (C : CallFix p m c cc nL s args wsA own) (hw : Wd sz0 D cs s X Z Y H locs) {n : Int32} {N : Nat} (hn : ¬ n < 0) (hN : n.toNatClampNeg = N) (hbytes : N * 4 ≤ 536870912) (hcells : cells + 1 ≤ R.cells) (hslots : slots + N ≤ R.slots) (hdg : decode cc pc = .ok (.newarray .int, 2))
    (kk : ∀ (q : Nat) (H1 : Heap), Wd sz0 D cs s X Z (Y ++ [lcell cs q N (fun _ => 0)]) H1 locs → W p l e R s m args below meth c H1 locs (cells + 1) (slots + N) Q (F0 m (pc + 2) ls (.ref q :: rest))) :
    W p l e R s m args below meth c H locs cells slots Q (F0 m pc ls (.int n :: rest)) := by
  obtain ⟨hx, hb, hml, hown, hts⟩ := C
  have hA := hw.hA
  obtain ⟨hK, hP, hD, hS, hsz⟩ := hw
  refine va_newa hx hb (atype := .int) (ty := .int) (hts _ mw26) rfl hK hP hD hS hA (a0 := (N, .inl (fun _ => 0))) (fun _ => rfl) hn hN hbytes hcells hslots hdg (fun q cA H1 k1 k2 k3 k4 => ?_)
  have e1 : va_RA s cA .int := (k1.2 4 (cA, .int) rfl).2
  have e2 : va_RA s (cs 0) .int := (hK.2 0 (cs 0, .int) rfl).2
  have e3 : cA = cs 0 := Option.some.inj (Eq.trans (Eq.symm (show s.vm.findClass _ = some cA from e1)) (show s.vm.findClass _ = some (cs 0) from e2))
  subst e3
  rw [List.append_assoc] at k2 k3
  exact kk q H1 ⟨hK, k2, k3, k4, hsz⟩
/-- the shape behind: the row of kind c0 (3 or 4) is the cell q, of N places -/
abbrev shM (X : Sh) (c0 q N : Nat) : Sh := (X.1, va_up (va_up X.2.1 (c0 + 10) q) c0 N, X.2.2)
theorem shM_adr {c0 q N : Nat} (hc : c0 = 3 ∨ c0 = 4) {c i : Nat} (h : c ≠ c0) : adr (shM X c0 q N) c i = adr X c i := by
  unfold adr
  rcases hc with rfl | rfl
  · split <;> first | rfl | (exfalso; exact h rfl) | simp [va_up]
  · split <;> first | rfl | (exfalso; exact h rfl) | simp [va_up]
theorem shM_adrS {c0 q N i : Nat} (hc : c0 = 3 ∨ c0 = 4) : adr (shM X c0 q N) c0 i = q := by
  rcases hc with rfl | rfl <;> simp [adr, va_up]
theorem shM_Ec {c0 q N : Nat} (hc : c0 = 3 ∨ c0 = 4) {c i : Nat} {z : Nat → Int32} (h : c ≠ c0) (h2 : c ≠ 2) : Ec cs (shM X c0 q N) c i z = Ec cs X c i z := by
  unfold Ec
  rcases hc with rfl | rfl
  · split <;> first | rfl | (exfalso; exact h rfl) | (exfalso; exact h2 rfl) | simp [va_up]
  · split <;> first | rfl | (exfalso; exact h rfl) | (exfalso; exact h2 rfl) | simp [va_up]
theorem shM_EcS {c0 q N i : Nat} {z : Nat → Int32} (hc : c0 = 3 ∨ c0 = 4) : Ec cs (shM X c0 q N) c0 i z = .inl (cs 0, N, .inl z) := by
  rcases hc with rfl | rfl <;> simp [Ec, va_up]
theorem wl_swap {c0 : Nat} (hc : c0 = 3 ∨ c0 = 4) {A : Nat → Prop} {q0 q N : Nat} {f : Nat → Int32} {e2 : va_E} (hX2 : (2, 0) ∈ X.2.2.2) (h1 : ∀ i, (c0, i) ∈ X.2.2.2 → i = 0) (h2 : ∀ i, (2, i) ∈ X.2.2.2 → i = 0)
    (hq0 : (Wl cs X Z ++ (Y ++ [lcell cs q N f]))[q0]? = some (adr X 2 0, Ec cs X 2 0 (Z 2 0)))
    (hD0 : va_D A (Wl cs X Z ++ (Y ++ [lcell cs q N f])))
    (he2 : Ec cs (shM X c0 q N) 2 0 (Z 2 0) = e2) {H : Heap}
    (hP : va_P D vwCl ((Wl cs X Z ++ (Y ++ [lcell cs q N f])).set q0 (adr X 2 0, e2)) H) :
    va_P D vwCl (Wl cs (shM X c0 q N) (upr Z c0 0 f) ++ Y) H ∧ va_D A (Wl cs (shM X c0 q N) (upr Z c0 0 f) ++ Y) := by
  have hlen : q0 < (Wl cs X Z ++ (Y ++ [lcell cs q N f])).length := (List.getElem?_eq_some_iff.mp hq0).1
  have hc2 : (2 : Nat) ≠ c0 := by rcases hc with rfl | rfl <;> decide
  have hset : ∀ (k : Nat) (x : Nat × va_E), (Wl cs X Z ++ (Y ++ [lcell cs q N f]))[k]? = some x → x.1 ≠ adr X 2 0 → va_at D vwCl x H := fun k x hk hne => by
    refine hP k x ?_
    rw [List.getElem?_set_ne, hk]
    intro e
    subst e
    rw [hq0] at hk
    cases hk
    exact hne rfl
  have hlast : (Wl cs X Z ++ (Y ++ [lcell cs q N f]))[X.2.2.2.length + Y.length]? = some (lcell cs q N f) := by
    rw [List.getElem?_append_right (by rw [wl_len]; omega), wl_len, List.getElem?_append_right (by omega)]
    simp
  have hpos : ∀ {k c i : Nat}, X.2.2.2[k]? = some (c, i) → (Wl cs X Z ++ (Y ++ [lcell cs q N f]))[k]? = some (adr X c i, Ec cs X c i (Z c i)) := fun h => wl_at h
  have hY : ∀ {k : Nat} {x : Nat × va_E}, Y[k]? = some x → (Wl cs X Z ++ (Y ++ [lcell cs q N f]))[X.2.2.2.length + k]? = some x := fun {k x} h => by
    have hl := (List.getElem?_eq_some_iff.mp h).1
    rw [List.getElem?_append_right (by rw [wl_len]; omega), wl_len, List.getElem?_append_left (by omega)]
    rw [show X.2.2.2.length + k - X.2.2.2.length = k by omega]
    exact h
  obtain ⟨k2, hk2⟩ := List.getElem?_of_mem hX2
  have e02 : q0 = k2 := hD0.1 _ _ _ _ hq0 (hpos hk2) rfl
  have hk2l := (List.getElem?_eq_some_iff.mp hk2).1
  refine ⟨va_P.of_mem fun x hx => ?_, ?_⟩
  · rcases List.mem_append.mp hx with hx | hx
    · obtain ⟨⟨c, i⟩, hr, rfl⟩ := List.mem_map.mp hx
      obtain ⟨k, hk⟩ := List.getElem?_of_mem hr
      dsimp only
      by_cases hcc : c = c0
      · subst hcc
        obtain rfl := h1 i hr
        rw [shM_adrS hc, upr_s, shM_EcS hc]
        refine hset _ _ hlast fun e => ?_
        have := hD0.1 _ _ _ _ hlast hq0 e
        omega
      · by_cases h3 : c = 2
        · subst h3
          obtain rfl := h2 i hr
          rw [shM_adr hc hcc, upr_k hcc, he2]
          have := hP q0 (adr X 2 0, e2) (by rw [List.getElem?_set_self hlen])
          exact this
        · rw [shM_adr hc hcc, upr_k hcc, shM_Ec hc hcc h3]
          refine hset _ _ (hpos hk) fun e => ?_
          have := hD0.1 _ _ _ _ (hpos hk) (hpos hk2) e
          subst this
          rw [hk] at hk2
          cases hk2
          exact h3 rfl
    · obtain ⟨k, hk⟩ := List.getElem?_of_mem hx
      refine hset _ _ (hY hk) fun e => ?_
      have := hD0.1 _ _ _ _ (hY hk) (hpos hk2) e
      omega
  · refine vD_by hD0 (fun k => if (X.2.2.2[k]?).map Prod.fst = some c0 then X.2.2.2.length + Y.length else k) ?_ ?_
    · intro i j hi hj hij
      have hl : (Wl cs (shM X c0 q N) (upr Z c0 0 f) ++ Y).length = X.2.2.2.length + Y.length := by rw [List.length_append, wl_len]
      rw [hl] at hi hj
      try dsimp only at hij
      have one : ∀ a b : Nat, (X.2.2.2[a]?).map Prod.fst = some c0 → (X.2.2.2[b]?).map Prod.fst = some c0 → a = b := by
        intro a b ha hb
        have get : ∀ a : Nat, (X.2.2.2[a]?).map Prod.fst = some c0 → X.2.2.2[a]? = some (c0, 0) := by
          intro a ha
          cases hx : X.2.2.2[a]? with
          | none => rw [hx] at ha; cases ha
          | some r =>
            obtain ⟨c, i⟩ := r
            rw [hx] at ha
            simp at ha
            subst ha
            rw [h1 i (List.mem_of_getElem? hx)]
        exact hD0.1 _ _ _ _ (hpos (get a ha)) (hpos (get b hb)) rfl
      split at hij <;> split at hij
      · exact one _ _ (by assumption) (by assumption)
      · omega
      · omega
      · exact hij
    · intro k x hk
      by_cases hkl : k < X.2.2.2.length
      · obtain ⟨r, hr⟩ : ∃ r, X.2.2.2[k]? = some r := ⟨_, List.getElem?_eq_getElem hkl⟩
        obtain ⟨c, i⟩ := r
        rw [wl_at (X := shM X c0 q N) hr] at hk
        cases hk
        dsimp only
        by_cases hcc : c = c0
        · subst hcc
          rw [if_pos (by rw [hr]; rfl)]
          exact ⟨_, hlast, (shM_adrS hc).symm⟩
        · rw [if_neg (by rw [hr]; simp; exact hcc)]
          exact ⟨_, hpos hr, (shM_adr hc hcc).symm⟩
      · rw [List.getElem?_append_right (by rw [wl_len]; exact Nat.le_of_not_lt hkl), wl_len] at hk
        try dsimp only
        rw [if_neg (by rw [List.getElem?_eq_none (Nat.le_of_not_lt hkl)]; simp)]
        refine ⟨x, ?_, rfl⟩
        have := hY hk
        rw [show X.2.2.2.length + (k - (shM X c0 q N).2.2.2.length) = k by show X.2.2.2.length + (k - X.2.2.2.length) = k; omega] at this
        exact this
/-- putfield of the host's memory or room -/
theorem w_putM (C : CallFix p m c cc nL s args wsA own) {c0 q N k0 : Nat} {f : Nat → Int32} (hw : Wd sz0 D cs s X Z (Y ++ [lcell cs q N f]) H locs) (hc : c0 = 3 ∨ c0 = 4) (hk0 : k0 = c0 + 1) {index : Nat} (hlk : Cond.fieldLink own index "GuestHouse$Host" (TX1 k0).2.1 (TX1 k0).2.2.1 ∈ wsA) (hdg : decode cc pc = .ok (.putfield index, 3)) (hX2 : (2, 0) ∈ X.2.2.2) (h1 : ∀ i, (c0, i) ∈ X.2.2.2 → i = 0) (h2 : ∀ i, (2, i) ∈ X.2.2.2 → i = 0)
    (kk : ∀ (H1 : Heap) (locs1 : List Loc), Wd sz0 D cs s (shM X c0 q N) (upr Z c0 0 f) Y H1 locs1 → W p l e R s m args below meth c H1 locs1 cells slots Q (F0 m (pc + 3) ls rest)) : W p l e R s m args below meth c H locs cells slots Q (F0 m pc ls (.ref q :: .ref (X.1 2 0) :: rest)) := by
  obtain ⟨hx, hb, -, hown, hts⟩ := C
  obtain ⟨hK, hP, hD, hS, hsz⟩ := hw
  obtain ⟨q0, hq⟩ := wl_pos (cs := cs) (Z := Z) (Y := Y ++ [lcell cs q N f]) hX2
  have hq2 := hq
  rw [show Ec cs X 2 0 (Z 2 0) = .inr (1, [.int (Z 2 0 0), .int (Z 2 0 1), .int (Z 2 0 2), .int (Z 2 0 3), .ref (X.2.1 13), .ref (X.2.1 14), .ref (X.1 5 0), .ref (X.1 6 0), .ref (X.1 7 0), .ref (X.1 8 0), .ref (X.1 9 0), .ref (X.1 10 0), .ref (X.1 11 0)]) from rfl] at hq2
  have hkN : k0 < 13 := by rcases hc with rfl | rfl <;> subst hk0 <;> decide
  refine va_put (ref := "GuestHouse$Host") (ty := .array .int) (v := .ref q) hx hb hts inA1 tyX1 tyX1_ok nmX1 hown hK hP hD hS q0 hq2 rfl k0 hkN (hts _ hlk) ?_ ?_ ?_ rfl rfl ?_ hdg (fun H1 locs1 g1 g2 g3 => ?_)
  · rcases hc with rfl | rfl <;> subst hk0 <;> exact fun _ h => h
  · rcases hc with rfl | rfl <;> subst hk0 <;> rfl
  · rcases hc with rfl | rfl <;> subst hk0 <;> decide +kernel
  · rcases hc with rfl | rfl <;> subst hk0 <;> exact Nat.le_of_ble_eq_true rfl
  · obtain ⟨a1, a2⟩ := wl_swap (D := D) (e2 := .inr (1, ([.int (Z 2 0 0), .int (Z 2 0 1), .int (Z 2 0 2), .int (Z 2 0 3), .ref (X.2.1 13), .ref (X.2.1 14), .ref (X.1 5 0), .ref (X.1 6 0), .ref (X.1 7 0), .ref (X.1 8 0), .ref (X.1 9 0), .ref (X.1 10 0), .ref (X.1 11 0)] : List Value).set k0 (.ref q))) hc hX2 h1 h2 hq hD (by rcases hc with rfl | rfl <;> subst hk0 <;> rfl) g1
    exact kk H1 locs1 ⟨hK, a1, a2, g3, hsz⟩
end WN
