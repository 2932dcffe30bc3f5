/-! ===== made cells come to their place ===== -/
def gL (cs : Nat → ClassId) (A : Nat → Nat) : va_W := [(A 0, .inr (0, [.int 0, .int 0, .int 0, .int 0, .int 0, .int 0, .int 0, .ref (A 1), .ref (A 2), .ref (A 3), .ref (A 4), .ref (A 5), .ref (A 6), .int 0, .int 0, .ref (A 7), .int 0])), lcell cs (A 1) 64 (fun _ => 0), lcell cs (A 2) 1024 (fun _ => 0), lcell cs (A 3) 8 (fun _ => 0), lcell cs (A 4) 10 (fun _ => 0), lcell cs (A 5) 256 (fun _ => 0), lcell cs (A 6) 64 (fun _ => 0), lcell cs (A 7) 1000 (fun _ => 0)]
def gX (X : Sh) (i : Nat) (A : Nat → Nat) : Sh := (fun c j => if j = i ∧ 20 ≤ c ∧ c ≤ 27 then A (c - 20) else X.1 c j, X.2.1, fun j => if j = i then true else X.2.2.1 j, X.2.2.2 ++ [(20, i), (21, i), (22, i), (23, i), (24, i), (25, i), (26, i), (27, i)])
def gZ (Z : ZT) (i : Nat) : ZT := fun c j => if j = i ∧ 20 ≤ c ∧ c ≤ 27 then fun _ => 0 else Z c j
theorem gX_n {X : Sh} {i c j : Nat} {A : Nat → Nat} (h : ¬ (j = i ∧ 20 ≤ c ∧ c ≤ 27)) : (gX X i A).1 c j = X.1 c j := if_neg h
theorem gX_s {X : Sh} {i c : Nat} {A : Nat → Nat} (h : 20 ≤ c ∧ c ≤ 27) : (gX X i A).1 c i = A (c - 20) := if_pos ⟨rfl, h⟩
theorem gZ_n {Z : ZT} {i c j : Nat} (h : ¬ (j = i ∧ 20 ≤ c ∧ c ≤ 27)) : gZ Z i c j = Z c j := if_neg h
theorem gZ_s {Z : ZT} {i c : Nat} (h : 20 ≤ c ∧ c ≤ 27) : gZ Z i c i = fun _ => 0 := if_pos ⟨rfl, h⟩
theorem gX_f {X : Sh} {i : Nat} {A : Nat → Nat} : (gX X i A).2.2.1 (i) = true := if_pos rfl
theorem gX_g {X : Sh} {i j : Nat} {A : Nat → Nat} (h : j ≠ i) : (gX X i A).2.2.1 j = X.2.2.1 j := if_neg h
theorem gX_adr {X : Sh} {i c j : Nat} {A : Nat → Nat} (h : ¬ (j = i ∧ 20 ≤ c ∧ c ≤ 27)) : adr (gX X i A) c j = adr X c j := by
  unfold adr
  split
  · rfl
  · rfl
  · exact gX_n h
theorem gX_Ec {cs : Nat → ClassId} {X : Sh} {i c j : Nat} {A : Nat → Nat} {z : Nat → Int32} (h : ¬ (j = i ∧ 20 ≤ c ∧ c ≤ 27)) (hca : c ≠ 1) (hi : i < 8) : Ec cs (gX X i A) c j z = Ec cs X c j z := by
  unfold Ec
  split <;> first | rfl | (exfalso; exact hca rfl) | (have hji : j ≠ i := fun q => h ⟨q, by decide, by decide⟩; simp [gX, hji]) | (simp [gX]; done) | (refine congrArg (fun f => Sum.inl (_, _, Sum.inr (Sum.inr (Sum.inr (Sum.inr f))))) (funext fun b => ?_); rw [gX_g (by omega), gX_n (by omega)])
theorem gX_Ea {cs : Nat → ClassId} {X : Sh} {i : Nat} {A : Nat → Nat} {z : Nat → Int32} : Ec cs (gX X i A) 1 0 z = .inl (cs 2, 8, .inr (.inr (.inr (.inr (va_up (fun j => if X.2.2.1 (j) then some (X.1 20 j) else none) i (some (A 0))))))) := by
  refine congrArg (fun f => Sum.inl (cs 2, 8, Sum.inr (Sum.inr (Sum.inr (Sum.inr f))))) (funext fun b => ?_)
  by_cases e : b = i
  · subst e
    rw [gX_f, if_pos rfl, gX_s (by decide)]
    simp [va_up]
  · rw [gX_g (by omega), gX_n (by omega)]
    simp [va_up, e]
theorem gX_new {cs : Nat → ClassId} {X : Sh} {Z : ZT} {i : Nat} {A : Nat → Nat} : ([(20, i), (21, i), (22, i), (23, i), (24, i), (25, i), (26, i), (27, i)] : List (Nat × Nat)).map (fun r => (adr (gX X i A) r.1 r.2, Ec cs (gX X i A) r.1 r.2 (gZ Z i r.1 r.2))) = gL cs A := by
  simp [gL, adr, Ec, gX, gZ]
theorem gX_wl {cs : Nat → ClassId} {X : Sh} {Z : ZT} {i q0 : Nat} {A : Nat → Nat} {P : Nat → Prop} {Y : va_W} (hi : i < 8) (hD : va_D P (Wl cs X Z ++ Y)) (hq : X.2.2.2[q0]? = some (1, 0)) (hnew : ∀ c, 20 ≤ c → c ≤ 27 → (c, i) ∉ X.2.2.2) (hu : ∀ j, (1, j) ∈ X.2.2.2 → j = 0) :
    (Wl cs X Z ++ gL cs A).set q0 (X.1 1 0, .inl (cs 2, 8, .inr (.inr (.inr (.inr (va_up (fun j => if X.2.2.1 (j) then some (X.1 20 j) else none) i (some (A 0)))))))) = Wl cs (gX X i A) (gZ Z i) := by
  have hql := (List.getElem?_eq_some_iff.mp hq).1
  rw [List.set_append_left _ _ (by rw [wl_len]; exact hql)]
  unfold Wl
  rw [show (gX X i A).2.2.2 = X.2.2.2 ++ [(20, i), (21, i), (22, i), (23, i), (24, i), (25, i), (26, i), (27, i)] from rfl, List.map_append, gX_new]
  congr 1
  refine List.ext_getElem? fun k => ?_
  by_cases hk : k < X.2.2.2.length
  · obtain ⟨r, hr⟩ : ∃ r, X.2.2.2[k]? = some r := ⟨_, List.getElem?_eq_getElem hk⟩
    obtain ⟨c, j⟩ := r
    rw [List.getElem?_map, hr, Option.map_some]
    by_cases e : k = q0
    · subst e
      rw [hq] at hr
      cases hr
      rw [List.getElem?_set_self (by rw [List.length_map]; exact hk)]
      dsimp only
      rw [gX_Ea, gX_adr (by omega)]
      rfl
    · rw [List.getElem?_set_ne (fun q => e q.symm), List.getElem?_map, hr, Option.map_some]
      dsimp only
      have hn : ¬ (j = i ∧ 20 ≤ c ∧ c ≤ 27) := fun ⟨q1, q2, q3⟩ => hnew c q2 q3 (q1 ▸ List.mem_of_getElem? hr)
      rw [gX_adr hn, gZ_n hn]
      by_cases ec : c = 1
      · subst ec
        by_cases ej : j = 0
        · subst ej
          exact absurd (hD.1 k q0 _ _ (wl_at hr) (wl_at hq) rfl) e
        · exact absurd (hu j (List.mem_of_getElem? hr)) ej
      · rw [gX_Ec hn ec hi]
  · rw [List.getElem?_eq_none (by rw [List.length_set, List.length_map]; omega), List.getElem?_eq_none (by rw [List.length_map]; omega)]
theorem gX_ast {p : Program} {l : Launch} {e : Env} {R : Room} {s : State} {m : MethodId} {args : Array Value} {below : List Frame} {meth : Method} {c : Code} {H : Heap} {locs : List Loc} {cells slots : Nat} {Q : State → Prop} {cc : ByteArray} {pc nL : Nat} {ls : Array Slot} {rest : List Value} {own : String} {sz0 : Nat} {D : va_G} {cs : Nat → ClassId} {X : Sh} {Z : ZT} {i : Nat} {A : Nat → Nat}
    (C : CallFix p m c cc nL s args wsA own) (hw : Wd sz0 D cs s X Z (gL cs A) H locs) (hm : (1, 0) ∈ X.2.2.2) (hi : i < 8) (hnew : ∀ c, 20 ≤ c → c ≤ 27 → (c, i) ∉ X.2.2.2) (hu : ∀ j, (1, j) ∈ X.2.2.2 → j = 0) (hdg : decode cc pc = .ok (.aastore, 1))
    (kk : ∀ (H1 : Heap) (locs1 : List Loc), Wd sz0 D cs s (gX X i A) (gZ Z i) [] H1 locs1 → W p l e R s m args below meth c H1 locs1 cells slots Q (F0 m (pc + 1) ls rest)) :
    W p l e R s m args below meth c H locs cells slots Q (F0 m pc ls (.ref (A 0) :: .int (nI i) :: .ref (X.1 1 0) :: rest)) := by
  obtain ⟨hx, hb, -, hown, hts⟩ := C
  obtain ⟨hK, hP, hD, hS, hsz⟩ := hw
  obtain ⟨q0, hq⟩ := List.getElem?_of_mem hm
  refine va_astq hx hb hK hP hD hS q0 2 (X.2.2.2.length + (([] : va_W).length + 0)) 0 (r := (RX0, TX0, 17)) (wl_at hq) rfl (wl_L (Y0 := []) (L := gL cs A) (k := 0) rfl) rfl (vp_in_nI hi (by decide)) hdg (fun H1 locs1 h1 h2 h3 => ?_)
  rw [nI_clamp (by omega)] at h1 h2
  have ew := gX_wl (A := A) hi hD hq hnew hu
  refine kk H1 locs1 ⟨hK, ?_, ?_, h3, hsz⟩
  · rw [List.append_nil, ← ew]; exact h1
  · rw [List.append_nil, ← ew]; exact h2
/-! what a new guest's cells keep -/
theorem gX_KX {X : Sh} {i : Nat} {A : Nat → Nat} (hi : i < 8) : KX X (gX X i A) := ⟨fun c j q => gX_n (by omega), fun j => gX_g (by omega), fun r h => List.mem_append_left _ h⟩
theorem gX_unm {X : Sh} {i : Nat} {A : Nat → Nat} (hi : i < 8) (h : ¬ X.2.2.1 i = true) : unm (gX X i A) + 1 = unm X := by
  have := sumN_chg (n := 8) (f := fun j => if (gX X i A).2.2.1 j = true then 0 else 1) (g := fun j => if X.2.2.1 j = true then 0 else 1) hi (fun j _ hne => by show (if (gX X i A).2.2.1 j = true then 0 else 1) = (if X.2.2.1 j = true then 0 else 1); rw [gX_g hne])
  try dsimp only at this
  rw [gX_f, if_pos rfl, if_neg h] at this
  unfold unm
  omega
theorem gX_CRx {X : Sh} {i : Nat} {A : Nat → Nat} (hi : i < 8) (H : CRx X) : CRx (gX X i A) := by
  obtain ⟨h1, ⟨h2, h3⟩, h4⟩ := H
  have hmem : ∀ c j, (c, j) ∈ (gX X i A).2.2.2 → (c, j) ∈ X.2.2.2 ∨ (j = i ∧ 20 ≤ c ∧ c ≤ 27) := fun c j q => by
    rcases List.mem_append.mp (show (c, j) ∈ X.2.2.2 ++ _ from q) with q | q
    · exact Or.inl q
    · right
      simp at q
      omega
  refine ⟨fun c hc => List.mem_append_left _ (h1 c hc), ⟨fun c j hc q => ?_, fun c j q1 q2 q => ?_⟩, fun j hj q => ?_⟩
  · rcases hmem c j q with q | q
    · exact h2 c j hc q
    · omega
  · by_cases e : j = i
    · subst e; exact gX_f
    · rw [gX_g e]
      rcases hmem c j q with q | q
      · exact h3 c j q1 q2 q
      · exact absurd q.1 e
  · by_cases e : j = i
    · subst e
      intro c q1 q2
      refine List.mem_append_right _ ?_
      have : c = 20 ∨ c = 21 ∨ c = 22 ∨ c = 23 ∨ c = 24 ∨ c = 25 ∨ c = 26 ∨ c = 27 := by omega
      rcases this with rfl | rfl | rfl | rfl | rfl | rfl | rfl | rfl <;> simp
    · rw [gX_g e] at q
      exact fun c q1 q2 => List.mem_append_left _ (h4 j hj q c q1 q2)
theorem gX_CR {X : Sh} {Z : ZT} {S : HS} {h gp i : Nat} {A : Nat → Nat} (hi : i < 8) (hS : HOK S) (h0 : S.1 i = 0) (H : CR X Z S h gp) : CR (gX X i A) (gZ Z i) S h gp := by
  have g0 := H.g0 hi h0
  have hgf := fun j hj => H.gf hS (i := j) hj
  obtain ⟨⟨o, hd, g3, g4, fc, hA, hB, hg⟩, b, c⟩ := H
  have zn : ∀ c j, ¬ (j = i ∧ 20 ≤ c ∧ c ≤ 27) → gZ Z i c j = Z c j := fun c j q => gZ_n q
  have gi : gfr (gX X i A) (gZ Z i) i = 0 := by
    unfold gfr
    rw [if_neg (fun q => q.2 (by rw [gZ_s (by decide)]))]
  have gj : ∀ j, gfr (gX X i A) (gZ Z i) j = gfr X Z j := fun j => by
    by_cases e : j = i
    · subst e; rw [gi, g0]
    · unfold gfr; rw [gX_g e, zn 20 j (by omega)]
  have hmw : ∀ j k w, j < 8 → j ≠ i → mw (gZ Z i) j k w = mw Z j k w := fun j k w _ e => mw_rows (zn 3 0 (by omega)) (zn 4 0 (by omega)) (zn 8 0 (by omega)) (zn 21 j (by omega))
  have h21 : ∀ j k, j < 8 → k < gfr X Z j → gZ Z i 21 j k = Z 21 j k := fun j k _ hk => by
    by_cases e : j = i
    · subst e; rw [g0] at hk; omega
    · rw [zn 21 j (by omega)]
  refine ⟨⟨o, hd, g3, g4, fc, ?_, ?_, hg⟩, ?_, fun j hj => ?_⟩
  · have hA1 : HA (gX X i A) Z h o hd g3 g4 := hA.congrX rfl rfl
    exact hA1.rows (fun j _ => by rw [zn 2 0 (by omega)]) (zn 3 0 (by omega)) (zn 4 0 (by omega)) (zn 5 0 (by omega)) (zn 8 0 (by omega)) (zn 9 0 (by omega))
  · refine hB.c.to (X' := gX X i A) (Z' := gZ Z i) (fun s _ => cnt_same (fun j _ => gj j) (fun j k hj hk => h21 j k hj hk)) rfl (zn 7 0 (by omega)) (zn 8 0 (by omega)) (zn 10 0 (by omega)) (by rw [zn 2 0 (by omega)]) (fun j k hj hk => ?_) (fun j hj => by rw [gj]; exact hB.2.2.1 j hj)
    rw [gj] at hk
    rw [h21 j k hj hk]; exact hB.2.1 j k hj hk
  · rw [zn 0 0 (by omega)]; exact b
  · by_cases e : j = i
    · subst e
      exact ⟨fun _ q => q.2 (by rw [gZ_s (by decide)]), fun q => absurd h0 q⟩
    · rw [gX_g e, zn 20 j (by omega)]
      exact ⟨(c j hj).1, fun q => ⟨((c j hj).2 q).1, ((c j hj).2 q).2.1, ((c j hj).2 q).2.2.1, GR_rows (fun c _ _ _ => zn c j (by omega)) (fun k w _ _ => hmw j k w hj e) ((c j hj).2 q).2.2.2⟩⟩
