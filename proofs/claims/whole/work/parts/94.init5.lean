/-! ===== GuestHouseModel: its constructor ===== -/
def bL (cs : Nat → ClassId) (A : Nat → Nat) : va_W := [(A 0, .inr (4, [.int 0, .int 0, .ref (A 1), .ref (A 2), .ref (A 3), .ref (A 4), .ref (A 5), .ref (A 6), .ref (A 7), .ref (A 8), .int 0, .int 0, .int 0, .int 0, .int 0, .int 0, .int 0, .int 0, .int 0])), lcell cs (A 1) 4096 (fun _ => 0), lcell cs (A 2) 1024 (fun _ => 0), lcell cs (A 3) 8 (fun _ => 0), lcell cs (A 4) 9 (fun _ => 0), lcell cs (A 5) 256 (fun _ => 0), lcell cs (A 6) 256 (fun _ => 0), lcell cs (A 7) 64 (fun _ => 0), lcell cs (A 8) 1000 (fun _ => 0)]
def bX (X : Sh) (i : Nat) (A : Nat → Nat) : Sh := (fun c j => if j = i ∧ 40 ≤ c ∧ c ≤ 48 then A (c - 40) else X.1 c j, X.2.1, fun j => if j = 100 + i then true else X.2.2.1 j, X.2.2.2 ++ [(40, i), (41, i), (42, i), (43, i), (44, i), (45, i), (46, i), (47, i), (48, i)])
def bZ (Z : ZT) (i : Nat) : ZT := fun c j => if j = i ∧ 40 ≤ c ∧ c ≤ 48 then fun _ => 0 else Z c j
theorem bX_n {X : Sh} {i c j : Nat} {A : Nat → Nat} (h : ¬ (j = i ∧ 40 ≤ c ∧ c ≤ 48)) : (bX X i A).1 c j = X.1 c j := if_neg h
theorem bX_s {X : Sh} {i c : Nat} {A : Nat → Nat} (h : 40 ≤ c ∧ c ≤ 48) : (bX X i A).1 c i = A (c - 40) := if_pos ⟨rfl, h⟩
theorem bZ_n {Z : ZT} {i c j : Nat} (h : ¬ (j = i ∧ 40 ≤ c ∧ c ≤ 48)) : bZ Z i c j = Z c j := if_neg h
theorem bZ_s {Z : ZT} {i c : Nat} (h : 40 ≤ c ∧ c ≤ 48) : bZ Z i c i = fun _ => 0 := if_pos ⟨rfl, h⟩
theorem bX_f {X : Sh} {i : Nat} {A : Nat → Nat} : (bX X i A).2.2.1 (100 + i) = true := if_pos rfl
theorem bX_g {X : Sh} {i j : Nat} {A : Nat → Nat} (h : j ≠ 100 + i) : (bX X i A).2.2.1 j = X.2.2.1 j := if_neg h
theorem bX_adr {X : Sh} {i c j : Nat} {A : Nat → Nat} (h : ¬ (j = i ∧ 40 ≤ c ∧ c ≤ 48)) : adr (bX X i A) c j = adr X c j := by
  unfold adr
  split
  · rfl
  · rfl
  · exact bX_n h
theorem bX_Ec {cs : Nat → ClassId} {X : Sh} {i c j : Nat} {A : Nat → Nat} {z : Nat → Int32} (h : ¬ (j = i ∧ 40 ≤ c ∧ c ≤ 48)) (hca : c ≠ 31) (h1 : c ≠ 1) (hi : i < 8) : Ec cs (bX X i A) c j z = Ec cs X c j z := by
  unfold Ec
  split <;> first | rfl | (exfalso; exact hca rfl) | (exfalso; exact h1 rfl) | (have hji : j ≠ i := fun q => h ⟨q, by decide, by decide⟩; simp [bX, hji]) | (simp [bX]; done) | (refine congrArg (fun f => Sum.inl (_, _, Sum.inr (Sum.inr (Sum.inr (Sum.inr f))))) (funext fun b => ?_); rw [bX_g (by omega), bX_n (by omega)])
theorem bX_Ea {cs : Nat → ClassId} {X : Sh} {i : Nat} {A : Nat → Nat} {z : Nat → Int32} : Ec cs (bX X i A) 31 0 z = .inl (cs 3, 8, .inr (.inr (.inr (.inr (va_up (fun j => if X.2.2.1 (100 + j) then some (X.1 40 j) else none) i (some (A 0))))))) := by
  refine congrArg (fun f => Sum.inl (cs 3, 8, Sum.inr (Sum.inr (Sum.inr (Sum.inr f))))) (funext fun b => ?_)
  by_cases e : b = i
  · subst e
    rw [bX_f, if_pos rfl, bX_s (by decide)]
    simp [va_up]
  · rw [bX_g (by omega), bX_n (by omega)]
    simp [va_up, e]
theorem bX_new {cs : Nat → ClassId} {X : Sh} {Z : ZT} {i : Nat} {A : Nat → Nat} : ([(40, i), (41, i), (42, i), (43, i), (44, i), (45, i), (46, i), (47, i), (48, i)] : List (Nat × Nat)).map (fun r => (adr (bX X i A) r.1 r.2, Ec cs (bX X i A) r.1 r.2 (bZ Z i r.1 r.2))) = bL cs A := by
  simp [bL, adr, Ec, bX, bZ]
theorem bX_pos {cs : Nat → ClassId} {X : Sh} {Z : ZT} {i q0 k : Nat} {A : Nat → Nat} {P : Nat → Prop} {Y : va_W} (hi : i < 8) (hD : va_D P (Wl cs X Z ++ Y)) (hq : X.2.2.2[q0]? = some (31, 0)) (hnew : ∀ c, 40 ≤ c → c ≤ 48 → (c, i) ∉ X.2.2.2) (hu : ∀ j, (31, j) ∈ X.2.2.2 → j = 0) {y : Nat × va_E} (hy : (Wl cs (bX X i A) (bZ Z i))[k]? = some y) :
    ∃ y', ((Wl cs X Z ++ bL cs A).set q0 (X.1 31 0, .inl (cs 3, 8, .inr (.inr (.inr (.inr (va_up (fun j => if X.2.2.1 (100 + j) then some (X.1 40 j) else none) i (some (A 0)))))))))[k]? = some y' ∧ y'.1 = y.1 ∧ ∀ (D : va_G) (H : Heap), va_at D vwCl y' H → va_at D vwCl y H := by
  have hql := (List.getElem?_eq_some_iff.mp hq).1
  have hroles : (bX X i A).2.2.2 = X.2.2.2 ++ [(40, i), (41, i), (42, i), (43, i), (44, i), (45, i), (46, i), (47, i), (48, i)] := rfl
  unfold Wl at hy
  rw [hroles, List.map_append, bX_new] at hy
  rw [List.set_append_left _ _ (by rw [wl_len]; exact hql)]
  by_cases hk : k < X.2.2.2.length
  · rw [List.getElem?_append_left (by rw [List.length_map]; exact hk)] at hy
    rw [List.getElem?_append_left (by rw [List.length_set, wl_len]; exact hk)]
    obtain ⟨r, hr⟩ : ∃ r, X.2.2.2[k]? = some r := ⟨_, List.getElem?_eq_getElem hk⟩
    obtain ⟨c, j⟩ := r
    rw [List.getElem?_map, hr, Option.map_some] at hy
    cases hy
    dsimp only
    by_cases e : k = q0
    · subst e
      rw [hq] at hr
      cases hr
      refine ⟨_, List.getElem?_set_self (by rw [wl_len]; exact hk), ?_, fun D H h => ?_⟩
      · show X.1 31 0 = adr (bX X i A) 31 0
        rw [bX_adr (by omega)]; rfl
      · rw [bX_Ea, bX_adr (by omega)]; exact h
    · rw [List.getElem?_set_ne (fun q => e q.symm)]
      have hn : ¬ (j = i ∧ 40 ≤ c ∧ c ≤ 48) := fun ⟨q1, q2, q3⟩ => hnew c q2 q3 (q1 ▸ List.mem_of_getElem? hr)
      refine ⟨(adr X c j, Ec cs X c j (Z c j)), by unfold Wl; rw [List.getElem?_map, hr]; rfl, ?_, fun D H h => ?_⟩
      · show adr X c j = adr (bX X i A) c j
        rw [bX_adr hn]
      · rw [bX_adr hn, bZ_n hn]
        by_cases ec : c = 31
        · subst ec
          by_cases ej : j = 0
          · subst ej
            exact absurd (hD.1 k q0 _ _ (wl_at hr) (wl_at hq) rfl) e
          · exact absurd (hu j (List.mem_of_getElem? hr)) ej
        · by_cases e1 : c = 1
          · subst e1
            refine at_q h (fun b hb => ?_)
            rw [bX_g (by omega), bX_n (by omega)]
          · rw [bX_Ec hn ec e1 hi]; exact h
  · rw [List.getElem?_append_right (by rw [List.length_map]; omega), List.length_map] at hy
    rw [List.getElem?_append_right (by rw [List.length_set, wl_len]; omega), List.length_set, wl_len]
    exact ⟨y, hy, rfl, fun _ _ h => h⟩
theorem bX_ast {p : Program} {l : Launch} {e : Env} {R : Room} {s : State} {m : MethodId} {args : Array Value} {below : List Frame} {meth : Method} {c : Code} {H : Heap} {locs : List Loc} {cells slots : Nat} {Q : State → Prop} {cc : ByteArray} {pc nL : Nat} {ls : Array Slot} {rest : List Value} {own : String} {sz0 : Nat} {D : va_G} {cs : Nat → ClassId} {X : Sh} {Z : ZT} {i : Nat} {A : Nat → Nat}
    (C : CallFix p m c cc nL s args wsA own) (hw : Wd sz0 D cs s X Z (bL cs A) H locs) (hm : (31, 0) ∈ X.2.2.2) (hi : i < 8) (hnew : ∀ c, 40 ≤ c → c ≤ 48 → (c, i) ∉ X.2.2.2) (hu : ∀ j, (31, j) ∈ X.2.2.2 → j = 0) (hdg : decode cc pc = .ok (.aastore, 1))
    (kk : ∀ (H1 : Heap) (locs1 : List Loc), Wd sz0 D cs s (bX X i A) (bZ Z i) [] H1 locs1 → W p l e R s m args below meth c H1 locs1 cells slots Q (F0 m (pc + 1) ls rest)) :
    W p l e R s m args below meth c H locs cells slots Q (F0 m pc ls (.ref (A 0) :: .int (nI i) :: .ref (X.1 31 0) :: rest)) := by
  obtain ⟨hx, hb, -, hown, hts⟩ := C
  obtain ⟨hK, hP, hD, hS, hsz⟩ := hw
  obtain ⟨q0, hq⟩ := List.getElem?_of_mem hm
  refine va_astq hx hb hK hP hD hS q0 3 (X.2.2.2.length + (([] : va_W).length + 0)) 4 (r := (RX4, TX4, 19)) (wl_at hq) rfl (wl_L (Y0 := []) (L := bL cs A) (k := 0) rfl) rfl (vp_in_nI hi (by decide)) hdg (fun H1 locs1 h1 h2 h3 => ?_)
  rw [nI_clamp (by omega)] at h1 h2
  refine kk H1 locs1 ⟨hK, ?_, ?_, h3, hsz⟩
  · rw [List.append_nil]
    intro k y hy
    obtain ⟨y', f1, f2, f3⟩ := bX_pos (A := A) hi hD hq hnew hu hy
    exact f3 _ _ (h1 k y' f1)
  · rw [List.append_nil]
    refine vD_by h2 id (fun a b _ _ q => q) (fun k y hy => ?_)
    obtain ⟨y', f1, f2, f3⟩ := bX_pos (A := A) hi hD hq hnew hu hy
    exact ⟨y', f1, f2⟩

def mX (X : Sh) (a qa : Nat) : Sh := (fun c j => if j = 0 ∧ c = 30 then a else if j = 0 ∧ c = 31 then qa else X.1 c j, X.2.1, X.2.2.1, X.2.2.2 ++ [(30, 0), (31, 0)])
def mZ (Z : ZT) : ZT := upr (upr Z 30 0 (fun k => if k = 1 then 10 else if k = 2 then 7 else 0)) 31 0 (fun _ => 0)
theorem mX_n {X : Sh} {a qa c j : Nat} (h : c < 30 ∨ 31 < c) : (mX X a qa).1 c j = X.1 c j := by
  unfold mX
  show (if j = 0 ∧ c = 30 then a else if j = 0 ∧ c = 31 then qa else X.1 c j) = _
  rw [if_neg (by omega), if_neg (by omega)]
theorem mX_Ec {cs : Nat → ClassId} {X : Sh} {a qa c j : Nat} {z : Nat → Int32} (h : c < 30) : Ec cs (mX X a qa) c j z = Ec cs X c j z := by
  unfold Ec
  split <;> first | rfl | (simp [mX]; done) | omega
theorem mX_wl {cs : Nat → ClassId} {X : Sh} {Z : ZT} {a qa : Nat} (hr : ∀ r, r ∈ X.2.2.2 → r.1 < 30) (hf : ∀ j, 100 ≤ j → X.2.2.1 j = false) : Wl cs (mX X a qa) (mZ Z) = Wl cs X Z ++ [(a, .inr (5, [.ref qa, .int 10, .int 7, .int 0, .int 0])), (qa, .inl (cs 3, 8, .inr (.inr (.inr (.inr (fun _ => none))))))] := by
  unfold Wl
  rw [show (mX X a qa).2.2.2 = X.2.2.2 ++ [(30, 0), (31, 0)] from rfl, List.map_append]
  congr 1
  · refine List.map_congr_left fun r h => ?_
    obtain ⟨c, j⟩ := r
    have hc := hr _ h
    have hc : c < 30 := hc
    show (adr (mX X a qa) c j, Ec cs (mX X a qa) c j (mZ Z c j)) = (adr X c j, Ec cs X c j (Z c j))
    rw [mX_Ec hc]
    have e1 : adr (mX X a qa) c j = adr X c j := by
      unfold adr
      split
      · rfl
      · rfl
      · exact mX_n (Or.inl hc)
    have e2 : mZ Z c j = Z c j := by unfold mZ; rw [upr_k (by omega), upr_k (by omega)]
    rw [e1, e2]
  · have e : (fun j => if X.2.2.1 (100 + j) = true then some ((mX X a qa).1 40 j) else none) = (fun _ => none) := funext fun j => by rw [hf (100 + j) (by omega)]; rfl
    show [((mX X a qa).1 30 0, Ec cs (mX X a qa) 30 0 (mZ Z 30 0)), ((mX X a qa).1 31 0, Sum.inl (cs 3, 8, Sum.inr (Sum.inr (Sum.inr (Sum.inr (fun j => if X.2.2.1 (100 + j) = true then some ((mX X a qa).1 40 j) else none))))))] = _
    rw [e]
    rfl
/-- what holds before machine i is made -/
def m5 (X : Sh) (Z : ZT) (a i : Nat) (X1 : Sh) (Z1 : ZT) : Prop :=
  X1.1 30 0 = a ∧ MI X1 ∧ (∀ j, j < i → BI X1 j ∧ X1.2.2.1 (100 + j) = true ∧ Z1 40 j 1 = 0) ∧ (∀ c j, 40 ≤ c → c ≤ 48 → i ≤ j → (c, j) ∉ X1.2.2.2) ∧ (∀ j, (31, j) ∈ X1.2.2.2 → j = 0) ∧ Z1 30 0 = (fun k => if k = 1 then 10 else if k = 2 then 7 else 0) ∧ FM Z Z1 ∧
  (∀ c j, c < 30 → X1.1 c j = X.1 c j) ∧ X1.2.1 = X.2.1 ∧ (∀ j, j < 100 → X1.2.2.1 j = X.2.2.1 j) ∧ (∀ r, r ∈ X.2.2.2 → r ∈ X1.2.2.2) ∧ (∀ r, r ∈ X1.2.2.2 → r ∈ X.2.2.2 ∨ 30 ≤ r.1)
theorem m5_0 {X : Sh} {Z : ZT} {a qa : Nat} (hr : ∀ r, r ∈ X.2.2.2 → r.1 < 30) : m5 X Z a 0 (mX X a qa) (mZ Z) := by
  have hmem : ∀ r, r ∈ (mX X a qa).2.2.2 → r ∈ X.2.2.2 ∨ r = (30, 0) ∨ r = (31, 0) := fun r q => by
    rcases List.mem_append.mp (show r ∈ X.2.2.2 ++ [(30, 0), (31, 0)] from q) with q | q
    · exact Or.inl q
    · right; simpa using q
  refine ⟨rfl, fun c q1 q2 => ?_, fun j hj => by omega, fun c j q1 q2 _ q => ?_, fun j q => ?_, ?_, fun c j q => ?_, fun c j q => mX_n (Or.inl q), rfl, fun _ _ => rfl, fun r q => List.mem_append_left _ q, fun r q => ?_⟩
  · refine List.mem_append_right _ ?_
    have : c = 30 ∨ c = 31 := by omega
    rcases this with rfl | rfl <;> simp
  · rcases hmem _ q with q | q | q
    · have := hr _ q; omega
    · simp at q; omega
    · simp at q; omega
  · rcases hmem _ q with q | q | q
    · have := hr _ q; simp at this
    · simp at q
    · simpa using q
  · unfold mZ; rw [upr_k (by decide), upr_s]
  · unfold mZ; rw [upr_k (by omega), upr_k (by omega)]
  · rcases hmem _ q with q | q | q
    · exact Or.inl q
    · subst q; exact Or.inr (by decide)
    · subst q; exact Or.inr (by decide)
theorem m5_s {X X1 : Sh} {Z Z1 : ZT} {a i : Nat} {A : Nat → Nat} (hi : i < 8) (H : m5 X Z a i X1 Z1) : m5 X Z a (i + 1) (bX X1 i A) (bZ Z1 i) := by
  obtain ⟨h1, h2, h3, h4, h5, h6, h7, h8, h9, h10, h11, h12⟩ := H
  have hmem : ∀ c j, (c, j) ∈ (bX X1 i A).2.2.2 → (c, j) ∈ X1.2.2.2 ∨ (j = i ∧ 40 ≤ c ∧ c ≤ 48) := fun c j q => by
    rcases List.mem_append.mp (show (c, j) ∈ X1.2.2.2 ++ _ from q) with q | q
    · exact Or.inl q
    · right
      simp at q
      omega
  refine ⟨by rw [bX_n (by omega)]; exact h1, fun c q1 q2 => List.mem_append_left _ (h2 c q1 q2), fun j hj => ?_, fun c j q1 q2 q3 q => ?_, fun j q => ?_, by rw [bZ_n (by omega)]; exact h6, fun c j q => by rw [bZ_n (by omega)]; exact h7 c j q, fun c j q => by rw [bX_n (by omega)]; exact h8 c j q, h9, fun j q => by rw [bX_g (by omega)]; exact h10 j q, fun r q => List.mem_append_left _ (h11 r q), fun r q => ?_⟩
  · by_cases e : j = i
    · subst e
      refine ⟨fun c q1 q2 => List.mem_append_right _ ?_, bX_f, by rw [bZ_s (by decide)]⟩
      have : c = 40 ∨ c = 41 ∨ c = 42 ∨ c = 43 ∨ c = 44 ∨ c = 45 ∨ c = 46 ∨ c = 47 ∨ c = 48 := by omega
      rcases this with rfl | rfl | rfl | rfl | rfl | rfl | rfl | rfl | rfl <;> simp
    · obtain ⟨g1, g2, g3⟩ := h3 j (by omega)
      exact ⟨fun c q1 q2 => List.mem_append_left _ (g1 c q1 q2), by rw [bX_g (by omega)]; exact g2, by rw [bZ_n (by omega)]; exact g3⟩
  · rcases hmem c j q with q | q
    · exact h4 c j q1 q2 (by omega) q
    · omega
  · rcases hmem 31 j q with q | q
    · exact h5 j q
    · omega
  · obtain ⟨c, j⟩ := r
    rcases hmem c j q with q | q
    · exact h12 _ q
    · exact Or.inr (by show 30 ≤ c; omega)

set_option maxHeartbeats 4000000 in
set_option maxRecDepth 100000 in
theorem c_X5_init (l : Launch) (sz0 : Nat) (D : va_G) (cs : Nat → ClassId) (X : Sh) (Z : ZT) (Y : va_W) (hr0 : ∀ r, r ∈ X.2.2.2 → r.1 < 30) (hf0 : ∀ j, 100 ≤ j → X.2.2.1 j = false) (a : Nat) : Ctr l yX5_init (wsM yX5_init cX5_init 2 none) ({ frames := 2, cells := 73, slots := 53864, locals := 40 } : Room) sz0 D cs [.ref a] X Z [(a, .inr (5, [.null, .int 0, .int 0, .int 0, .int 0]))] (fun X' Z' Y' v k n => Y' = [] ∧ v = none ∧ k = 73 ∧ n = 53864 ∧ m5 X Z a 8 X' Z') := by
  refine Ctr.ofW (by decide +kernel) (by intro v hv; simp at hv; rcases hv with rfl <;> rfl) (Nat.le_of_ble_eq_true rfl) ?_
  intro p e s m below meth c ls C hr hlocks hname hl hN hw
  obtain ⟨hx, hb, hml, hown, hts⟩ := id C
  refine lv_aload_n hx hb dX5_init_0 rfl (hl.at rfl) ?_
  refine w_obj C hl rfl mw65 dX5_init_1 (Nat.le_of_ble_eq_true rfl) (Nat.le_of_ble_eq_true rfl) ?_
  refine lv_aload_n hx hb dX5_init_4 rfl (hl.at rfl) ?_
  refine lv_bipush (v := 8) hx hb dX5_init_5 (by decide) ?_
  refine w_newqL C hN (Y0 := []) (L := [(a, .inr (5, [.null, .int 0, .int 0, .int 0, .int 0]))]) hw (t := 3) (N := 8) (Or.inr ⟨rfl, rfl⟩) mw66 (by decide) (by decide) (by decide) (Nat.le_of_ble_eq_true rfl) (Nat.le_of_ble_eq_true rfl) dX5_init_7 (fun qa H hw => ?_)
  refine w_putLF C hw hname (k0 := 0) rfl inA5 tyX5_ok nmX5 0 (by decide) mw67 rfl rfl rfl rfl dX5_init_10 rfl rfl rfl (Nat.le_of_ble_eq_true rfl) (fun H locs hw => ?_)
  have hw : Wd sz0 D cs s X Z ([] ++ [(a, .inr (5, [.ref qa, .int 0, .int 0, .int 0, .int 0])), (qa, .inl (cs 3, 8, .inr (.inr (.inr (.inr (fun _ => none))))))]) H locs := hw
  refine lv_aload_n hx hb dX5_init_13 rfl (hl.at rfl) ?_
  refine lv_bipush (v := 10) hx hb dX5_init_14 (by decide) ?_
  refine w_putL C hw (k0 := 0) rfl inA5 tyX5_ok nmX5 1 (by decide) mw68 rfl rfl rfl dX5_init_16 rfl rfl rfl (Nat.le_of_ble_eq_true rfl) (fun H locs hw => ?_)
  have hw : Wd sz0 D cs s X Z ([] ++ [(a, .inr (5, [.ref qa, .int 10, .int 0, .int 0, .int 0])), (qa, .inl (cs 3, 8, .inr (.inr (.inr (.inr (fun _ => none))))))]) H locs := hw
  refine lv_aload_n hx hb dX5_init_19 rfl (hl.at rfl) ?_
  refine lv_bipush (v := 7) hx hb dX5_init_20 (by decide) ?_
  refine w_putL C hw (k0 := 0) rfl inA5 tyX5_ok nmX5 2 (by decide) mw69 rfl rfl rfl dX5_init_22 rfl rfl rfl (Nat.le_of_ble_eq_true rfl) (fun H locs hw => ?_)
  have hw : Wd sz0 D cs s X Z ([] ++ [(a, .inr (5, [.ref qa, .int 10, .int 7, .int 0, .int 0])), (qa, .inl (cs 3, 8, .inr (.inr (.inr (.inr (fun _ => none))))))]) H locs := hw
  have hw : Wd sz0 D cs s (mX X a qa) (mZ Z) [] H locs := by
    obtain ⟨w1, w2, w3, w4⟩ := hw
    refine ⟨w1, ?_, ?_, w4⟩
    · rw [mX_wl hr0 hf0, List.append_nil]; exact w2
    · rw [mX_wl hr0 hf0, List.append_nil]; exact w3
  refine lv_iconst (v := 0) hx hb dX5_init_25 (by decide) ?_
  refine w_istore_n hx hb dX5_init_26 rfl hl (Nat.le_of_ble_eq_true rfl) (fun ls hl => ?_)
  have loop : ∀ (d i : Nat), i + d = 8 → ∀ (X1 : Sh) (Z1 : ZT) (kk nn : Nat) (H : Heap) (locs : List Loc) (ls : Array Slot), kk = 1 + 9 * i → nn = 8 + 6732 * i → m5 X Z a i X1 Z1 → lo ls [some (.ref (X1.1 30 0)), some (.int (nI i))] → Wd sz0 D cs s X1 Z1 [] H locs → W p l e ({ frames := 2, cells := 73, slots := 53864, locals := 40 } : Room) s m ([.ref a] : List Value).toArray below meth c H locs kk nn (xQ below (CQ sz0 D cs (fun X' Z' Y' v k n => Y' = [] ∧ v = none ∧ k = 73 ∧ n = 53864 ∧ m5 X Z a 8 X' Z')) ([.ref a] : List Value).toArray s (Asz sz0)) (F0 m 27 ls []) := by
    intro d
    induction d with
    | zero =>
      intro i hj X1 Z1 kk nn H locs ls ek en h5 hl hw
      refine lv_iload_n hx hb dX5_init_27 rfl (hl.at rfl) ?_
      refine lv_bipush (v := 8) hx hb dX5_init_28 (by decide) ?_
      refine lv_icmp_ge (tgt := 52) hx hb dX5_init_30 (by decide) (fun h30 => ?_) (fun h30 => ?_)
      · obtain rfl : i = 8 := by omega
        exact w_vret C hw hr hlocks dX5_init_52 ⟨rfl, rfl, by omega, by omega, h5⟩
      · exact absurd (nI_le (show 8 ≤ i by omega) (by omega)) h30
    | succ d ih =>
      intro i hj X1 Z1 kk nn H locs ls ek en h5 hl hw
      refine lv_iload_n hx hb dX5_init_27 rfl (hl.at rfl) ?_
      refine lv_bipush (v := 8) hx hb dX5_init_28 (by decide) ?_
      refine lv_icmp_ge (tgt := 52) hx hb dX5_init_30 (by decide) (fun h30 => ?_) (fun h30 => ?_)
      · exact absurd (show nI 8 ≤ nI i from h30) (nI_ge (show i < 8 by omega) (by decide))
      · have hi : i < 8 := by omega
        have hM := h5.2.1
        refine lv_aload_n hx hb dX5_init_33 rfl (hl.at rfl) ?_
        refine w_get C hw (c0 := 30) (i0 := 0) rfl inA5 0 (by decide) mw67 rfl dX5_init_34 (hM 30 (by decide) (by decide)) rfl rfl rfl ?_
        refine lv_iload_n hx hb dX5_init_37 rfl (hl.at rfl) ?_
        refine w_newL C (Y0 := []) (L := []) hw (ci := 4) (fs := [.int 0, .int 0, .null, .null, .null, .null, .null, .null, .null, .null, .int 0, .int 0, .int 0, .int 0, .int 0, .int 0, .int 0, .int 0, .int 0]) rfl inA4 tyX4_ok mw66 mw70 mw71 hfs4 (by show kk + 1 ≤ 73; omega) (by show nn + 19 ≤ 53864; omega) dX5_init_38 (fun q H hw => ?_)
        refine lv_dup hx hb dX5_init_41 rfl ?_
        refine w_callIN C hN hw (c_X4_init l sz0 D cs X1 _ [] q) ⟨(Nat.le_of_ble_eq_true rfl), (Nat.le_of_ble_eq_true rfl), mw73, mw71, cy_X4_init⟩ mw659 mw72 rfl rfl hl.1.1 rfl (Nat.le_of_ble_eq_true rfl) dX5_init_42 ⟨by show kk + 1 + 8 ≤ 73; omega, by show nn + 19 + 6713 ≤ 53864; omega⟩ (fun X' Z' Y' v k n H locs hp hw => ?_)
        obtain ⟨rfl, rfl, rfl, rfl, rfl, q1, q2, q3, q4, q5, q6, q7, q8, rfl⟩ := hp
        have hw : Wd sz0 D cs s X1 Z1 (bL cs (fun k => [q, q1, q2, q3, q4, q5, q6, q7, q8].getD k 0)) H locs := hw
        refine bX_ast (A := (fun k => [q, q1, q2, q3, q4, q5, q6, q7, q8].getD k 0)) C hw (hM 31 (by decide) (by decide)) hi (fun c q1 q2 q3 => h5.2.2.2.1 c i q1 q2 (Nat.le_refl _) q3) h5.2.2.2.2.1 dX5_init_45 (fun H locs hw => ?_)
        rw [← bX_n (X := X1) (i := i) (c := 30) (j := 0) (A := (fun k => [q, q1, q2, q3, q4, q5, q6, q7, q8].getD k 0)) (by omega)] at hl
        refine w_iinc hx hb dX5_init_46 hl rfl rfl (fun ls hl => ?_)
        refine lv_goto (tgt := 27) hx hb dX5_init_49 (by decide) ?_
        exact ih (i + 1) (by omega) _ _ _ _ _ _ _ (by omega) (by omega) (m5_s hi h5) (by rw [← nI_1 i]; exact hl) hw
  exact loop 8 0 (by decide) (mX X a qa) (mZ Z) _ _ _ _ _ rfl rfl (m5_0 hr0) hl hw
