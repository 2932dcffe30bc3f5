/-! ===== cells that are made, and not yet in their place: the last ones of Y ===== -/
section WL
variable {p : Program} {l : Launch} {e : Env} {R : Room} {s : State} {m : MethodId} {args : Array Value} {below : List Frame} {meth : Method} {c : Code} {H : Heap} {locs : List Loc} {cells slots : Nat} {Q : State → Prop}
variable {cc : ByteArray} {pc nL : Nat} {ls : Array Slot} {rest : List Value} {own : String}
variable {sz0 : Nat} {D : va_G} {cs : Nat → ClassId} {X : Sh} {Z : ZT} {Y0 : va_W}
abbrev zcell (cs : Nat → ClassId) (q N : Nat) : Nat × va_E := (q, .inl (cs 1, N, .inl (fun _ => 0)))
theorem wd_as {L M : va_W} : Wd sz0 D cs s X Z (Y0 ++ L ++ M) H locs = Wd sz0 D cs s X Z (Y0 ++ (L ++ M)) H locs := by rw [List.append_assoc]
theorem wl_L {L : va_W} {k : Nat} {x : Nat × va_E} (h : L[k]? = some x) : (Wl cs X Z ++ (Y0 ++ L))[X.2.2.2.length + (Y0.length + k)]? = some x := by
  rw [List.getElem?_append_right (by rw [wl_len]; omega), wl_len, show X.2.2.2.length + (Y0.length + k) - X.2.2.2.length = Y0.length + k by omega, List.getElem?_append_right (by omega), show Y0.length + k - Y0.length = k by omega]
  exact h
theorem wl_Ls {L : va_W} {k : Nat} {x : Nat × va_E} : (Wl cs X Z ++ (Y0 ++ L)).set (X.2.2.2.length + (Y0.length + k)) x = Wl cs X Z ++ (Y0 ++ L.set k x) := by
  rw [List.set_append_right _ _ (by rw [wl_len]; omega), wl_len, show X.2.2.2.length + (Y0.length + k) - X.2.2.2.length = Y0.length + k by omega, List.set_append_right _ _ (by omega), show Y0.length + k - Y0.length = k by omega]
theorem w_newiL (C : CallFix p m c cc nL s args wsA own) {L : va_W} (hw : Wd sz0 D cs s X Z (Y0 ++ L) H locs) {n : Int32} {N : Nat} (hn : ¬ n < 0) (hN : n.toNatClampNeg = N) (hbytes : N * 4 ≤ 536870912) (hcells : cells + 1 ≤ R.cells) (hslots : slots + N ≤ R.slots) (hdg : decode cc pc = .ok (.newarray .int, 2))
    (kk : ∀ (q : Nat) (H : Heap), Wd sz0 D cs s X Z (Y0 ++ (L ++ [lcell cs q N (fun _ => 0)])) H locs → W p l e R s m args below meth c H locs (cells + 1) (slots + N) Q (F0 m (pc + 2) ls (.ref q :: rest))) :
    W p l e R s m args below meth c H locs cells slots Q (F0 m pc ls (.int n :: rest)) :=
  w_newi C hw hn hN hbytes hcells hslots hdg (fun q H1 h => kk q H1 (by rw [← wd_as]; exact h))
theorem w_newzL (C : CallFix p m c cc nL s args wsA own) {L : va_W} (hw : Wd sz0 D cs s X Z (Y0 ++ L) H locs) {n : Int32} {N : Nat} (hn : ¬ n < 0) (hN : n.toNatClampNeg = N) (hbytes : N * 1 ≤ 536870912) (hcells : cells + 1 ≤ R.cells) (hslots : slots + N ≤ R.slots) (hdg : decode cc pc = .ok (.newarray .boolean, 2))
    (kk : ∀ (q : Nat) (H : Heap), Wd sz0 D cs s X Z (Y0 ++ (L ++ [zcell cs q N])) H locs → W p l e R s m args below meth c H locs (cells + 1) (slots + N) Q (F0 m (pc + 2) ls (.ref q :: rest))) :
    W p l e R s m args below meth c H locs cells slots Q (F0 m pc ls (.int n :: rest)) := by
  obtain ⟨hx, hb, hml, hown, hts⟩ := C
  have hA := hw.hA
  obtain ⟨hK, hP, hD, hS, hsz⟩ := hw
  refine va_newa hx hb (atype := .boolean) (ty := .boolean) (hts _ mw30) rfl hK hP hD hS hA (a0 := (N, .inl (fun _ => 0))) (fun _ => rfl) hn hN hbytes hcells hslots hdg (fun q cA H1 k1 k2 k3 k4 => ?_)
  have e1 : va_RA s cA .boolean := (k1.2 4 (cA, .boolean) rfl).2
  have e2 : va_RA s (cs 1) .boolean := (hK.2 1 (cs 1, .boolean) rfl).2
  have e3 : cA = cs 1 := Option.some.inj (Eq.trans (Eq.symm (show s.vm.findClass _ = some cA from e1)) (show s.vm.findClass _ = some (cs 1) from e2))
  subst e3
  rw [List.append_assoc, List.append_assoc] at k2 k3
  exact kk q H1 ⟨hK, k2, k3, k4, hsz⟩
theorem w_newqL (C : CallFix p m c cc nL s args wsA own) (hNW : NW s) {L : va_W} (hw : Wd sz0 D cs s X Z (Y0 ++ L) H locs) {n : Int32} {N index t : Nat} {Cn : String} (ht : (t = 2 ∧ Cn = RX0) ∨ (t = 3 ∧ Cn = RX4)) (hlk : Cond.classLink own index Cn ∈ wsA) (hn : ¬ n < 0) (hN : n.toNatClampNeg = N) (hbytes : N * 4 ≤ 536870912) (hcells : cells + 1 ≤ R.cells) (hslots : slots + N ≤ R.slots) (hdg : decode cc pc = .ok (.anewarray index, 3))
    (kk : ∀ (q : Nat) (H : Heap), Wd sz0 D cs s X Z (Y0 ++ (L ++ [(q, .inl (cs t, N, .inr (.inr (.inr (.inr (fun _ => none))))))])) H locs → W p l e R s m args below meth c H locs (cells + 1) (slots + N) Q (F0 m (pc + 3) ls (.ref q :: rest))) :
    W p l e R s m args below meth c H locs cells slots Q (F0 m pc ls (.int n :: rest)) := by
  obtain ⟨hx, hb, hml, hown, hts⟩ := C
  have hA := hw.hA
  obtain ⟨hK, hP, hD, hS, hsz⟩ := hw
  have hao : va_AO Cn s := by rcases ht with ⟨-, rfl⟩ | ⟨-, rfl⟩; exact hNW.2.1; exact hNW.2.2
  refine va_newq hx hb hown (hts _ hlk) hao hK hP hD hS hA hn hN hbytes hcells hslots hdg (fun q cA H1 k1 k2 k3 k4 => ?_)
  have e1 : va_RA s cA (.object Cn) := (k1.2 4 (cA, .object Cn) rfl).2
  have e2 : va_RA s (cs t) (.object Cn) := by rcases ht with ⟨rfl, rfl⟩ | ⟨rfl, rfl⟩; exact (hK.2 2 _ rfl).2; exact (hK.2 3 _ rfl).2
  have e3 : cA = cs t := by
    obtain ⟨_, _, _, _, _, f1⟩ := e1
    obtain ⟨_, _, _, _, _, f2⟩ := e2
    exact Option.some.inj (f1.symm.trans f2)
  subst e3
  rw [List.append_assoc, List.append_assoc] at k2 k3
  exact kk q H1 ⟨hK, k2, k3, k4, hsz⟩
theorem w_newL (C : CallFix p m c cc nL s args wsA own) {L : va_W} (hw : Wd sz0 D cs s X Z (Y0 ++ L) H locs) {Cn : String} {T : u_T} {N ci index : Nat} {ty : Nat → FieldType} {fs : List Value} (hcl : vwCl[ci]? = some (Cn, T, N)) (hin : ∀ w ∈ u_ws Cn T N, w ∈ wsA) (hty : ∀ k, k < N → parseFieldDescriptor (T k).2.2.1 = some (ty k)) (hlk : Cond.classLink own index Cn ∈ wsA) (hinst : Cond.instantiable Cn N ∈ wsA) (hini : Cond.initialized Cn ∈ wsA)
    (hfs : ∀ j, j < N → defaultValue (ty j) = vp_V fs j) (hcells : cells + 1 ≤ R.cells) (hslots : slots + N ≤ R.slots) (hdg : decode cc pc = .ok (.new index, 3))
    (kk : ∀ (q : Nat) (H : Heap), Wd sz0 D cs s X Z (Y0 ++ (L ++ [(q, .inr (ci, fs))])) H locs → W p l e R s m args below meth c H locs (cells + 1) (slots + N) Q (F0 m (pc + 3) ls (.ref q :: rest))) :
    W p l e R s m args below meth c H locs cells slots Q (F0 m pc ls rest) := by
  obtain ⟨hx, hb, hml, hown, hts⟩ := C
  have hA := hw.hA
  obtain ⟨hK, hP, hD, hS, hsz⟩ := hw
  refine va_new hx hb hts hin ty hty hown (hts _ hlk) (hts _ hinst) (hts _ hini) hK hP hD hS hA hcl hfs hcells hslots hdg (fun q H1 k2 k3 k4 => ?_)
  rw [List.append_assoc, List.append_assoc] at k2 k3
  exact kk q H1 ⟨hK, k2, k3, k4, hsz⟩
theorem w_putLF (C : CallFix p m c cc nL s args wsA own) {L : va_W} (hw : Wd sz0 D cs s X Z (Y0 ++ L) H locs) (hin2 : meth.name = "<init>") {ref Cn : String} {T : u_T} {ty0 : Nat → FieldType} {ty : FieldType} {N ci index a k0 : Nat} {fs : List Value} {v : Value} (hcl : vwCl[ci]? = some (Cn, T, N)) (hin : ∀ w ∈ u_ws Cn T N, w ∈ wsA) (hty : ∀ k, k < N → parseFieldDescriptor (T k).2.2.1 = some (ty0 k)) (hnm : ∀ a, a < N → ∀ b, b < N → a ≠ b → (T a).2.1 ≠ (T b).2.1) (k : Nat) (hk : k < N) (hlk : Cond.fieldLink own index ref (T k).2.1 (T k).2.2.1 ∈ wsA) (href : (T k).1 = ref) (hfin : (T k).2.2.2 = true) (hdecl : (T k).1 = own) (htk : ty0 k = ty) (hdg : decode cc pc = .ok (.putfield index, 3))
    (hL : L[k0]? = some (a, .inr (ci, fs))) (hn : narrow ty v = v) (hfit : fits ty v = true) (hl : k < fs.length)
    (kk : ∀ (H1 : Heap) (locs1 : List Loc), Wd sz0 D cs s X Z (Y0 ++ L.set k0 (a, .inr (ci, fs.set k v))) H1 locs1 → W p l e R s m args below meth c H1 locs1 cells slots Q (F0 m (pc + 3) ls rest)) : W p l e R s m args below meth c H locs cells slots Q (F0 m pc ls (v :: .ref a :: rest)) := by
  obtain ⟨hx, hb, -, hown, hts⟩ := C
  obtain ⟨hK, hP, hD, hS, hsz⟩ := hw
  refine va_putF hx hb hts hin ty0 hty hnm hown hK hP hD hS _ (wl_L hL) hcl k hk (hts _ hlk) (fun _ h9 => href ▸ h9) hfin hin2 hdecl (ty := ty) (by rw [← htk]; exact hty k hk) hn hfit hl hdg (fun H1 locs1 h1 h2 h3 => ?_)
  rw [wl_Ls] at h1 h2
  exact kk H1 locs1 ⟨hK, h1, h2, h3, hsz⟩
theorem w_putL (C : CallFix p m c cc nL s args wsA own) {L : va_W} (hw : Wd sz0 D cs s X Z (Y0 ++ L) H locs) {ref Cn : String} {T : u_T} {ty0 : Nat → FieldType} {ty : FieldType} {N ci index a k0 : Nat} {fs : List Value} {v : Value} (hcl : vwCl[ci]? = some (Cn, T, N)) (hin : ∀ w ∈ u_ws Cn T N, w ∈ wsA) (hty : ∀ k, k < N → parseFieldDescriptor (T k).2.2.1 = some (ty0 k)) (hnm : ∀ a, a < N → ∀ b, b < N → a ≠ b → (T a).2.1 ≠ (T b).2.1) (k : Nat) (hk : k < N) (hlk : Cond.fieldLink own index ref (T k).2.1 (T k).2.2.1 ∈ wsA) (href : (T k).1 = ref) (hfin : (T k).2.2.2 = false) (htk : ty0 k = ty) (hdg : decode cc pc = .ok (.putfield index, 3))
    (hL : L[k0]? = some (a, .inr (ci, fs))) (hn : narrow ty v = v) (hfit : fits ty v = true) (hl : k < fs.length)
    (kk : ∀ (H1 : Heap) (locs1 : List Loc), Wd sz0 D cs s X Z (Y0 ++ L.set k0 (a, .inr (ci, fs.set k v))) H1 locs1 → W p l e R s m args below meth c H1 locs1 cells slots Q (F0 m (pc + 3) ls rest)) : W p l e R s m args below meth c H locs cells slots Q (F0 m pc ls (v :: .ref a :: rest)) := by
  obtain ⟨hx, hb, -, hown, hts⟩ := C
  obtain ⟨hK, hP, hD, hS, hsz⟩ := hw
  refine va_put hx hb hts hin ty0 hty hnm hown hK hP hD hS _ (wl_L hL) hcl k hk (hts _ hlk) (fun _ h9 => href ▸ h9) hfin (ty := ty) (by rw [← htk]; exact hty k hk) hn hfit hl hdg (fun H1 locs1 h1 h2 h3 => ?_)
  rw [wl_Ls] at h1 h2
  exact kk H1 locs1 ⟨hK, h1, h2, h3, hsz⟩
theorem w_getL (C : CallFix p m c cc nL s args wsA own) {L : va_W} (hw : Wd sz0 D cs s X Z (Y0 ++ L) H locs) {ref Cn : String} {T : u_T} {N ci index a k0 : Nat} {fs : List Value} {v : Value} (hcl : vwCl[ci]? = some (Cn, T, N)) (hin : ∀ w ∈ u_ws Cn T N, w ∈ wsA) (k : Nat) (hk : k < N) (hlk : Cond.fieldLink own index ref (T k).2.1 (T k).2.2.1 ∈ wsA) (href : (T k).1 = ref) (hdg : decode cc pc = .ok (.getfield index, 3))
    (hL : L[k0]? = some (a, .inr (ci, fs))) (hv : fs[k]? = some v)
    (kk : W p l e R s m args below meth c H locs cells slots Q (F0 m (pc + 3) ls (v :: rest))) : W p l e R s m args below meth c H locs cells slots Q (F0 m pc ls (.ref a :: rest)) := by
  obtain ⟨hx, hb, -, hown, hts⟩ := C
  exact va_get hx hb hts hin hown hw.1 hw.2.1 _ (wl_L hL) hcl k hk (hts _ hlk) (fun _ h9 => href ▸ h9) hv hdg kk
end WL
/-- the object's own first call -/
theorem w_obj {p : Program} {l : Launch} {e : Env} {R : Room} {s : State} {m : MethodId} {args : Array Value} {below : List Frame} {meth : Method} {c : Code} {H : Heap} {locs : List Loc} {cells slots : Nat} {Q : State → Prop} {cc : ByteArray} {pc nL : Nat} {ls : Array Slot} {rest : List Value} {own : String} {L : List (Option Value)} {a index : Nat} (C : CallFix p m c cc nL s args wsA own) (hl : lo ls L) (hn : L.length = nL) (hlk : Cond.methodLink own index objectInit ∈ wsA) (hdg : decode cc pc = .ok (.invokespecial index, 3)) (hfr : 1 ≤ R.frames) (hlo : (rest.map fun v => v.category).sum + 12 ≤ R.locals)
    (kk : W p l e R s m args below meth c H locs cells slots Q (F0 m (pc + 3) ls rest)) : W p l e R s m args below meth c H locs cells slots Q (F0 m pc ls (.ref a :: rest)) := by
  obtain ⟨hx, hb, hml, hown, hts⟩ := C
  refine W.objInit hx hb hown (hts _ hlk) (hts _ mw11) (hts _ mw12) rfl (by rw [hml, ← hn]; exact hl.1.1) rfl hdg hfr (by show 2 * 0 + _ + 12 ≤ _; omega) ?_
  exact W.eq (g2 := F0 m (pc + 3) ls rest) rfl kk
