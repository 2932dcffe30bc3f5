/-! ===== the heap by roles: kind, instance, slot ===== -/
abbrev ZT : Type := Nat → Nat → Nat → Int32
def upr (Z : ZT) (c i : Nat) (f : Nat → Int32) : ZT := fun c' i' => if c' = c ∧ i' = i then f else Z c' i'
theorem upr_s {Z : ZT} {c i : Nat} {f : Nat → Int32} : upr Z c i f c i = f := by simp [upr]
theorem upr_n {Z : ZT} {c i c' i' : Nat} {f : Nat → Int32} (h : ¬ (c' = c ∧ i' = i)) : upr Z c i f c' i' = Z c' i' := by simp [upr, h]
theorem upr_k {Z : ZT} {c i c' i' : Nat} {f : Nat → Int32} (h : c' ≠ c) : upr Z c i f c' i' = Z c' i' := upr_n (fun q => h q.1)
theorem upr_i {Z : ZT} {c i c' i' : Nat} {f : Nat → Int32} (h : i' ≠ i) : upr Z c i f c' i' = Z c' i' := upr_n (fun q => h q.2)
/-- addresses by role; the lengths of the two rows that grow; which guests are made; the roles that are there -/
abbrev Sh : Type := (Nat → Nat → Nat) × (Nat → Nat) × (Nat → Bool) × List (Nat × Nat)
def Ec (cs : Nat → ClassId) (X : Sh) (c i : Nat) (z : Nat → Int32) : va_E :=
  match c with
  | 0 => .inr (3, [.ref (X.1 2 0), .ref (X.1 12 0), .ref (X.1 1 0), .int (z 3), .int (z 4), .int (z 5), .int (z 6)])
  | 1 => .inl (cs 2, 8, .inr (.inr (.inr (.inr (fun j => if X.2.2.1 j then some (X.1 20 j) else none)))))
  | 2 => .inr (1, [.int (z 0), .int (z 1), .int (z 2), .int (z 3), .ref (X.2.1 13), .ref (X.2.1 14), .ref (X.1 5 0), .ref (X.1 6 0), .ref (X.1 7 0), .ref (X.1 8 0), .ref (X.1 9 0), .ref (X.1 10 0), .ref (X.1 11 0)])
  | 3 => .inl (cs 0, X.2.1 3, .inl z)
  | 4 => .inl (cs 0, X.2.1 4, .inl z)
  | 5 => .inl (cs 0, 256, .inl z)
  | 6 => .inl (cs 1, 256, .inl z)
  | 7 => .inl (cs 0, 513, .inl z)
  | 8 => .inl (cs 0, 513, .inl z)
  | 9 => .inl (cs 1, 513, .inl z)
  | 10 => .inl (cs 0, 513, .inl z)
  | 11 => .inl (cs 0, 513, .inl z)
  | 12 => .inr (2, [.ref (X.1 2 0), .int (z 1), .int (z 2), .int (z 3), .int (z 4)])
  | 20 => .inr (0, [.int (z 0), .int (z 1), .int (z 2), .int (z 3), .int (z 4), .int (z 5), .int (z 6), .ref (X.1 21 i), .ref (X.1 22 i), .ref (X.1 23 i), .ref (X.1 24 i), .ref (X.1 25 i), .ref (X.1 26 i), .int (z 13), .int (z 14), .ref (X.1 27 i), .int (z 16)])
  | 21 => .inl (cs 0, 64, .inl z)
  | 22 => .inl (cs 0, 1024, .inl z)
  | 23 => .inl (cs 0, 8, .inl z)
  | 24 => .inl (cs 0, 10, .inl z)
  | 25 => .inl (cs 0, 256, .inl z)
  | 26 => .inl (cs 0, 64, .inl z)
  | 27 => .inl (cs 0, 1000, .inl z)
  | 30 => .inr (5, [.ref (X.1 31 0), .int (z 1), .int (z 2), .int (z 3), .int (z 4)])
  | 31 => .inl (cs 3, 8, .inr (.inr (.inr (.inr (fun j => if X.2.2.1 (100 + j) then some (X.1 40 j) else none)))))
  | 40 => .inr (4, [.int (z 0), .int (z 1), .ref (X.1 41 i), .ref (X.1 42 i), .ref (X.1 43 i), .ref (X.1 44 i), .ref (X.1 45 i), .ref (X.1 46 i), .ref (X.1 47 i), .ref (X.1 48 i), .int (z 10), .int (z 11), .int (z 12), .int (z 13), .int (z 14), .int (z 15), .int (z 16), .int (z 17), .int (z 18)])
  | 41 => .inl (cs 0, 4096, .inl z)
  | 42 => .inl (cs 0, 1024, .inl z)
  | 43 => .inl (cs 0, 8, .inl z)
  | 44 => .inl (cs 0, 9, .inl z)
  | 45 => .inl (cs 0, 256, .inl z)
  | 46 => .inl (cs 0, 256, .inl z)
  | 47 => .inl (cs 0, 64, .inl z)
  | 48 => .inl (cs 0, 1000, .inl z)
  | _ => .inl (cs 0, 0, .inl z)
def adr (X : Sh) (c i : Nat) : Nat := match c with
  | 3 => X.2.1 13
  | 4 => X.2.1 14
  | _ => X.1 c i
def Wl (cs : Nat → ClassId) (X : Sh) (Z : ZT) : va_W := X.2.2.2.map (fun r => (adr X r.1 r.2, Ec cs X r.1 r.2 (Z r.1 r.2)))
theorem wl_len {cs : Nat → ClassId} {X : Sh} {Z : ZT} : (Wl cs X Z).length = X.2.2.2.length := by simp [Wl]
theorem wl_at {cs : Nat → ClassId} {X : Sh} {Z : ZT} {Y : va_W} {k c i : Nat} (h : X.2.2.2[k]? = some (c, i)) : (Wl cs X Z ++ Y)[k]? = some (adr X c i, Ec cs X c i (Z c i)) := by
  have hl := (List.getElem?_eq_some_iff.mp h).1
  rw [List.getElem?_append_left (by rw [wl_len]; exact hl)]
  simp [Wl, h]
theorem wl_pos {cs : Nat → ClassId} {X : Sh} {Z : ZT} {Y : va_W} {c i : Nat} (h : (c, i) ∈ X.2.2.2) : ∃ k : Nat, (Wl cs X Z ++ Y)[k]? = some (adr X c i, Ec cs X c i (Z c i)) := by
  obtain ⟨k, hk⟩ := List.getElem?_of_mem h
  exact ⟨k, wl_at hk⟩
theorem wl_set {cs : Nat → ClassId} {X : Sh} {Z : ZT} {Y : va_W} {A : Nat → Prop} (hD : va_D A (Wl cs X Z ++ Y)) {k c i : Nat} {e0 : va_E} (hk : (Wl cs X Z ++ Y)[k]? = some (adr X c i, e0)) (hm : (c, i) ∈ X.2.2.2) (f : Nat → Int32) :
    (Wl cs X Z ++ Y).set k (adr X c i, Ec cs X c i f) = Wl cs X (upr Z c i f) ++ Y := by
  obtain ⟨k', hk'⟩ := List.getElem?_of_mem hm
  have hp := wl_at (cs := cs) (Z := Z) (Y := Y) hk'
  have hkk : k = k' := hD.1 k k' _ _ hk hp rfl
  subst hkk
  have hl := (List.getElem?_eq_some_iff.mp hk).1
  apply List.ext_getElem?
  intro j
  by_cases hj : j = k
  · subst hj
    rw [List.getElem?_set_self hl, wl_at (Z := upr Z c i f) hk', upr_s]
  · rw [List.getElem?_set_ne (Ne.symm hj)]
    by_cases hjl : j < X.2.2.2.length
    · obtain ⟨r, hr⟩ : ∃ r, X.2.2.2[j]? = some r := ⟨_, List.getElem?_eq_getElem hjl⟩
      obtain ⟨c', i'⟩ := r
      rw [wl_at hr, wl_at hr, upr_n]
      rintro ⟨rfl, rfl⟩
      exact hj (hD.1 j k _ _ (wl_at hr) hk rfl)
    · rw [List.getElem?_append_right (by rw [wl_len]; omega), List.getElem?_append_right (by rw [wl_len]; omega), wl_len, wl_len]
/-- links between nest mates: they hold of the state itself -/
def isNest : Cond → Bool
  | .fieldLinkNest _ _ _ _ _ _ => true
  | .methodLinkNest _ _ _ _ => true
  | _ => false
def NW (U : State) : Prop := (∀ w ∈ lw_tbl, isNest w = true → va_Nw w U) ∧ va_AO RX0 U ∧ va_AO RX4 U
theorem NW.warm {s U : State} (hW : s.WarmedH U.vm) (h : NW s) : NW U := ⟨fun w hw hn => by
  have h1 := h.1 w hw hn
  cases w <;> first | (cases hn; done) | exact va_Nw.warmF hW h1 | exact va_Nw.warmM hW h1, va_AO.moved hW.alike h.2.1, va_AO.moved hW.alike h.2.2⟩
theorem NW.same {s U : State} (hv : s.vm = U.vm) (h : NW s) : NW U := ⟨fun w hw hn => by
  have h1 := h.1 w hw hn
  cases w <;> first | (cases hn; done) | exact va_Nw.same rfl hv h1, va_AO.moved (by rw [hv]; exact Vm.Alike.refl _) h.2.1, va_AO.moved (by rw [hv]; exact Vm.Alike.refl _) h.2.2⟩
def Asz (sz0 : Nat) : Nat → Prop := fun q => sz0 ≤ q
abbrev tysA (cs : Nat → ClassId) : List (ClassId × FieldType) := [(cs 0, .int), (cs 1, .boolean), (cs 2, .object RX0), (cs 3, .object RX4)]
def Wd0 (sz0 : Nat) (D : va_G) (cs : Nat → ClassId) (X : Sh) (Z : ZT) (Y : va_W) (U : State) : Prop := va_K D vwCl (tysA cs) U ∧ va_P D vwCl (Wl cs X Z ++ Y) U.heap ∧ va_D (Asz sz0) (Wl cs X Z ++ Y) ∧ sz0 ≤ U.heap.size
def Wd (sz0 : Nat) (D : va_G) (cs : Nat → ClassId) (s : State) (X : Sh) (Z : ZT) (Y : va_W) (H : Heap) (locs : List Loc) : Prop :=
  va_K D vwCl (tysA cs) s ∧ va_P D vwCl (Wl cs X Z ++ Y) H ∧ va_D (Asz sz0) (Wl cs X Z ++ Y) ∧ va_S (Asz sz0) s.heap H locs ∧ sz0 ≤ s.heap.size
def CQ (sz0 : Nat) (D : va_G) (cs : Nat → ClassId) (Post : Sh → ZT → va_W → Option Value → Nat → Nat → Prop) : Array Value → State → Outcome → State → Nat → Nat → Prop := fun _ st oc t k n => (∃ (X' : Sh) (Z' : ZT) (Y' : va_W) (v : Option Value), oc = .returned v ∧ Wd0 sz0 D cs X' Z' Y' t ∧ Post X' Z' Y' v k n) ∧ va_F (Asz sz0) st t
def CP (sz0 : Nat) (D : va_G) (cs : Nat → ClassId) (av : List Value) (X : Sh) (Z : ZT) (Y : va_W) : Array Value → State → Prop := fun a U => a = av.toArray ∧ NW U ∧ Wd0 sz0 D cs X Z Y U
/-- a contract: from a world, to a world -/
def Ctr (l : Launch) (y : MethodName) (ws : List Cond) (rm : Room) (sz0 : Nat) (D : va_G) (cs : Nat → ClassId) (av : List Value) (X : Sh) (Z : ZT) (Y : va_W) (Post : Sh → ZT → va_W → Option Value → Nat → Nat → Prop) : Prop :=
  xMet l y ws rm (CP sz0 D cs av X Z Y) (CQ sz0 D cs Post) (Asz sz0)
/-- the post of a method that makes nothing -/
def Pz (X : Sh) (Y : va_W) (P : ZT → Option Value → Prop) : Sh → ZT → va_W → Option Value → Nat → Nat → Prop := fun X' Z' Y' v k n => X = X' ∧ Y = Y' ∧ k = 0 ∧ n = 0 ∧ P Z' v
theorem CP.blind {sz0 : Nat} {D : va_G} {cs : Nat → ClassId} {av : List Value} {X : Sh} {Z : ZT} {Y : va_W} : FrameBlind (CP sz0 D cs av X Z Y) := fun a U g mk q => by
  obtain ⟨q0, qn, q1, q2, q3, q4⟩ := q
  exact ⟨q0, NW.same (s := U) (U := U.calling g mk a) rfl qn, va_K.moved (u := U) (U := U.calling g mk a) (Vm.Alike.refl U.vm) q1, q2, q3, q4⟩
theorem Ctr.ofW {l : Launch} {y : MethodName} {cc : ByteArray} {maxL : Nat} {ret : Option FieldType} {rm : Room} {sz0 : Nat} {D : va_G} {cs : Nat → ClassId} {av : List Value} {X : Sh} {Z : ZT} {Y : va_W} {Post : Sh → ZT → va_W → Option Value → Nat → Nat → Prop}
    (hy : plainName y.cls = true) (hc : ∀ v ∈ av, v.category = 1) (hn : av.length ≤ maxL)
    (body : ∀ (p : Program) (e : Env) (s : State) (m : MethodId) (below : List Frame) (meth : Method) (c : Code) (ls : Array Slot), CallFix p m c cc maxL s av.toArray wsA y.cls → meth.sig.returnType = ret → meth.locks = false → meth.name = y.name →
      lo ls (av.map some ++ List.replicate (maxL - av.length) none) → NW s → Wd sz0 D cs s X Z Y s.heap [] →
      W p l e rm s m av.toArray below meth c s.heap [] 0 0 (xQ below (CQ sz0 D cs Post) av.toArray s (Asz sz0)) (F0 m 0 ls [])) :
    Ctr l y (wsM y cc maxL ret) rm sz0 D cs av X Z Y Post := by
  refine xMet.ofW (cc := cc) (maxL := maxL) (ret := ret) hy rfl ?_
  intro p e s m args below meth c s₁ B hml hv
  obtain ⟨rfl, hN, hK, hP, hD, hsz⟩ := hv
  have hts := atoms_spec (ws := wsM y cc maxL ret) B.pre
  have hown : s.vm.findClass y.cls = some m.cls := findClass_of_methodNamed B.named
  rw [lg_entry_eq]
  exact body p e s m below meth c _ ⟨B.exec, B.bytes, hml, hown, fun w hw => hts w (List.mem_cons_of_mem _ hw)⟩ B.returns B.notSynchronized (name_of_methodNamed B.named B.method).1 (lo_entry av hc hn) hN ⟨hK, hP, hD, va_S.rf, hsz⟩
section WR
variable {p : Program} {l : Launch} {e : Env} {R : Room} {s : State} {m : MethodId} {args : Array Value} {below : List Frame} {meth : Method} {c : Code} {H : Heap} {locs : List Loc} {cells slots : Nat} {Q : State → Prop}
variable {cc : ByteArray} {pc nL : Nat} {ls : Array Slot} {rest : List Value} {own : String}
variable {sz0 : Nat} {D : va_G} {cs : Nat → ClassId} {X : Sh} {Z : ZT} {Y : va_W}
theorem vpk {i : Int32} {n : Nat} (h : (decide (0 ≤ i.toInt) && decide (i.toInt < n)) = true) : vp_in i n := by
  simp only [Bool.and_eq_true, decide_eq_true_eq] at h
  exact vp_in_iff.mpr h
theorem w_get (C : CallFix p m c cc nL s args wsA own) (hw : Wd sz0 D cs s X Z Y H locs) {ref Cn : String} {T : u_T} {N ci index c0 i0 : Nat} {fs : List Value} {v : Value} (hcl : vwCl[ci]? = some (Cn, T, N)) (hin : ∀ w ∈ u_ws Cn T N, w ∈ wsA) (k : Nat) (hk : k < N) (hlk : Cond.fieldLink own index ref (T k).2.1 (T k).2.2.1 ∈ wsA) (href : (T k).1 = ref) (hdg : decode cc pc = .ok (.getfield index, 3))
    (hm : (c0, i0) ∈ X.2.2.2) {a : Nat} (ha : adr X c0 i0 = a) (he : Ec cs X c0 i0 (Z c0 i0) = .inr (ci, fs)) (hv : fs[k]? = some v)
    (kk : W p l e R s m args below meth c H locs cells slots Q (F0 m (pc + 3) ls (v :: rest))) : W p l e R s m args below meth c H locs cells slots Q (F0 m pc ls (.ref a :: rest)) := by
  subst ha
  obtain ⟨hx, hb, -, hown, hts⟩ := C
  obtain ⟨q0, hq⟩ := wl_pos (cs := cs) (Z := Z) (Y := Y) hm
  rw [he] at hq
  exact va_get hx hb hts hin hown hw.1 hw.2.1 q0 hq hcl k hk (hts _ hlk) (fun _ h9 => href ▸ h9) hv hdg kk
theorem w_put (C : CallFix p m c cc nL s args wsA own) (hw : Wd sz0 D cs s X Z Y H locs) {ref Cn : String} {T : u_T} {ty0 : Nat → FieldType} {ty : FieldType} {N ci index c0 i0 : Nat} {fs : List Value} {v : Int32} (hcl : vwCl[ci]? = some (Cn, T, N)) (hin : ∀ w ∈ u_ws Cn T N, w ∈ wsA) (hty : ∀ k, k < N → parseFieldDescriptor (T k).2.2.1 = some (ty0 k)) (hnm : ∀ a, a < N → ∀ b, b < N → a ≠ b → (T a).2.1 ≠ (T b).2.1) (k : Nat) (hk : k < N) (hlk : Cond.fieldLink own index ref (T k).2.1 (T k).2.2.1 ∈ wsA) (href : (T k).1 = ref) (hfin : (T k).2.2.2 = false) (htk : ty0 k = ty) (hdg : decode cc pc = .ok (.putfield index, 3))
    (hm : (c0, i0) ∈ X.2.2.2) {a : Nat} (ha : adr X c0 i0 = a) (hn : narrow ty (.int v) = .int v) (hfit : fits ty (.int v) = true) (he : Ec cs X c0 i0 (Z c0 i0) = .inr (ci, fs)) (hl : k < fs.length) (he' : Ec cs X c0 i0 (upd (Z c0 i0) k v) = .inr (ci, fs.set k (.int v)))
    (kk : ∀ (H1 : Heap) (locs1 : List Loc), Wd sz0 D cs s X (upr Z c0 i0 (upd (Z c0 i0) k v)) Y H1 locs1 → W p l e R s m args below meth c H1 locs1 cells slots Q (F0 m (pc + 3) ls rest)) : W p l e R s m args below meth c H locs cells slots Q (F0 m pc ls (.int v :: .ref a :: rest)) := by
  subst ha
  obtain ⟨hx, hb, -, hown, hts⟩ := C
  obtain ⟨hK, hP, hD, hS, hsz⟩ := hw
  obtain ⟨q0, hq⟩ := wl_pos (cs := cs) (Z := Z) (Y := Y) hm
  have hq2 := hq
  rw [he] at hq2
  refine va_put hx hb hts hin ty0 hty hnm hown hK hP hD hS q0 hq2 hcl k hk (hts _ hlk) (fun _ h9 => href ▸ h9) hfin (ty := ty) (by rw [← htk]; exact hty k hk) hn hfit hl hdg (fun H1 locs1 h1 h2 h3 => ?_)
  rw [← he', wl_set hD hq hm] at h1 h2
  exact kk H1 locs1 ⟨hK, h1, h2, h3, hsz⟩
theorem w_getN (C : CallFix p m c cc nL s args wsA own) (hN : NW s) (hw : Wd sz0 D cs s X Z Y H locs) {ref Cn host : String} {T : u_T} {N ci index c0 i0 : Nat} {fs : List Value} {v : Value} (hcl : vwCl[ci]? = some (Cn, T, N)) (hin : ∀ w ∈ u_ws Cn T N, w ∈ wsA) (k : Nat) (hk : k < N) (hlk : Cond.fieldLinkNest own index ref (T k).2.1 (T k).2.2.1 host ∈ lw_tbl) (href : (T k).1 = ref) (hdg : decode cc pc = .ok (.getfield index, 3))
    (hm : (c0, i0) ∈ X.2.2.2) {a : Nat} (ha : adr X c0 i0 = a) (he : Ec cs X c0 i0 (Z c0 i0) = .inr (ci, fs)) (hv : fs[k]? = some v)
    (kk : W p l e R s m args below meth c H locs cells slots Q (F0 m (pc + 3) ls (v :: rest))) : W p l e R s m args below meth c H locs cells slots Q (F0 m pc ls (.ref a :: rest)) := by
  subst ha
  obtain ⟨hx, hb, -, hown, hts⟩ := C
  obtain ⟨q0, hq⟩ := wl_pos (cs := cs) (Z := Z) (Y := Y) hm
  rw [he] at hq
  exact va_getN hx hb hts hin hown hw.1 hw.2.1 q0 hq hcl k hk (va_Nw.use rfl (hN.1 _ hlk rfl)) (fun _ h9 => href ▸ h9) hv hdg kk
theorem w_putN (C : CallFix p m c cc nL s args wsA own) (hN : NW s) (hw : Wd sz0 D cs s X Z Y H locs) {ref Cn host : String} {T : u_T} {ty0 : Nat → FieldType} {ty : FieldType} {N ci index c0 i0 : Nat} {fs : List Value} {v : Int32} (hcl : vwCl[ci]? = some (Cn, T, N)) (hin : ∀ w ∈ u_ws Cn T N, w ∈ wsA) (hty : ∀ k, k < N → parseFieldDescriptor (T k).2.2.1 = some (ty0 k)) (hnm : ∀ a, a < N → ∀ b, b < N → a ≠ b → (T a).2.1 ≠ (T b).2.1) (k : Nat) (hk : k < N) (hlk : Cond.fieldLinkNest own index ref (T k).2.1 (T k).2.2.1 host ∈ lw_tbl) (href : (T k).1 = ref) (hfin : (T k).2.2.2 = false) (htk : ty0 k = ty) (hdg : decode cc pc = .ok (.putfield index, 3))
    (hm : (c0, i0) ∈ X.2.2.2) {a : Nat} (ha : adr X c0 i0 = a) (hn : narrow ty (.int v) = .int v) (hfit : fits ty (.int v) = true) (he : Ec cs X c0 i0 (Z c0 i0) = .inr (ci, fs)) (hl : k < fs.length) (he' : Ec cs X c0 i0 (upd (Z c0 i0) k v) = .inr (ci, fs.set k (.int v)))
    (kk : ∀ (H1 : Heap) (locs1 : List Loc), Wd sz0 D cs s X (upr Z c0 i0 (upd (Z c0 i0) k v)) Y H1 locs1 → W p l e R s m args below meth c H1 locs1 cells slots Q (F0 m (pc + 3) ls rest)) : W p l e R s m args below meth c H locs cells slots Q (F0 m pc ls (.int v :: .ref a :: rest)) := by
  subst ha
  obtain ⟨hx, hb, -, hown, hts⟩ := C
  obtain ⟨hK, hP, hD, hS, hsz⟩ := hw
  obtain ⟨q0, hq⟩ := wl_pos (cs := cs) (Z := Z) (Y := Y) hm
  have hq2 := hq
  rw [he] at hq2
  refine va_putN hx hb hts hin ty0 hty hnm hown hK hP hD hS q0 hq2 hcl k hk (va_Nw.use rfl (hN.1 _ hlk rfl)) (fun _ h9 => href ▸ h9) hfin (ty := ty) (by rw [← htk]; exact hty k hk) hn hfit hl hdg (fun H1 locs1 h1 h2 h3 => ?_)
  rw [← he', wl_set hD hq hm] at h1 h2
  exact kk H1 locs1 ⟨hK, h1, h2, h3, hsz⟩
theorem w_ild (C : CallFix p m c cc nL s args wsA own) (hw : Wd sz0 D cs s X Z Y H locs) {c0 i0 n : Nat} {i : Int32} (hdg : decode cc pc = .ok (.iaload, 1)) (hm : (c0, i0) ∈ X.2.2.2) {a : Nat} (ha : adr X c0 i0 = a) (he : Ec cs X c0 i0 (Z c0 i0) = .inl (cs 0, n, .inl (Z c0 i0))) (hi : vp_in i n) {j : Nat} (hj : i.toNatClampNeg = j)
    (kk : W p l e R s m args below meth c H locs cells slots Q (F0 m (pc + 1) ls (.int (Z c0 i0 j) :: rest))) : W p l e R s m args below meth c H locs cells slots Q (F0 m pc ls (.int i :: .ref a :: rest)) := by
  subst ha; subst hj
  obtain ⟨q0, hq⟩ := wl_pos (cs := cs) (Z := Z) (Y := Y) hm
  rw [he] at hq
  exact va_iald C.1 C.2.1 hw.1 hw.2.1 q0 0 hq rfl hi hdg kk
theorem w_zld (C : CallFix p m c cc nL s args wsA own) (hw : Wd sz0 D cs s X Z Y H locs) {c0 i0 n : Nat} {i : Int32} (hdg : decode cc pc = .ok (.baload, 1)) (hm : (c0, i0) ∈ X.2.2.2) {a : Nat} (ha : adr X c0 i0 = a) (he : Ec cs X c0 i0 (Z c0 i0) = .inl (cs 1, n, .inl (Z c0 i0))) (hi : vp_in i n) {j : Nat} (hj : i.toNatClampNeg = j)
    (kk : W p l e R s m args below meth c H locs cells slots Q (F0 m (pc + 1) ls (.int (Z c0 i0 j) :: rest))) : W p l e R s m args below meth c H locs cells slots Q (F0 m pc ls (.int i :: .ref a :: rest)) := by
  subst ha; subst hj
  obtain ⟨q0, hq⟩ := wl_pos (cs := cs) (Z := Z) (Y := Y) hm
  rw [he] at hq
  exact va_zald C.1 C.2.1 hw.1 hw.2.1 q0 1 hq rfl hi hdg kk
theorem w_ist (C : CallFix p m c cc nL s args wsA own) (hw : Wd sz0 D cs s X Z Y H locs) {c0 i0 n : Nat} {i x : Int32} (hdg : decode cc pc = .ok (.iastore, 1)) (hm : (c0, i0) ∈ X.2.2.2) {a : Nat} (ha : adr X c0 i0 = a) (he : ∀ f, Ec cs X c0 i0 f = .inl (cs 0, n, .inl f)) (hi : vp_in i n) {j : Nat} (hj : i.toNatClampNeg = j)
    (kk : ∀ (H1 : Heap) (locs1 : List Loc), Wd sz0 D cs s X (upr Z c0 i0 (upd (Z c0 i0) j x)) Y H1 locs1 → W p l e R s m args below meth c H1 locs1 cells slots Q (F0 m (pc + 1) ls rest)) : W p l e R s m args below meth c H locs cells slots Q (F0 m pc ls (.int x :: .int i :: .ref a :: rest)) := by
  subst ha; subst hj
  obtain ⟨hK, hP, hD, hS, hsz⟩ := hw
  obtain ⟨q0, hq⟩ := wl_pos (cs := cs) (Z := Z) (Y := Y) hm
  have hq2 := hq
  rw [he] at hq2
  refine va_iast C.1 C.2.1 hK hP hD hS q0 0 hq2 rfl hi hdg (fun H1 locs1 h1 h2 h3 => ?_)
  rw [← he, wl_set hD hq hm] at h1 h2
  exact kk H1 locs1 ⟨hK, h1, h2, h3, hsz⟩
theorem w_zst (C : CallFix p m c cc nL s args wsA own) (hw : Wd sz0 D cs s X Z Y H locs) {c0 i0 n : Nat} {i x : Int32} (hdg : decode cc pc = .ok (.bastore, 1)) (hm : (c0, i0) ∈ X.2.2.2) {a : Nat} (ha : adr X c0 i0 = a) (he : ∀ f, Ec cs X c0 i0 f = .inl (cs 1, n, .inl f)) (hi : vp_in i n) {j : Nat} (hj : i.toNatClampNeg = j) (hz : vp_nar .boolean x = x)
    (kk : ∀ (H1 : Heap) (locs1 : List Loc), Wd sz0 D cs s X (upr Z c0 i0 (upd (Z c0 i0) j x)) Y H1 locs1 → W p l e R s m args below meth c H1 locs1 cells slots Q (F0 m (pc + 1) ls rest)) : W p l e R s m args below meth c H locs cells slots Q (F0 m pc ls (.int x :: .int i :: .ref a :: rest)) := by
  subst ha; subst hj
  obtain ⟨hK, hP, hD, hS, hsz⟩ := hw
  obtain ⟨q0, hq⟩ := wl_pos (cs := cs) (Z := Z) (Y := Y) hm
  have hq2 := hq
  rw [he] at hq2
  refine va_zast C.1 C.2.1 hK hP hD hS q0 1 hq2 rfl hi hdg (fun H1 locs1 h1 h2 h3 => ?_)
  rw [hz, ← he, wl_set hD hq hm] at h1 h2
  exact kk H1 locs1 ⟨hK, h1, h2, h3, hsz⟩
theorem w_len (C : CallFix p m c cc nL s args wsA own) (hw : Wd sz0 D cs s X Z Y H locs) {c0 i0 n : Nat} {ty : Nat} (hdg : decode cc pc = .ok (.arraylength, 1)) (hm : (c0, i0) ∈ X.2.2.2) {a : Nat} (ha : adr X c0 i0 = a) {v : Int32} {x : vp_A} {t : FieldType} (he : Ec cs X c0 i0 (Z c0 i0) = .inl (cs ty, x)) (ht : (tysA cs)[ty]? = some (cs ty, t)) (hn : x.1 = n) (hv : Int32.ofNat n = v)
    (kk : W p l e R s m args below meth c H locs cells slots Q (F0 m (pc + 1) ls (.int v :: rest))) : W p l e R s m args below meth c H locs cells slots Q (F0 m pc ls (.ref a :: rest)) := by
  subst ha
  obtain ⟨q0, hq⟩ := wl_pos (cs := cs) (Z := Z) (Y := Y) hm
  rw [he] at hq
  exact va_alen C.1 C.2.1 hw.1 hw.2.1 q0 ty hq ht (by rw [hn]; exact hv) hdg kk
theorem w_ald (C : CallFix p m c cc nL s args wsA own) (hw : Wd sz0 D cs s X Z Y H locs) {c0 i0 n t : Nat} {i : Int32} {Cn : String} {f : Nat → Option Nat} (hdg : decode cc pc = .ok (.aaload, 1)) (hm : (c0, i0) ∈ X.2.2.2) {a : Nat} (ha : adr X c0 i0 = a) (he : Ec cs X c0 i0 (Z c0 i0) = .inl (cs t, n, .inr (.inr (.inr (.inr f))))) (ht : (tysA cs)[t]? = some (cs t, .object Cn)) (hi : vp_in i n) {j : Nat} (hj : i.toNatClampNeg = j)
    (kk : W p l e R s m args below meth c H locs cells slots Q (F0 m (pc + 1) ls (va_rf (f j) :: rest))) : W p l e R s m args below meth c H locs cells slots Q (F0 m pc ls (.int i :: .ref a :: rest)) := by
  subst ha; subst hj
  obtain ⟨q0, hq⟩ := wl_pos (cs := cs) (Z := Z) (Y := Y) hm
  rw [he] at hq
  exact va_aldq C.1 C.2.1 hw.1 hw.2.1 q0 t hq ht hi hdg kk
/-- the ends -/
theorem w_q {Post : Sh → ZT → va_W → Option Value → Nat → Nat → Prop} {o : Option Value} (hw : Wd sz0 D cs s X Z Y H locs) (hp : Post X Z Y o cells slots) : ∀ t : State, t.heap = H → s.WarmedH t.vm → CQ sz0 D cs Post args s (.returned o) t cells slots := fun t ht hW => by
  obtain ⟨hK, hP, hD, hS, hsz⟩ := hw
  exact ⟨⟨X, Z, Y, o, rfl, ⟨va_K.moved hW.alike hK, by rw [ht]; exact hP, hD, by rw [ht]; exact Nat.le_trans hsz hS.1⟩, hp⟩, hS.F ht⟩
theorem w_mq {Qc : Array Value → State → Outcome → State → Nat → Nat → Prop} {free : Addr → Prop} : ∀ t : State, MQ below (fun a st o t => Qc a st o t cells slots) args s cells slots free t → xQ below Qc args s free t := fun t h => by
  obtain ⟨o, h1, h2, h3, L, h4, h5⟩ := h
  exact ⟨o, h1, h2, L, cells, slots, h4, h5, h3⟩
theorem w_iret {Post : Sh → ZT → va_W → Option Value → Nat → Nat → Prop} {v : Int32} (C : CallFix p m c cc nL s args wsA own) (hw : Wd sz0 D cs s X Z Y H locs) (hr : meth.sig.returnType = some .int) (hlocks : meth.locks = false) (hdg : decode cc pc = .ok (.ireturn, 1)) (hp : Post X Z Y (some (.int v)) cells slots) :
    W p l e R s m args below meth c H locs cells slots (xQ below (CQ sz0 D cs Post) args s (Asz sz0)) (F0 m pc ls [.int v]) :=
  W.monoQ w_mq (W.iret C.1 C.2.1 hr (w_q hw hp) hw.2.2.2.1.2.2 hdg hlocks)
theorem w_zret {Post : Sh → ZT → va_W → Option Value → Nat → Nat → Prop} {v : Int32} (C : CallFix p m c cc nL s args wsA own) (hw : Wd sz0 D cs s X Z Y H locs) (hr : meth.sig.returnType = some .boolean) (hlocks : meth.locks = false) (hdg : decode cc pc = .ok (.ireturn, 1)) (hn : narrow .boolean (.int v) = .int v) (hp : Post X Z Y (some (.int v)) cells slots) :
    W p l e R s m args below meth c H locs cells slots (xQ below (CQ sz0 D cs Post) args s (Asz sz0)) (F0 m pc ls [.int v]) :=
  W.monoQ w_mq (W.zret C.1 C.2.1 hr hn (w_q hw hp) hw.2.2.2.1.2.2 hdg hlocks)
theorem w_vret {Post : Sh → ZT → va_W → Option Value → Nat → Nat → Prop} (C : CallFix p m c cc nL s args wsA own) (hw : Wd sz0 D cs s X Z Y H locs) (hr : meth.sig.returnType = none) (hlocks : meth.locks = false) (hdg : decode cc pc = .ok (.return_, 1)) (hp : Post X Z Y none cells slots) :
    W p l e R s m args below meth c H locs cells slots (xQ below (CQ sz0 D cs Post) args s (Asz sz0)) (F0 m pc ls []) :=
  W.monoQ w_mq (W.vret C.1 C.2.1 hr (w_q hw hp) hw.2.2.2.1.2.2 hdg hlocks)
theorem w_aret {Post : Sh → ZT → va_W → Option Value → Nat → Nat → Prop} {v : Value} {rt : FieldType} (C : CallFix p m c cc nL s args wsA own) (hw : Wd sz0 D cs s X Z Y H locs) (hr : meth.sig.returnType = some rt) (hrt : (∃ n, rt = .object n) ∨ ∃ t, rt = .array t) (hv : v = .null ∨ ∃ a, v = .ref a) (hlocks : meth.locks = false) (hdg : decode cc pc = .ok (.areturn, 1)) (hp : Post X Z Y (some v) cells slots) :
    W p l e R s m args below meth c H locs cells slots (xQ below (CQ sz0 D cs Post) args s (Asz sz0)) (F0 m pc ls [v]) :=
  W.monoQ w_mq (W.aret C.1 C.2.1 hr hrt hv (w_q hw hp) hw.2.2.2.1.2.2 hdg hlocks)
end WR
