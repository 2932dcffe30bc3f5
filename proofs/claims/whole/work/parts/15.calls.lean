/-! ===== calls over worlds ===== -/
section WC
variable {p : Program} {l : Launch} {e : Env} {R : Room} {s : State} {m : MethodId} {args : Array Value} {below : List Frame} {meth : Method} {c : Code} {H : Heap} {locs : List Loc} {cells slots : Nat} {Q : State → Prop}
variable {cc bytes : ByteArray} {pc nL maxL index : Nat} {ls : Array Slot} {rest st0 As : List Value} {own : String} {y : MethodName} {ret : Option FieldType} {rm : Room} {b : Addr}
variable {sz0 : Nat} {D : va_G} {cs : Nat → ClassId} {X : Sh} {Z : ZT} {Y : va_W} {Post : Sh → ZT → va_W → Option Value → Nat → Nat → Prop}
/-- the callee's words, room and name -/
def CW (R : Room) (own : String) (index : Nat) (y : MethodName) (bytes : ByteArray) (maxL : Nat) (ret : Option FieldType) (rm : Room) (n : Nat) : Prop :=
  rm.frames + 1 ≤ R.frames ∧ 8 + (maxL + 11) + rm.locals ≤ R.locals ∧ Cond.code y bytes maxL ret ∈ wsA ∧ Cond.initialized y.cls ∈ wsA ∧ (y.cls ≠ "java/lang/invoke/MethodHandle" ∧ y.cls ≠ "java/lang/invoke/VarHandle" ∧ (parseMethodDescriptor y.desc).map (fun d => d.parameters.length) = some n)
theorem CW.len {n : Nat} (h : CW R own index y bytes maxL ret rm n) : ∀ sig, parseMethodDescriptor y.desc = some sig → n = sig.parameters.length := fun sig hs => by
  have h2 := h.2.2.2.2.2.2
  rw [hs] at h2
  exact (Option.some.inj h2).symm
theorem CW.back {n : Nat} (h : CW R own index y bytes maxL ret rm n) (hts : ∀ w ∈ wsA, w.before args s = true) {av : List Value} (hM : Ctr l y (wsM y bytes maxL ret) rm sz0 D cs av X Z Y Post) :
    Back l R p e below s args y 3 8 (PreOf R rm.cells rm.slots (CP sz0 D cs av X Z Y)) (xPost (CQ sz0 D cs Post) (Asz sz0)) :=
  xback (bytes := bytes) (maxL := maxL) (ret := ret) hM CP.blind h.1 h.2.1 (pay_in hts (wm_law h.2.2.1)) List.mem_cons_self (fun a' U hW => word_at hW (Or.inl (by first | rfl | simp [Cond.onTables, Cond.keeps, Cond.steady])) (hts _ h.2.2.2.1))
theorem w_pre {av : List Value} {T : State} (hN : NW s) (hT : T.heap = H) (hw : Wd sz0 D cs s X Z Y H locs) {vm₁ : Vm} (hW : s.WarmedH vm₁) : CP sz0 D cs av X Z Y av.toArray (T.setVm vm₁) := by
  obtain ⟨hK, hP, hD, hS, hsz⟩ := hw
  refine ⟨rfl, NW.warm (U := T.setVm vm₁) hW hN, va_K.moved hW.alike hK, ?_, hD, ?_⟩
  · show va_P D vwCl (Wl cs X Z ++ Y) T.heap
    rw [hT]; exact hP
  · show sz0 ≤ T.heap.size
    rw [hT]; exact Nat.le_trans hsz hS.1
theorem w_post {T' : State} {L : List Loc} {v : Option Value} {st₀ t : State} {k n : Nat} {a : Array Value} (hw : Wd sz0 D cs s X Z Y H locs) (h0 : st₀.heap = H) (X' : Stand p l e R s m args below meth c T' (locs ++ L) (cells + k) (slots + n)) (hL : ∀ q ∈ L, Asz sz0 q.base) (e1 : T'.heap = t.heap) (e2 : T'.vm = t.vm) (hq : CQ sz0 D cs Post a st₀ (.returned v) t k n) :
    ∃ (X2 : Sh) (Z2 : ZT) (Y2 : va_W), Post X2 Z2 Y2 v k n ∧ Wd sz0 D cs s X2 Z2 Y2 T'.heap (locs ++ L) := by
  obtain ⟨hK, hP, hD, hS, hsz⟩ := hw
  obtain ⟨⟨X2, Z2, Y2, v2, hv, ⟨k1, k2, k3, k4⟩, hp⟩, hz, hk⟩ := hq
  cases hv
  rw [h0] at hz hk
  refine ⟨X2, Z2, Y2, hp, va_K.moved (by have h := X'.warmed.alike; rw [e2] at h; exact h.symm) k1, by rw [e1]; exact k2, k3, ⟨by rw [e1]; exact Nat.le_trans hS.1 hz, fun q h1 h2 => ?_, fun q hq => ?_⟩, hsz⟩
  · rw [e1, hk q (Nat.lt_of_lt_of_le h1 hS.1) h2]
    exact hS.2.1 q h1 h2
  · rcases List.mem_append.mp hq with h | h
    · exact hS.2.2 q h
    · exact hL q h
theorem w_callV (C : CallFix p m c cc nL s args wsA own) (hN : NW s) (hw : Wd sz0 D cs s X Z Y H locs) {n : Nat} (hM : Ctr l y (wsM y bytes maxL ret) rm sz0 D cs (.ref b :: As) X Z Y Post) (cw : CW R own index y bytes maxL ret rm n) (hlk : Cond.methodLink own index y ∈ wsA) (h1 : Cond.instanceMethod y ∈ wsA) (h2 : Cond.selects y.cls y y ∈ wsA)
    (hrec : ∃ cell : Cell, H[b]? = some cell ∧ cell.vm.isStatics = false ∧ s.vm.findClass y.cls = some cell.cls) (hn : As.length = n) (hsize : ls.size = nL) (hstack : st0 = As.reverse ++ .ref b :: rest) (hW : (rest.map fun v => v.category).sum ≤ 8) (hdg : decode cc pc = .ok (.invokevirtual index, 3)) (hf : cells + rm.cells ≤ R.cells ∧ slots + rm.slots ≤ R.slots)
    (kk : ∀ (X' : Sh) (Z' : ZT) (Y' : va_W) (v : Option Value) (k n : Nat) (H1 : Heap) (locs1 : List Loc), Post X' Z' Y' v k n → Wd sz0 D cs s X' Z' Y' H1 locs1 → W p l e R s m args below meth c H1 locs1 (cells + k) (slots + n) Q (F0 m (pc + 3) ls (v.toList ++ rest))) :
    W p l e R s m args below meth c H locs cells slots Q (F0 m pc ls st0) := by
  obtain ⟨hx, hb, hml, ho, hts⟩ := C
  obtain ⟨cellB, hcB, hoB, hclB⟩ := hrec
  intro T hT XS
  obtain ⟨v, vm₁, ⟨U', l2, c2, s2⟩, hW₁, XS', ⟨g', mk, t, L, k, n', e1, e2, hq, q1, hL, q2, q3⟩, st⟩ := callV XS hx (C := y.cls) (bytes := bytes) (maxL := maxL) (ret := ret) ho (hts _ hlk) (hts _ h1) (hts _ h2) (hts _ cw.2.2.1) ⟨cw.2.2.2.2.1, cw.2.2.2.2.2.1⟩ (cw.back hts hM) (by rw [hT]; exact hcB) hoB hclB (g := F0 m pc ls st0) rfl (hsize.trans hml.symm) (argsL := As) (rest := rest) (fun sig h => hn.trans (cw.len sig h)) hstack (lv_room (m := m) (pc := pc) (ls := ls) (rest := []) hW) (by rw [hb]; exact hdg)
    (fun vm₁ hW₁ => ⟨hf.1, hf.2, w_pre hN hT hw hW₁⟩)
  dsimp only [Pt.U, Pt.locs, Pt.cells, Pt.slots] at XS' e1 e2 q1 q2 q3 st
  subst q1; subst q2; subst q3
  obtain ⟨X2, Z2, Y2, hp, hw2⟩ := w_post (st₀ := (T.setVm vm₁).calling g' mk (Value.ref b :: As).toArray) hw hT XS' hL e1 e2 hq
  obtain ⟨t2, a1, b1⟩ := kk X2 Z2 Y2 v k n' U'.heap _ hp hw2 U' rfl XS'
  exact ⟨t2, st t2 a1, b1⟩
theorem w_callS (C : CallFix p m c cc nL s args wsA own) (hN : NW s) (hw : Wd sz0 D cs s X Z Y H locs) {n : Nat} (hM : Ctr l y (wsM y bytes maxL ret) rm sz0 D cs As X Z Y Post) (cw : CW R own index y bytes maxL ret rm n) (hlk : Cond.methodLink own index y ∈ wsA) (h1 : Cond.static y ∈ wsA)
    (hn : As.length = n) (hsize : ls.size = nL) (hstack : st0 = As.reverse ++ rest) (hW : (rest.map fun v => v.category).sum ≤ 8) (hdg : decode cc pc = .ok (.invokestatic index, 3)) (hf : cells + rm.cells ≤ R.cells ∧ slots + rm.slots ≤ R.slots)
    (kk : ∀ (X' : Sh) (Z' : ZT) (Y' : va_W) (v : Option Value) (k n : Nat) (H1 : Heap) (locs1 : List Loc), Post X' Z' Y' v k n → Wd sz0 D cs s X' Z' Y' H1 locs1 → W p l e R s m args below meth c H1 locs1 (cells + k) (slots + n) Q (F0 m (pc + 3) ls (v.toList ++ rest))) :
    W p l e R s m args below meth c H locs cells slots Q (F0 m pc ls st0) := by
  obtain ⟨hx, hb, hml, ho, hts⟩ := C
  intro T hT XS
  obtain ⟨v, vm₁, ⟨U', l2, c2, s2⟩, hW₁, XS', ⟨g', mk, t, L, k, n', e1, e2, hq, q1, hL, q2, q3⟩, st⟩ := callS XS hx (bytes := bytes) (maxL := maxL) (ret := ret) ho (hts _ hlk) (hts _ h1) (hts _ cw.2.2.2.1) (hts _ cw.2.2.1) ⟨cw.2.2.2.2.1, cw.2.2.2.2.2.1⟩ (cw.back hts hM) (g := F0 m pc ls st0) rfl (hsize.trans hml.symm) (argsL := As) (rest := rest) (fun sig h => hn.trans (cw.len sig h)) hstack (lv_room (m := m) (pc := pc) (ls := ls) (rest := []) hW) (by rw [hb]; exact hdg)
    (fun vm₁ hW₁ => ⟨hf.1, hf.2, w_pre hN hT hw hW₁⟩)
  dsimp only [Pt.U, Pt.locs, Pt.cells, Pt.slots] at XS' e1 e2 q1 q2 q3 st
  subst q1; subst q2; subst q3
  obtain ⟨X2, Z2, Y2, hp, hw2⟩ := w_post (st₀ := (T.setVm vm₁).calling g' mk As.toArray) hw hT XS' hL e1 e2 hq
  obtain ⟨t2, a1, b1⟩ := kk X2 Z2 Y2 v k n' U'.heap _ hp hw2 U' rfl XS'
  exact ⟨t2, st t2 a1, b1⟩
theorem w_callI (C : CallFix p m c cc nL s args wsA own) (hN : NW s) (hw : Wd sz0 D cs s X Z Y H locs) {n : Nat} (hM : Ctr l y (wsM y bytes maxL none) rm sz0 D cs (.ref b :: As) X Z Y Post) (cw : CW R own index y bytes maxL none rm n) (hlk : Cond.methodLink own index y ∈ wsA) (h1 : Cond.instanceMethod y ∈ wsA) (h2 : y.name = "<init>")
    (hn : As.length = n) (hsize : ls.size = nL) (hstack : st0 = As.reverse ++ .ref b :: rest) (hW : (rest.map fun v => v.category).sum ≤ 8) (hdg : decode cc pc = .ok (.invokespecial index, 3)) (hf : cells + rm.cells ≤ R.cells ∧ slots + rm.slots ≤ R.slots)
    (kk : ∀ (X' : Sh) (Z' : ZT) (Y' : va_W) (v : Option Value) (k n : Nat) (H1 : Heap) (locs1 : List Loc), Post X' Z' Y' v k n → Wd sz0 D cs s X' Z' Y' H1 locs1 → W p l e R s m args below meth c H1 locs1 (cells + k) (slots + n) Q (F0 m (pc + 3) ls (v.toList ++ rest))) :
    W p l e R s m args below meth c H locs cells slots Q (F0 m pc ls st0) := by
  obtain ⟨hx, hb, hml, ho, hts⟩ := C
  intro T hT XS
  obtain ⟨v, vm₁, ⟨U', l2, c2, s2⟩, hW₁, XS', ⟨g', mk, t, L, k, n', e1, e2, hq, q1, hL, q2, q3⟩, st⟩ := callI XS hx (bytes := bytes) (maxL := maxL) ho h2 (hts _ hlk) (hts _ h1) (hts _ cw.2.2.1) ⟨cw.2.2.2.2.1, cw.2.2.2.2.2.1⟩ (cw.back hts hM) (g := F0 m pc ls st0) rfl (hsize.trans hml.symm) (a := b) (argsL := As) (rest := rest) (fun sig h => hn.trans (cw.len sig h)) hstack (lv_room (m := m) (pc := pc) (ls := ls) (rest := []) hW) (by rw [hb]; exact hdg)
    (fun vm₁ hW₁ => ⟨hf.1, hf.2, w_pre hN hT hw hW₁⟩)
  dsimp only [Pt.U, Pt.locs, Pt.cells, Pt.slots] at XS' e1 e2 q1 q2 q3 st
  subst q1; subst q2; subst q3
  obtain ⟨X2, Z2, Y2, hp, hw2⟩ := w_post (st₀ := (T.setVm vm₁).calling g' mk (Value.ref b :: As).toArray) hw hT XS' hL e1 e2 hq
  obtain ⟨t2, a1, b1⟩ := kk X2 Z2 Y2 v k n' U'.heap _ hp hw2 U' rfl XS'
  exact ⟨t2, st t2 a1, b1⟩
theorem w_callSN {host : String} (C : CallFix p m c cc nL s args wsA own) (hN : NW s) (hw : Wd sz0 D cs s X Z Y H locs) {n : Nat} (hM : Ctr l y (wsM y bytes maxL ret) rm sz0 D cs As X Z Y Post) (cw : CW R own index y bytes maxL ret rm n) (hlk : Cond.methodLinkNest own index y host ∈ lw_tbl) (h1 : Cond.static y ∈ wsA)
    (hn : As.length = n) (hsize : ls.size = nL) (hstack : st0 = As.reverse ++ rest) (hW : (rest.map fun v => v.category).sum ≤ 8) (hdg : decode cc pc = .ok (.invokestatic index, 3)) (hf : cells + rm.cells ≤ R.cells ∧ slots + rm.slots ≤ R.slots)
    (kk : ∀ (X' : Sh) (Z' : ZT) (Y' : va_W) (v : Option Value) (k n : Nat) (H1 : Heap) (locs1 : List Loc), Post X' Z' Y' v k n → Wd sz0 D cs s X' Z' Y' H1 locs1 → W p l e R s m args below meth c H1 locs1 (cells + k) (slots + n) Q (F0 m (pc + 3) ls (v.toList ++ rest))) :
    W p l e R s m args below meth c H locs cells slots Q (F0 m pc ls st0) := by
  obtain ⟨hx, hb, hml, ho, hts⟩ := C
  intro T hT XS
  obtain ⟨v, vm₁, ⟨U', l2, c2, s2⟩, hW₁, XS', ⟨g', mk, t, L, k, n', e1, e2, hq, q1, hL, q2, q3⟩, st⟩ := va_callSN XS hx (bytes := bytes) (maxL := maxL) (ret := ret) ho (va_Nw.use rfl (hN.1 _ hlk rfl)) (hts _ h1) (hts _ cw.2.2.2.1) (hts _ cw.2.2.1) ⟨cw.2.2.2.2.1, cw.2.2.2.2.2.1⟩ (cw.back hts hM) (g := F0 m pc ls st0) rfl (hsize.trans hml.symm) (argsL := As) (rest := rest) (fun sig h => hn.trans (cw.len sig h)) hstack (lv_room (m := m) (pc := pc) (ls := ls) (rest := []) hW) (by rw [hb]; exact hdg)
    (fun vm₁ hW₁ => ⟨hf.1, hf.2, w_pre hN hT hw hW₁⟩)
  dsimp only [Pt.U, Pt.locs, Pt.cells, Pt.slots] at XS' e1 e2 q1 q2 q3 st
  subst q1; subst q2; subst q3
  obtain ⟨X2, Z2, Y2, hp, hw2⟩ := w_post (st₀ := (T.setVm vm₁).calling g' mk As.toArray) hw hT XS' hL e1 e2 hq
  obtain ⟨t2, a1, b1⟩ := kk X2 Z2 Y2 v k n' U'.heap _ hp hw2 U' rfl XS'
  exact ⟨t2, st t2 a1, b1⟩
theorem w_callIN {host : String} (C : CallFix p m c cc nL s args wsA own) (hN : NW s) (hw : Wd sz0 D cs s X Z Y H locs) {n : Nat} (hM : Ctr l y (wsM y bytes maxL none) rm sz0 D cs (.ref b :: As) X Z Y Post) (cw : CW R own index y bytes maxL none rm n) (hlk : Cond.methodLinkNest own index y host ∈ lw_tbl) (h1 : Cond.instanceMethod y ∈ wsA) (h2 : y.name = "<init>")
    (hn : As.length = n) (hsize : ls.size = nL) (hstack : st0 = As.reverse ++ .ref b :: rest) (hW : (rest.map fun v => v.category).sum ≤ 8) (hdg : decode cc pc = .ok (.invokespecial index, 3)) (hf : cells + rm.cells ≤ R.cells ∧ slots + rm.slots ≤ R.slots)
    (kk : ∀ (X' : Sh) (Z' : ZT) (Y' : va_W) (v : Option Value) (k n : Nat) (H1 : Heap) (locs1 : List Loc), Post X' Z' Y' v k n → Wd sz0 D cs s X' Z' Y' H1 locs1 → W p l e R s m args below meth c H1 locs1 (cells + k) (slots + n) Q (F0 m (pc + 3) ls (v.toList ++ rest))) :
    W p l e R s m args below meth c H locs cells slots Q (F0 m pc ls st0) := by
  obtain ⟨hx, hb, hml, ho, hts⟩ := C
  intro T hT XS
  obtain ⟨v, vm₁, ⟨U', l2, c2, s2⟩, hW₁, XS', ⟨g', mk, t, L, k, n', e1, e2, hq, q1, hL, q2, q3⟩, st⟩ := va_callIN XS hx (bytes := bytes) (maxL := maxL) ho h2 (va_Nw.use rfl (hN.1 _ hlk rfl)) (hts _ h1) (hts _ cw.2.2.1) ⟨cw.2.2.2.2.1, cw.2.2.2.2.2.1⟩ (cw.back hts hM) (g := F0 m pc ls st0) rfl (hsize.trans hml.symm) (a := b) (argsL := As) (rest := rest) (fun sig h => hn.trans (cw.len sig h)) hstack (lv_room (m := m) (pc := pc) (ls := ls) (rest := []) hW) (by rw [hb]; exact hdg)
    (fun vm₁ hW₁ => ⟨hf.1, hf.2, w_pre hN hT hw hW₁⟩)
  dsimp only [Pt.U, Pt.locs, Pt.cells, Pt.slots] at XS' e1 e2 q1 q2 q3 st
  subst q1; subst q2; subst q3
  obtain ⟨X2, Z2, Y2, hp, hw2⟩ := w_post (st₀ := (T.setVm vm₁).calling g' mk (Value.ref b :: As).toArray) hw hT XS' hL e1 e2 hq
  obtain ⟨t2, a1, b1⟩ := kk X2 Z2 Y2 v k n' U'.heap _ hp hw2 U' rfl XS'
  exact ⟨t2, st t2 a1, b1⟩
/-- the receiver's cell -/
theorem w_rec (hw : Wd sz0 D cs s X Z Y H locs) {c0 i0 ci N : Nat} {T : u_T} {Cn : String} {fs : List Value} (hm : (c0, i0) ∈ X.2.2.2) (he : Ec cs X c0 i0 (Z c0 i0) = .inr (ci, fs)) (hcl : vwCl[ci]? = some (Cn, T, N)) : ∃ cell : Cell, H[adr X c0 i0]? = some cell ∧ cell.vm.isStatics = false ∧ s.vm.findClass Cn = some cell.cls := by
  obtain ⟨q0, hq⟩ := wl_pos (cs := cs) (Z := Z) (Y := Y) hm
  rw [he] at hq
  exact va_recv hw.1 hw.2.1 hcl hq
end WC
