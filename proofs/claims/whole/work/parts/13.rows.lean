/-! ===== contracts that count what was made, not what could be ===== -/
section XM
variable {l : Launch} {R : Room} {p : Program} {e : Env} {below : List Frame} {s : State} {sargs : Array Value} {y : MethodName} {len Wt : Nat}
def xMet (l : Launch) (y : MethodName) (ws : List Cond) (rm : Room) (Pc : Array Value → State → Prop) (Qc : Array Value → State → Outcome → State → Nat → Nat → Prop) (free : Addr → Prop) : Prop :=
  MetFree l y (headSpec ws rm) Pc (fun _ _ _ _ _ => True) (fun a st o t => ∃ (L : List Loc) (k n : Nat), FrameEnd st o t L k n ∧ (∀ q ∈ L, free q.base) ∧ Qc a st o t k n)
def xPost (Qc : Array Value → State → Outcome → State → Nat → Nat → Prop) (free : Addr → Prop) : Pt → Array Value → Option Value → Pt → Prop := fun A a v B =>
  ∃ (g : JFrame) (mk : MethodId) (t : State) (L : List Loc) (k n : Nat), B.U.heap = t.heap ∧ B.U.vm = t.vm ∧ Qc a (A.U.calling g mk a) (.returned v) t k n ∧ B.locs = A.locs ++ L ∧ (∀ q ∈ L, free q.base) ∧ B.cells = A.cells + k ∧ B.slots = A.slots + n
theorem xback {ws : List Cond} {rm : Room} {Pc : Array Value → State → Prop} {Qc : Array Value → State → Outcome → State → Nat → Nat → Prop} {free : Addr → Prop} {bytes : ByteArray} {maxL : Nat} {ret : Option FieldType}
    (hM : xMet l y ws rm Pc Qc free) (hblind : FrameBlind Pc)
    (hframes : rm.frames + 1 ≤ R.frames) (hlocals : Wt + (maxL + 11) + rm.locals ≤ R.locals)
    (hws : ∀ w ∈ ws, ∀ a' U, s.WarmedH U.vm → w.before a' U = true) (hcode : Cond.code y bytes maxL ret ∈ ws) (hinit : ∀ a' U, s.WarmedH U.vm → (Cond.initialized y.cls).before a' U = true) :
    Back l R p e below s sargs y len Wt (PreOf R rm.cells rm.slots Pc) (xPost Qc free) := by
  refine Back.of_free (S := headSpec ws rm) (P := Pc) (K := fun _ _ _ _ _ => True) (Q := fun a st o t => ∃ (L : List Loc) (k n : Nat), FrameEnd st o t L k n ∧ (∀ q ∈ L, free q.base) ∧ Qc a st o t k n) (bytes := bytes) (maxL := maxL) (ret := ret)
    (E := fun a st o t L k n => (∀ q ∈ L, free q.base) ∧ Qc a st o t k n) hM hframes hlocals ?_ ?_ (fun _ _ _ _ _ _ _ _ _ => trivial) ?_ ?_
  · intro m meth c A a X hp
    exact ⟨atoms_intro fun w hw => hws w hw _ _ X.warmed, hws _ hcode _ _ X.warmed, hinit _ _ X.warmed, hp.1, hp.2.1⟩
  · intro m meth c A a g mk X hp
    exact hblind _ _ _ _ hp.2.2
  · intro a st o t hq
    exact hq
  · intro m meth c A a g mk v t L k n X hp hq hF hE
    exact ⟨g, mk, t, L, k, n, rfl, rfl, hE.2, rfl, hE.1, rfl, rfl⟩
def xQ (below : List Frame) (Qc : Array Value → State → Outcome → State → Nat → Nat → Prop) (a : Array Value) (s : State) (free : Addr → Prop) : State → Prop := fun t =>
  ∃ o, t.status = .running ∧ Ended t below o ∧ ∃ (L : List Loc) (k n : Nat), FrameEnd s o t L k n ∧ (∀ q ∈ L, free q.base) ∧ Qc a s o t k n
theorem xMet.ofW {ws ws' : List Cond} {rm : Room} {Pc : Array Value → State → Prop} {Qc : Array Value → State → Outcome → State → Nat → Nat → Prop} {free : Addr → Prop} {cc : ByteArray} {maxL : Nat} {ret : Option FieldType}
    (hy : plainName y.cls = true) (hw : ws = Cond.code y cc maxL ret :: ws')
    (body : ∀ p e s m args below meth c s₁, BodyLoose p l y (headSpec ws rm) cc maxL ret e s m args below meth c s₁ → c.maxLocals = maxL → Pc args s →
      W p l e rm s m args below meth c s.heap [] 0 0 (xQ below Qc args s free) (entryFrame m args maxL)) : xMet l y ws rm Pc Qc free := by
  refine MetFree.of_bodyS (code := cc) (maxLocals := maxL) (ret := ret) hy ?_ ?_
  · intro args s m h hn
    obtain ⟨meth, c, h1, h2, h3, h4, h5, h6, -, -⟩ := Cond.code_spec hn (atoms_spec (ws := ws) h _ (by rw [hw]; exact List.mem_cons_self))
    exact ⟨meth, c, h1, h2, h3, h4, h5, h6⟩
  · intro p e s m args below meth c s₁ B hml hP _
    have hh0 : s₁.heap = s.heap := by rw [B.state]; rfl
    obtain ⟨t, a1, o, b1, b2, b3⟩ := body p e s m args below meth c s₁ B hml hP s₁ hh0 (Stand.of_body B)
    exact ⟨t, o, a1, b1, b2, b3⟩
end XM
/-! ===== one list of words for every method ===== -/
abbrev wsM (y : MethodName) (b : ByteArray) (n : Nat) (ret : Option FieldType) : List Cond := .code y b n ret :: wsA
theorem wm_law {y : MethodName} {b : ByteArray} {n : Nat} {ret : Option FieldType} (h : Cond.code y b n ret ∈ wsA) : GoodIn wsA (wsM y b n ret) := fun w hw => by
  have h1 : w ∈ wsA := by
    rcases List.mem_cons.mp hw with rfl | h2
    · exact h
    · exact h2
  exact ⟨h1, good_of_word (wa_good h1)⟩
/-! ===== locals by place ===== -/
def lo (ls : Array Slot) (L : List (Option Value)) : Prop := lv_has ls L.length [] ∧ ∀ (k : Nat) (v : Value), L[k]? = some (some v) → ls[k]? = some (.val v) ∧ v.category = 1
theorem lo.at {ls : Array Slot} {L : List (Option Value)} (h : lo ls L) {k : Nat} {v : Value} (hk : L[k]? = some (some v)) : ls[k]? = some (.val v) := (h.2 k v hk).1
def lo_ps (L : List (Option Value)) : List (Nat × Value) := (List.range L.length).filterMap (fun k => match L[k]? with | some (some v) => some (k, v) | _ => none)
theorem lo_ps_in {L : List (Option Value)} {k : Nat} {v : Value} : (k, v) ∈ lo_ps L ↔ L[k]? = some (some v) := by
  unfold lo_ps
  rw [List.mem_filterMap]
  constructor
  · rintro ⟨a, -, h⟩
    split at h
    · rename_i v' hv
      simp only [Option.some.injEq, Prod.mk.injEq] at h
      obtain ⟨rfl, rfl⟩ := h
      exact hv
    · cases h
  · intro h
    refine ⟨k, List.mem_range.mpr (List.getElem?_eq_some_iff.mp h).1, ?_⟩
    simp [h]
theorem lo.ps {ls : Array Slot} {L : List (Option Value)} (h : lo ls L) : lv_has ls L.length (lo_ps L) := ⟨h.1.1, h.1.2.1, fun q hq => h.at (lo_ps_in.mp hq)⟩
theorem lo.st {ls ls' : Array Slot} {L : List (Option Value)} {i : Nat} {v : Value} (h : lo ls L) (hi : i < L.length) (hc : v.category = 1) (h' : lv_has ls' L.length ((i, v) :: (lo_ps L).filter (fun q => !(q.1 == i) && !(q.1 + 1 == i && q.2.category == 2)))) : lo ls' (L.set i (some v)) := by
  refine ⟨⟨by rw [List.length_set]; exact h'.1, h'.2.1, fun q hq => by cases hq⟩, fun k w hk => ?_⟩
  by_cases hki : k = i
  · subst hki
    rw [List.getElem?_set_self hi] at hk
    cases hk
    exact ⟨h'.2.2 (k, v) List.mem_cons_self, hc⟩
  · rw [List.getElem?_set_ne (Ne.symm hki)] at hk
    obtain ⟨-, h2⟩ := h.2 k w hk
    refine ⟨h'.2.2 (k, w) (List.mem_cons_of_mem _ (List.mem_filter.mpr ⟨lo_ps_in.mpr hk, ?_⟩)), h2⟩
    simp [hki, h2]
theorem lo_args : ∀ (vs : List Value) (i : Nat), (∀ v ∈ vs, v.category = 1) → ∀ (k : Nat) (v : Value), vs[k]? = some v → (i + k, v) ∈ lv_args i vs
  | [], _, _, k, v, h => by simp at h
  | a :: vs, i, hc, k, v, h => by
    have ha : ¬ a.category = 2 := by rw [hc a List.mem_cons_self]; decide
    unfold lv_args
    rw [if_neg ha]
    cases k with
    | zero =>
      rw [List.getElem?_cons_zero] at h
      cases h
      exact List.mem_cons_self
    | succ k =>
      rw [List.getElem?_cons_succ] at h
      have := lo_args vs (i + 1) (fun v hv => hc v (List.mem_cons_of_mem _ hv)) k v h
      rw [show i + (k + 1) = i + 1 + k by omega]
      exact List.mem_cons_of_mem _ this
theorem lo_entry (vs : List Value) {n : Nat} (hc : ∀ v ∈ vs, v.category = 1) (h : vs.length ≤ n) : lo ((lg_sl vs ++ List.replicate (n - (lg_sl vs).length) Slot.unset).toArray) (vs.map some ++ List.replicate (n - vs.length) none) := by
  have hl : (lg_sl vs).length = vs.length := by
    clear h
    unfold lg_sl
    induction vs with
    | nil => rfl
    | cons a vs ih =>
      have ha : ¬ a.category = 2 := by rw [hc a List.mem_cons_self]; decide
      rw [List.flatMap_cons, if_neg ha, List.length_append, ih (fun v hv => hc v (List.mem_cons_of_mem _ hv))]
      simp
      omega
  have hE := lv_entry vs (n := n) (by rw [hl]; exact h)
  refine ⟨⟨?_, hE.2.1, fun q hq => by cases hq⟩, fun k v hk => ?_⟩
  · rw [hE.1]
    simp
    omega
  · have hk2 : vs[k]? = some v := by
      by_cases hkl : k < vs.length
      · rw [List.getElem?_append_left (by simpa using hkl), List.getElem?_map] at hk
        cases hv : vs[k]? with
        | none => rw [hv] at hk; cases hk
        | some w => rw [hv] at hk; simp at hk; rw [hk]
      · rw [List.getElem?_append_right (by simpa using Nat.le_of_not_lt hkl), List.getElem?_replicate] at hk
        split at hk <;> cases hk
    have := lo_args vs 0 hc k v hk2
    rw [Nat.zero_add] at this
    exact ⟨hE.2.2 (k, v) this, hc v (List.mem_of_getElem? hk2)⟩
section LO
variable {p : Program} {l : Launch} {e : Env} {R : Room} {s : State} {m : MethodId} {args : Array Value} {below : List Frame} {meth : Method} {c : Code} {H : Heap} {locs : List Loc} {cells slots : Nat} {Q : State → Prop}
variable {cc : ByteArray} {pc : Nat} {ls : Array Slot} {rest : List Value} {L : List (Option Value)}
theorem w_istore_n (hx : p.tables.exec = Jvm.exec) (hb : c.code = cc) {k : Fin 4} {i : Nat} {x : Int32} (hdg : decode cc pc = .ok (.istore_n k, 1)) (hi : (k : Nat) = i) (h : lo ls L) (hn : i < L.length)
    (kk : ∀ ls' : Array Slot, lo ls' (L.set i (some (.int x))) → W p l e R s m args below meth c H locs cells slots Q (F0 m (pc + 1) ls' rest)) : W p l e R s m args below meth c H locs cells slots Q (F0 m pc ls (.int x :: rest)) :=
  lv_istore_n hx hb hdg hi h.ps hn rfl (fun ls' h' => kk ls' (h.st hn rfl h'))
theorem w_istore (hx : p.tables.exec = Jvm.exec) (hb : c.code = cc) {i : Nat} {x : Int32} (hdg : decode cc pc = .ok (.istore i, 2)) (h : lo ls L) (hn : i < L.length)
    (kk : ∀ ls' : Array Slot, lo ls' (L.set i (some (.int x))) → W p l e R s m args below meth c H locs cells slots Q (F0 m (pc + 2) ls' rest)) : W p l e R s m args below meth c H locs cells slots Q (F0 m pc ls (.int x :: rest)) :=
  lv_istore hx hb hdg h.ps hn rfl (fun ls' h' => kk ls' (h.st hn rfl h'))
theorem w_astore_n (hx : p.tables.exec = Jvm.exec) (hb : c.code = cc) {k : Fin 4} {i : Nat} {x : Nat} (hdg : decode cc pc = .ok (.astore_n k, 1)) (hi : (k : Nat) = i) (h : lo ls L) (hn : i < L.length)
    (kk : ∀ ls' : Array Slot, lo ls' (L.set i (some (.ref x))) → W p l e R s m args below meth c H locs cells slots Q (F0 m (pc + 1) ls' rest)) : W p l e R s m args below meth c H locs cells slots Q (F0 m pc ls (.ref x :: rest)) :=
  lv_astore_n hx hb hdg hi h.ps hn rfl (fun ls' h' => kk ls' (h.st hn rfl h'))
theorem w_astore (hx : p.tables.exec = Jvm.exec) (hb : c.code = cc) {i : Nat} {x : Nat} (hdg : decode cc pc = .ok (.astore i, 2)) (h : lo ls L) (hn : i < L.length)
    (kk : ∀ ls' : Array Slot, lo ls' (L.set i (some (.ref x))) → W p l e R s m args below meth c H locs cells slots Q (F0 m (pc + 2) ls' rest)) : W p l e R s m args below meth c H locs cells slots Q (F0 m pc ls (.ref x :: rest)) :=
  lv_astore hx hb hdg h.ps hn rfl (fun ls' h' => kk ls' (h.st hn rfl h'))
theorem w_astore_nN (hx : p.tables.exec = Jvm.exec) (hb : c.code = cc) {k : Fin 4} {i : Nat} (hdg : decode cc pc = .ok (.astore_n k, 1)) (hi : (k : Nat) = i) (h : lo ls L) (hn : i < L.length)
    (kk : ∀ ls' : Array Slot, lo ls' (L.set i (some .null)) → W p l e R s m args below meth c H locs cells slots Q (F0 m (pc + 1) ls' rest)) : W p l e R s m args below meth c H locs cells slots Q (F0 m pc ls (.null :: rest)) :=
  lv_astore_nN hx hb hdg hi h.ps hn rfl (fun ls' h' => kk ls' (h.st hn rfl h'))
theorem w_astoreN (hx : p.tables.exec = Jvm.exec) (hb : c.code = cc) {i : Nat} (hdg : decode cc pc = .ok (.astore i, 2)) (h : lo ls L) (hn : i < L.length)
    (kk : ∀ ls' : Array Slot, lo ls' (L.set i (some .null)) → W p l e R s m args below meth c H locs cells slots Q (F0 m (pc + 2) ls' rest)) : W p l e R s m args below meth c H locs cells slots Q (F0 m pc ls (.null :: rest)) :=
  lv_astoreN hx hb hdg h.ps hn rfl (fun ls' h' => kk ls' (h.st hn rfl h'))
theorem w_iinc (hx : p.tables.exec = Jvm.exec) (hb : c.code = cc) {i : Nat} {n : Int} {x v : Int32} (hdg : decode cc pc = .ok (.iinc i n, 3)) (h : lo ls L) (hk : L[i]? = some (some (.int x))) (hv : x + Int32.ofInt n = v)
    (kk : ∀ ls' : Array Slot, lo ls' (L.set i (some (.int v))) → W p l e R s m args below meth c H locs cells slots Q (F0 m (pc + 3) ls' rest)) : W p l e R s m args below meth c H locs cells slots Q (F0 m pc ls rest) := by
  have hn : i < L.length := (List.getElem?_eq_some_iff.mp hk).1
  obtain ⟨k, hk2⟩ := List.getElem?_of_mem (lo_ps_in.mpr hk)
  exact lv_iinc hx hb hdg h.ps hk2 hv hn rfl (fun ls' h' => kk ls' (h.st hn rfl h'))
end LO
theorem W.monoQ {p : Program} {l : Launch} {e : Env} {R : Room} {s : State} {m : MethodId} {args : Array Value} {below : List Frame} {meth : Method} {c : Code} {H : Heap} {locs : List Loc} {cells slots : Nat} {Q Q' : State → Prop} {g : JFrame} (h : ∀ t, Q t → Q' t) (k : W p l e R s m args below meth c H locs cells slots Q g) : W p l e R s m args below meth c H locs cells slots Q' g := fun T hT X => by
  obtain ⟨t, a, b⟩ := k T hT X
  exact ⟨t, a, h t b⟩
