/-! THE CLAIM OUT OF ONE WALK OF THE LAW'S BODY. Your part is whole_start (and what it stands on); all else here is the same for every law, but numbers. -/
def R_law : String := "GuestHouseLaw"
def lw_P (b : Addr) (xs : List Int32) (args : Array Value) (s : State) : Prop := args = #[.ref b] ∧ s.IntsAt b xs ∧ xs.length ≤ 2048 ∧ (Jvm.Cond.and given_1 narrow_1).before args s = true
def lw_Q (_ : Array Value) (s : State) (o : Outcome) (t : State) : Prop := o = .returned (some (.int 1)) ∧ Framed s o t [] 600000 7302250
def lw_Z (below : List Frame) (a : Array Value) (s : State) : State → Prop := fun t => ∃ o, t.status = .running ∧ Ended t below o ∧ lw_Q a s o t
/-- the law's own end, with 1 on the stack, nothing written that was there before, its room as the claim has it -/
theorem lw_ret {p : Program} {l : Launch} {e : Env} {s : State} {m : MethodId} {below : List Frame} {meth : Method} {c : Code} {b : Nat} (hx : p.tables.exec = Jvm.exec) (hb : c.code = code) (hr : meth.sig.returnType = ret) (hlocks : meth.locks = false) {pc : Nat} {H : Heap} {ls : Array Slot} (hdg : decode code pc = .ok (.ireturn, 1)) : W p l e room_1 s m #[Value.ref b] below meth c H [] 600000 7302250 (lw_Z below #[Value.ref b] s) (F0 m pc ls [.int 1]) := by
  intro T hT X
  obtain ⟨fs, hret, hrun, hended, hW, hframe⟩ := X.leave (v := some (.int 1)) (hlocks := hlocks) (fun h => by rw [hr] at h; cases h)
  have hmeth' : T.vm.method? m = some meth := X.method'
  refine ⟨T.setFrames fs, ?_, .returned (some (.int 1)), hrun, hended, rfl, ⟨_, rfl⟩, hW, hframe⟩
  jvm_step X.here [X.here.top, hx, hb, hdg, hmeth', hr, ret, narrow_b1]
  (try refine ⟨rfl, ?_⟩); (try refine ⟨rfl, ?_⟩)
  first | (intro acts; rw [hret _ acts rfl rfl rfl]) | rw [hret _ _ rfl rfl rfl]
  exact Steps.refl _
/-- what holds at the law's entry: the machine, the code, the tables' words (any of lw_tbl by 'hts w (by decide +kernel)'), the script of L ints xs at the cell b, what the Statement gives of the start (any of its parts by flat_of_before) -/
def lw_At (p : Program) (s : State) (m : MethodId) (meth : Method) (c : Code) (b L : Nat) (xs : Nat → Int32) : Prop :=
  p.tables.exec = Jvm.exec ∧ c.code = code ∧ meth.sig.returnType = ret ∧ c.maxLocals = 4 ∧ s.vm.findClass R_law = some m.cls ∧ (∀ w ∈ lw_tbl, w.before #[Value.ref b] s = true) ∧ va_X b L xs s s.heap ∧ b < s.heap.size ∧ meth.locks = false ∧ (Jvm.Cond.and given_1 narrow_1).before #[Value.ref b] s = true
set_option maxHeartbeats 4000000 in
set_option maxRecDepth 100000 in
theorem law_loop {p : Program} {l : Launch} {e : Env} {s : State} {m : MethodId} {below : List Frame} {meth : Method} {c : Code} {D : va_G} {cs : Nat → ClassId} {b L : Nat} {xs : Nat → Int32} (hL : L ≤ 2048) (C0 : lw_At p s m meth c b L xs) (C : CallFix p m c cL_law 4 s #[Value.ref b] wsA RL) (hN : NW s) :
    ∀ (n i : Nat), L < i + n → i ≤ L → ∀ (X : Sh) (Z : ZT) (S : HS) (h gp a am cells slots : Nat) (H : Heap) (locs : List Loc) (ls : Array Slot), Wd s.heap.size D cs s X Z [] H locs → lo ls [some (.ref b), some (.ref a), some (.ref am), some (.int (nI i))] → LV a am X Z S h gp cells slots → W p l e room_1 s m #[Value.ref b] below meth c H locs cells slots (lw_Z below #[Value.ref b] s) (F0 m 18 ls []) := by
  obtain ⟨-, -, hr, -, -, -, hXs, hbl, hlocks, hgv⟩ := C0
  obtain ⟨hx, hb, hml, hown, hts⟩ := id C
  have hbA : ¬ Asz s.heap.size b := Nat.not_le.mpr hbl
  intro n
  induction n with
  | zero => intro i q1 q2; exact absurd q1 (by omega)
  | succ n ih =>
    intro i hin hi X Z S h gp a am cells slots H locs ls hw hl hV
    refine lv_iload_n hx hb dL_law_18 rfl (hl.at rfl) ?_
    refine lv_aload_n hx hb dL_law_19 rfl (hl.at rfl) ?_
    refine va_slen hx hb hXs hbl hbA hw.2.2.2.1 dL_law_20 ?_
    refine lv_iconst (v := 4) hx hb dL_law_21 (by decide) ?_
    refine lv_isub hx hb dL_law_22 ?_
    refine lv_icmp_gt (tgt := 687) hx hb dL_law_23 (by decide) (fun h23 => ?_) (fun h23 => ?_)
    · refine lv_iconst (v := 1) hx hb dL_law_687 (by decide) ?_
      refine va_forget (fun q hq => hw.2.2.2.1.2.2 q hq) ?_
      obtain ⟨-, -, -, -, -, -, -, u1, u2⟩ := hV
      refine W.widen (k := 600000) (n := 7302250) (by omega) (by omega) ?_
      exact lw_ret hx hb hr hlocks dL_law_688
    · have h4 := law_h4 hL hi h23
      have i0 : vp_in (nI i) L := vp_in_nI (by omega) (by omega)
      have i1 : vp_in (nI i + 1) L := by
        rw [show nI i + 1 = nI (i + 1) from nI_add i 1]
        exact vp_in_nI (by omega) (by omega)
      have i2 : vp_in (nI i + 2) L := by
        rw [show nI i + 2 = nI (i + 2) from nI_add i 2]
        exact vp_in_nI (by omega) (by omega)
      have i3 : vp_in (nI i + 3) L := by
        rw [show nI i + 3 = nI (i + 3) from nI_add i 3]
        exact vp_in_nI (by omega) (by omega)
      have nxt : ∀ (X1 : Sh) (Z1 : ZT) (S1 : HS) (h1 gp1 cells1 slots1 : Nat) (H1 : Heap) (locs1 : List Loc), Wd s.heap.size D cs s X1 Z1 [] H1 locs1 → LV a am X1 Z1 S1 h1 gp1 cells1 slots1 → W p l e room_1 s m #[Value.ref b] below meth c H1 locs1 cells1 slots1 (lw_Z below #[Value.ref b] s) (F0 m 681 ls []) := by
        intro X1 Z1 S1 h1 gp1 cells1 slots1 H1 locs1 hw1 hV1
        refine w_iinc hx hb dL_law_681 hl rfl rfl (fun ls hl => ?_)
        refine lv_goto (tgt := 18) hx hb dL_law_684 (by decide) ?_
        exact ih (i + 4) (by omega) (by omega) X1 Z1 S1 h1 gp1 a am cells1 slots1 H1 locs1 ls hw1 (by rw [← nI_add i 4]; exact hl) hV1
      refine lv_aload_n hx hb dL_law_26 rfl (hl.at rfl) ?_
      refine lv_iload_n hx hb dL_law_27 rfl (hl.at rfl) ?_
      refine va_sld hx hb hXs hbl hbA hw.2.2.2.1 i0 dL_law_28 ?_
      refine lv_bipush (v := 31) hx hb dL_law_29 (by decide) ?_
      refine lv_iand hx hb dL_law_31 ?_
      refine lv_topi (fun x32 e32 => ?_)
      by_cases q32_0 : x32 = 0
      · subst q32_0
        refine lv_tableIn (off := 92) (tgt := 124) hx hb dL_law_32 (by decide) (by decide) (by decide) (by decide) ?_
        exact law_c0 C hN hXs hbl hw hl hV i1 i2 i3 nxt
      by_cases q32_1 : x32 = 1
      · subst q32_1
        refine lv_tableIn (off := 125) (tgt := 157) hx hb dL_law_32 (by decide) (by decide) (by decide) (by decide) ?_
        exact law_c1 C hN hXs hbl hw hl hV i1 i2 i3 nxt
      by_cases q32_2 : x32 = 2
      · subst q32_2
        refine lv_tableIn (off := 148) (tgt := 180) hx hb dL_law_32 (by decide) (by decide) (by decide) (by decide) ?_
        exact law_c2 C hN hXs hbl hw hl hV i1 i2 i3 nxt
      by_cases q32_3 : x32 = 3
      · subst q32_3
        refine lv_tableIn (off := 191) (tgt := 223) hx hb dL_law_32 (by decide) (by decide) (by decide) (by decide) ?_
        exact law_c3 C hN hXs hbl hw hl hV i1 i2 i3 nxt
      by_cases q32_4 : x32 = 4
      · subst q32_4
        refine lv_tableIn (off := 234) (tgt := 266) hx hb dL_law_32 (by decide) (by decide) (by decide) (by decide) ?_
        exact law_c4 C hN hXs hbl hw hl hV i1 i2 i3 nxt
      by_cases q32_5 : x32 = 5
      · subst q32_5
        refine lv_tableIn (off := 267) (tgt := 299) hx hb dL_law_32 (by decide) (by decide) (by decide) (by decide) ?_
        exact law_c5 C hN hXs hbl hw hl hV i1 i2 i3 nxt
      by_cases q32_6 : x32 = 6
      · subst q32_6
        refine lv_tableIn (off := 290) (tgt := 322) hx hb dL_law_32 (by decide) (by decide) (by decide) (by decide) ?_
        exact law_c6 C hN hXs hbl hw hl hV i1 i2 i3 nxt
      by_cases q32_7 : x32 = 7
      · subst q32_7
        refine lv_tableIn (off := 323) (tgt := 355) hx hb dL_law_32 (by decide) (by decide) (by decide) (by decide) ?_
        exact law_c7 C hN hXs hbl hw hl hV i1 i2 i3 nxt
      by_cases q32_8 : x32 = 8
      · subst q32_8
        refine lv_tableIn (off := 346) (tgt := 378) hx hb dL_law_32 (by decide) (by decide) (by decide) (by decide) ?_
        exact law_c8 C hN hXs hbl hw hl hV i1 i2 i3 nxt
      by_cases q32_9 : x32 = 9
      · subst q32_9
        refine lv_tableIn (off := 369) (tgt := 401) hx hb dL_law_32 (by decide) (by decide) (by decide) (by decide) ?_
        exact law_c9 C hN hXs hbl hw hl hV i1 i2 i3 nxt
      by_cases q32_10 : x32 = 10
      · subst q32_10
        refine lv_tableIn (off := 392) (tgt := 424) hx hb dL_law_32 (by decide) (by decide) (by decide) (by decide) ?_
        exact law_c10 C hN hXs hbl hw hl hV i1 i2 i3 nxt
      by_cases q32_11 : x32 = 11
      · subst q32_11
        refine lv_tableIn (off := 425) (tgt := 457) hx hb dL_law_32 (by decide) (by decide) (by decide) (by decide) ?_
        exact law_c11 C hN hXs hbl hw hl hV i1 i2 i3 nxt
      by_cases q32_12 : x32 = 12
      · subst q32_12
        refine lv_tableIn (off := 448) (tgt := 480) hx hb dL_law_32 (by decide) (by decide) (by decide) (by decide) ?_
        exact law_c12 C hN hXs hbl hw hl hV i1 i2 i3 nxt
      by_cases q32_13 : x32 = 13
      · subst q32_13
        refine lv_tableIn (off := 481) (tgt := 513) hx hb dL_law_32 (by decide) (by decide) (by decide) (by decide) ?_
        exact law_c13 C hN hXs hbl hw hl hV i1 i2 i3 nxt
      by_cases q32_14 : x32 = 14
      · subst q32_14
        refine lv_tableIn (off := 514) (tgt := 546) hx hb dL_law_32 (by decide) (by decide) (by decide) (by decide) ?_
        exact law_c14 C hN hXs hbl hw hl hV i1 i2 i3 nxt
      by_cases q32_15 : x32 = 15
      · subst q32_15
        refine lv_tableIn (off := 547) (tgt := 579) hx hb dL_law_32 (by decide) (by decide) (by decide) (by decide) ?_
        exact law_c15 C hN hXs hbl hw hl hV i1 i2 i3 nxt
      by_cases q32_16 : x32 = 16
      · subst q32_16
        refine lv_tableIn (off := 580) (tgt := 612) hx hb dL_law_32 (by decide) (by decide) (by decide) (by decide) ?_
        exact law_c16 C hN hXs hbl hw hl hV i1 i2 i3 nxt
      by_cases q32_17 : x32 = 17
      · subst q32_17
        refine lv_tableIn (off := 613) (tgt := 645) hx hb dL_law_32 (by decide) (by decide) (by decide) (by decide) ?_
        exact law_c17 C hN hXs hbl hw hl hV i1 i2 i3 nxt
      by_cases q32_18 : x32 = 18
      · subst q32_18
        refine lv_tableIn (off := 636) (tgt := 668) hx hb dL_law_32 (by decide) (by decide) (by decide) (by decide) ?_
        exact law_c18 C hN hXs hbl hw hl hV i1 i2 i3 nxt
      refine lv_tableOut (tgt := 681) hx hb dL_law_32 (by have := lv_neT q32_0 (by decide : (0 : Int32).toInt = 0); have := lv_neT q32_1 (by decide : (1 : Int32).toInt = 1); have := lv_neT q32_2 (by decide : (2 : Int32).toInt = 2); have := lv_neT q32_3 (by decide : (3 : Int32).toInt = 3); have := lv_neT q32_4 (by decide : (4 : Int32).toInt = 4); have := lv_neT q32_5 (by decide : (5 : Int32).toInt = 5); have := lv_neT q32_6 (by decide : (6 : Int32).toInt = 6); have := lv_neT q32_7 (by decide : (7 : Int32).toInt = 7); have := lv_neT q32_8 (by decide : (8 : Int32).toInt = 8); have := lv_neT q32_9 (by decide : (9 : Int32).toInt = 9); have := lv_neT q32_10 (by decide : (10 : Int32).toInt = 10); have := lv_neT q32_11 (by decide : (11 : Int32).toInt = 11); have := lv_neT q32_12 (by decide : (12 : Int32).toInt = 12); have := lv_neT q32_13 (by decide : (13 : Int32).toInt = 13); have := lv_neT q32_14 (by decide : (14 : Int32).toInt = 14); have := lv_neT q32_15 (by decide : (15 : Int32).toInt = 15); have := lv_neT q32_16 (by decide : (16 : Int32).toInt = 16); have := lv_neT q32_17 (by decide : (17 : Int32).toInt = 17); have := lv_neT q32_18 (by decide : (18 : Int32).toInt = 18); omega) (by decide) ?_
      exact nxt X Z S h gp cells slots H locs hw hV
