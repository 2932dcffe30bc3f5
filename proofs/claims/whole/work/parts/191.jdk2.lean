section WL
variable {p : Program} {l : Launch} {e : Env} {R : Room} {s : State} {m : MethodId} {args : Array Value} {below : List Frame} {meth : Method} {c : Code} {H : Heap} {locs : List Loc} {cells slots : Nat} {Q : State → Prop}
variable {cc : ByteArray} {pc nL : Nat} {ls : Array Slot} {rest : List Value} {own : String}
variable {sz0 : Nat} {D : va_G} {cs : Nat → ClassId} {X : Sh} {Z : ZT} {Y : va_W}
/-- arraycopy into the row that lies last -/
theorem w_cpyL (C : CallFix p m c cc nL s args wsA own) {q N : Nat} {f : Nat → Int32} (hw : Wd sz0 D cs s X Z (Y ++ [lcell cs q N f]) H locs) {index c0 i0 n0 : Nat} {sp dp n : Int32} (hlk : Cond.methodLink own index arraycopyName ∈ wsA) (hdg : decode cc pc = .ok (.invokestatic index, 3))
    (hm0 : (c0, i0) ∈ X.2.2.2) {a0 : Nat} (ha0 : adr X c0 i0 = a0) (he0 : Ec cs X c0 i0 (Z c0 i0) = .inl (cs 0, n0, .inl (Z c0 i0)))
    (h1 : ¬ sp < 0) (h2 : ¬ dp < 0) (h3 : ¬ n < 0) {js jd jn : Nat} (hjs : sp.toNatClampNeg = js) (hjd : dp.toNatClampNeg = jd) (hjn : n.toNatClampNeg = jn) (h4 : js + jn ≤ n0) (h5 : jd + jn ≤ N) (hsz : ls.size = nL) (hfr : 1 ≤ R.frames) (hlo : (rest.map fun v => v.category).sum + 18 ≤ R.locals)
    (kk : ∀ (H1 : Heap) (locs1 : List Loc), Wd sz0 D cs s X Z (Y ++ [lcell cs q N (va_cpy (Z c0 i0) f js jd jn)]) H1 locs1 → W p l e R s m args below meth c H1 locs1 cells slots Q (F0 m (pc + 3) ls rest)) :
    W p l e R s m args below meth c H locs cells slots Q (F0 m pc ls (.int n :: .int dp :: .ref q :: .int sp :: .ref a0 :: rest)) := by
  subst ha0; subst hjs; subst hjd; subst hjn
  obtain ⟨hx, hb, hml, hown, hts⟩ := C
  obtain ⟨hK, hP, hD, hS, hz⟩ := hw
  obtain ⟨q0, hq0⟩ := wl_pos (cs := cs) (Z := Z) (Y := Y ++ [lcell cs q N f]) hm0
  rw [he0] at hq0
  have hlast : (Wl cs X Z ++ (Y ++ [lcell cs q N f]))[X.2.2.2.length + Y.length]? = some (lcell cs q N f) := by
    rw [List.getElem?_append_right (by rw [wl_len]; omega), wl_len, List.getElem?_append_right (by omega)]
    simp
  refine va_copyi hx hb (hml.trans hsz.symm) hown (hts _ hlk) (hts _ mw196) (hts _ mw197) (hts _ mw198) hK hP hD hS q0 _ 0 0 (ty := .int) hq0 hlast rfl rfl rfl h1 h2 h3 h4 h5 (fun _ _ => rfl) hfr hlo hdg (fun H1 locs1 k1 k2 k3 => ?_)
  have es : (Wl cs X Z ++ (Y ++ [lcell cs q N f])).set (X.2.2.2.length + Y.length) (lcell cs q N (va_cpy (Z c0 i0) f sp.toNatClampNeg dp.toNatClampNeg n.toNatClampNeg)) = Wl cs X Z ++ (Y ++ [lcell cs q N (va_cpy (Z c0 i0) f sp.toNatClampNeg dp.toNatClampNeg n.toNatClampNeg)]) := by
    rw [List.set_append_right _ _ (by rw [wl_len]; omega), wl_len, List.set_append_right _ _ (by omega)]
    simp
  rw [es] at k1 k2
  exact kk H1 locs1 ⟨hK, k1, k2, k3, hz⟩
end WL

set_option maxHeartbeats 4000000 in
set_option maxRecDepth 100000 in
theorem c_copyOf (l : Launch) (sz0 : Nat) (D : va_G) (cs : Nat → ClassId) (X : Sh) (Z : ZT) (Y : va_W) (c0 i0 n n2 kc ks : Nat) (hm : (c0, i0) ∈ X.2.2.2) (he : ∀ f, Ec cs X c0 i0 f = .inl (cs 0, n, .inl f)) (hn : n < n2) (hn2 : n2 ≤ 32832) (hkc : 1 ≤ kc) (hks : n2 ≤ ks) : Ctr l yJ7_copyOf_59c91 (wsM yJ7_copyOf_59c91 cJ7_copyOf_59c91 3 (some (.array .int))) ({ frames := 1, cells := kc, slots := ks, locals := 26 } : Room) sz0 D cs [.ref (adr X c0 i0), .int (nI n2)] X Z Y (fun X' Z' Y' v k m => X = X' ∧ Z = Z' ∧ k = 1 ∧ n2 = m ∧ ∃ q, v = some (.ref q) ∧ Y' = Y ++ [lcell cs q n2 (fun j => if j < n then Z c0 i0 j else 0)]) := by
  refine Ctr.ofW (by decide +kernel) (by intro v hv; simp at hv; rcases hv with rfl | rfl <;> rfl) (Nat.le_of_ble_eq_true rfl) ?_
  intro p e s m below meth c ls C hr hlocks hname hl hN hw
  obtain ⟨hx, hb, hml, hown, hts⟩ := id C
  have hb31 : n2 < 2 ^ 31 := by omega
  refine lv_iload_n hx hb dJ7_copyOf_59c91_0 rfl (hl.at rfl) ?_
  refine lv_aload_n hx hb dJ7_copyOf_59c91_1 rfl (hl.at rfl) ?_
  refine w_len C hw (c0 := c0) (i0 := i0) (ty := 0) dJ7_copyOf_59c91_2 hm rfl (he _) rfl rfl rfl ?_
  refine lv_icmp_ne (tgt := 14) hx hb dJ7_copyOf_59c91_3 (by decide) (fun h3 => ?_) (fun h3 => ?_)
  · refine lv_iload_n hx hb dJ7_copyOf_59c91_14 rfl (hl.at rfl) ?_
    refine w_newi C hw (nI_pos hb31) (nI_clamp hb31) (by omega) (by show 0 + 1 ≤ kc; omega) (by show 0 + n2 ≤ ks; omega) dJ7_copyOf_59c91_15 (fun q H hw => ?_)
    refine w_astore_n hx hb dJ7_copyOf_59c91_17 rfl hl (Nat.le_of_ble_eq_true rfl) (fun ls hl => ?_)
    refine lv_aload_n hx hb dJ7_copyOf_59c91_18 rfl (hl.at rfl) ?_
    refine lv_iconst (v := 0) hx hb dJ7_copyOf_59c91_19 (by decide) ?_
    refine lv_aload_n hx hb dJ7_copyOf_59c91_20 rfl (hl.at rfl) ?_
    refine lv_iconst (v := 0) hx hb dJ7_copyOf_59c91_21 (by decide) ?_
    refine lv_aload_n hx hb dJ7_copyOf_59c91_22 rfl (hl.at rfl) ?_
    refine w_len C hw (c0 := c0) (i0 := i0) (ty := 0) dJ7_copyOf_59c91_23 hm rfl (he _) rfl rfl rfl ?_
    refine lv_iload_n hx hb dJ7_copyOf_59c91_24 rfl (hl.at rfl) ?_
    refine va_mmin hx hb (hml.trans hl.1.1.symm) hown (hts _ mw216) (hts _ mw217) (hts _ mw218) (hts _ mw219) (Nat.le_of_ble_eq_true rfl) (Nat.le_of_ble_eq_true rfl) (by show 0 + 1 ≤ kc; omega) (by show 0 + n2 ≤ ks; omega) dJ7_copyOf_59c91_25 ?_
    rw [if_neg (show ¬ nI n2 < Int32.ofNat n from nI_nlt (Nat.le_of_lt hn) hb31)]
    refine w_cpyL C hw (c0 := c0) (i0 := i0) mw220 dJ7_copyOf_59c91_28 hm rfl (he _) (by decide) (by decide) (show ¬ nI n < 0 from nI_pos (by omega)) (js := 0) (jd := 0) (jn := n) (by decide) (by decide) (nI_clamp (by omega)) (by omega) (by omega) hl.1.1 (Nat.le_of_ble_eq_true rfl) (Nat.le_of_ble_eq_true rfl) (fun H locs hw => ?_)
    refine lv_aload_n hx hb dJ7_copyOf_59c91_31 rfl (hl.at rfl) ?_
    have ef : va_cpy (Z c0 i0) (fun _ => (0 : Int32)) 0 0 n = (fun j => if j < n then Z c0 i0 j else 0) := by
      funext j
      simp only [va_cpy]
      by_cases h : j < n
      · rw [if_pos (by omega), if_pos h]
        congr 1
        omega
      · rw [if_neg (by omega), if_neg h]
    rw [ef] at hw
    exact w_aret C hw hr (Or.inr ⟨_, rfl⟩) (Or.inr ⟨_, rfl⟩) hlocks dJ7_copyOf_59c91_32 ⟨rfl, rfl, rfl, by show n2 = 0 + n2; omega, q, rfl, rfl⟩
  · exact absurd h3 (fun h => by have := (nI_eq hb31 (show n < 2 ^ 31 by omega)).mp h; omega)
