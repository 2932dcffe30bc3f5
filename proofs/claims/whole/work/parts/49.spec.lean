/-! ===== a guest as a machine of its own: rows 0 numbers, 1 memory, 2 disk, 3 registers, 4 controls, 5 cache, 6 what came in, 7 what was put out ===== -/
abbrev GS : Type := Nat → Nat → Int32
def gu (g : GS) (r k : Nat) (v : Int32) : GS := fun r' => if r' = r then upd (g r) k v else g r'
def gr (g : GS) (r : Nat) (f : Nat → Int32) : GS := fun r' => if r' = r then f else g r'
def ush (x n : Int32) : Int32 := (x.toUInt32 >>> (n.toUInt32 &&& Int32.toUInt32 31)).toInt32
def opc (w : Int32) : Int32 := ush w 26
def fA (w : Int32) : Nat := (ush w 20 &&& 7).toNatClampNeg
def fB (w : Int32) : Nat := (ush w 17 &&& 7).toNatClampNeg
def fD (w : Int32) : Nat := (ush w 23 &&& 7).toNatClampNeg
def numS (w : Int32) : Int32 := (w <<< ((15 : Int32) &&& 31)) >>> ((15 : Int32) &&& 31)
def sumS (op a b n : Int32) : Int32 :=
  if op = 0 then a + b else if op = 1 then a - b else if op = 2 then a &&& b else if op = 3 then a ||| b else if op = 4 then a ^^^ b else if op = 5 then a * b
  else if op = 6 then (if b ≤ a then 0 else 1) else if op = 7 then a <<< ((b &&& 31) &&& 31) else if op = 8 then ush a (b &&& 31) else if op = 9 then a + n else n <<< ((15 : Int32) &&& 31)
def lineS (st c t w : Int32) : Int32 := if st &&& 1 = 0 then 0 else if ¬ st &&& 256 = 0 ∧ ¬ timeUpv c t = 0 then 16 else if ¬ st &&& 512 = 0 ∧ ¬ w ≤ 0 then 17 else 0
def trapS (g : GS) (c b : Int32) : GS :=
  gr (gr g 4 (upd (upd (upd (upd (g 4) 0 ((g 4 0 &&& 1792) ||| ((if g 4 0 &&& 1 = 0 then 0 else 2) ||| (if g 0 3 = 0 then 0 else 4)))) 1 c) 2 (g 0 2)) 3 b)) 0 (upd (upd (upd (g 0) 3 1) 2 (g 4 4)) 5 (g 0 5 + 1))
/-- what an address is: the machine behind, the trap (0: none) and its number, the place in memory -/
abbrev LR : Type := GS × Int32 × Int32 × Int32
def locF (g : GS) (p tab : Nat) (a kind e : Int32) : LR :=
  if (g 0 3 = 0 ∧ e &&& 2 = 0) ∨ (kind = 13 ∧ e &&& 1 = 0) then (g, kind, a, -1)
  else if kind = 13 ∧ e &&& 4 = 0 then (gu (gu g 1 tab (g 1 tab ||| 16)) 5 p (e ||| 4), 0, 0, (e >>> ((3 : Int32) &&& 31)) * 64 + (a &&& 63))
  else (g, 0, 0, (e >>> ((3 : Int32) &&& 31)) * 64 + (a &&& 63))
def entS (w : Int32) : Int32 := (((w >>> ((8 : Int32) &&& 31)) &&& 63) <<< ((3 : Int32) &&& 31)) ||| ((w >>> ((1 : Int32) &&& 31)) &&& 3) ||| ((w >>> ((2 : Int32) &&& 31)) &&& 4)
def locS (F : Nat) (g : GS) (a kind : Int32) : LR :=
  if ¬ g 4 5 < 0 then (if hasWv (nI F) a = 0 then (g, 5, a, -1) else (g, 0, 0, a))
  else if a < 0 ∨ ¬ a < 16384 then (g, kind, a, -1)
  else
    if g 5 (a >>> ((6 : Int32) &&& 31)).toNatClampNeg = -1 then
      if hasWv (nI F) (64 * (g 4 5 &&& 63) + (a >>> ((6 : Int32) &&& 31))) = 0 then (g, 5, a, -1)
      else if g 1 (64 * (g 4 5 &&& 63) + (a >>> ((6 : Int32) &&& 31))).toNatClampNeg &&& 1 = 0 ∨ ¬ ((g 1 (64 * (g 4 5 &&& 63) + (a >>> ((6 : Int32) &&& 31))).toNatClampNeg >>> ((8 : Int32) &&& 31)) &&& 63) < nI F then (g, kind, a, -1)
      else locF (gu (gu g 1 (64 * (g 4 5 &&& 63) + (a >>> ((6 : Int32) &&& 31))).toNatClampNeg (g 1 (64 * (g 4 5 &&& 63) + (a >>> ((6 : Int32) &&& 31))).toNatClampNeg ||| 8)) 5 (a >>> ((6 : Int32) &&& 31)).toNatClampNeg (entS (g 1 (64 * (g 4 5 &&& 63) + (a >>> ((6 : Int32) &&& 31))).toNatClampNeg)))
        (a >>> ((6 : Int32) &&& 31)).toNatClampNeg (64 * (g 4 5 &&& 63) + (a >>> ((6 : Int32) &&& 31))).toNatClampNeg a kind (entS (g 1 (64 * (g 4 5 &&& 63) + (a >>> ((6 : Int32) &&& 31))).toNatClampNeg))
    else locF g (a >>> ((6 : Int32) &&& 31)).toNatClampNeg (64 * (g 4 5 &&& 63) + (a >>> ((6 : Int32) &&& 31))).toNatClampNeg a kind (g 5 (a >>> ((6 : Int32) &&& 31)).toNatClampNeg)
/-- what an instruction does: the machine, the trap (0: none), its number, the next place, the count -/
abbrev ER : Type := GS × Int32 × Int32 × Int32 × Int32
def useS (F : Nat) (g : GS) (w : Int32) : LR :=
  let r := locS F g (g 3 (fA w) + numS w) (if opc w = 11 then 12 else 13)
  if ¬ r.2.1 = 0 then r
  else
    let g1 := if opc w = 12 then r.1 else gu r.1 3 (fD w) (r.1 1 r.2.2.2.toNatClampNeg)
    (if opc w = 11 then g1 else gu g1 1 r.2.2.2.toNatClampNeg (g 3 (fB w)), 0, 0, 0)
def jumpS (g : GS) (w nx : Int32) : GS × Int32 :=
  if opc w = 14 then (g, if ¬ g 3 (fA w) = g 3 (fB w) then nx else g 0 2 + numS w)
  else if opc w = 15 then (g, if g 3 (fA w) = g 3 (fB w) then nx else g 0 2 + numS w)
  else if opc w = 16 then (g, if g 3 (fB w) ≤ g 3 (fA w) then nx else g 0 2 + numS w)
  else if opc w = 17 then (gu g 3 (fD w) nx, g 0 2 + numS w)
  else (gu g 3 (fD w) nx, g 3 (fA w) + numS w)
