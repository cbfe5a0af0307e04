def F_M_laysLevels_L2 (a1 : Int32) : Nat → Int32 → Mem → Option (Unit × Mem)
  | 0, _, _ => none
  | nf3 + 1, x2, m1 =>
    if (6 : Int32) ≤ x2 then (
    some ((), m1)) else (
    bnd (F_M_inningsOf x2 m1) fun x7 m5 =>
    bnd (F_M_inningsOf x2 m5) fun x10 m8 =>
    bnd (F_M_isBehind x2 m8) fun z13 m11 =>
    bnd (F_M_batting (gI m5 78 20) x10 z13 m11) fun x16 m14 =>
    bnd (F_M_levelOf a1 x7 x16 m14) fun x19 m17 =>
    ckB (inb x2 6) <|
    lt (sI m17 88 x2.toNatClampNeg x19) fun m20 =>
    lt (x2 + (1 : Int32) : Int32) fun x22 =>
    F_M_laysLevels_L2 a1 nf3 x22 m20)
def F_M_laysLevels (a1 : Int32) (m0 : Mem) : Option (Unit × Mem) :=
F_M_laysLevels_L2 a1 1000000 (0 : Int32) m0
def F_M_has (a0 : Int32) (a1 : Int32) (m0 : Mem) : Option (Bool × Mem) :=
if ((a0 >>> (a1 &&& 31)) &&& (1 : Int32)) = (1 : Int32) then (
some (true, m0)) else (
some (false, m0))
def F_M_isRain (a1 : Int32) (m0 : Mem) : Option (Bool × Mem) :=
bnd (F_M_has (gI m0 79 8) a1 m0) fun z3 m1 =>
some (z3, m1)
def F_M_ofSlot (a1 : Int32) (a2 : Int32) (a3 : Int32) (m0 : Mem) : Option (Int32 × Mem) :=
lt ((23 : Int32) + ((2 : Int32) * (((4 : Int32) * a1) + a2)) : Int32) fun x1 =>
ckB (inb (x1 + a3) 1972) <|
lt (gI m0 79 (x1 + a3).toNatClampNeg) fun x3 =>
some (x3, m0)
def F_M_runsOf (a1 : Int32) (a2 : Int32) (a3 : Int32) (a4 : Bool) (m0 : Mem) : Option (Int32 × Mem) :=
if a4 = true then (
some ((0 : Int32), m0)) else (
bnd (F_M_isRain a1 m0) fun z3 m1 =>
if z3 = true then (
some ((0 : Int32), m1)) else (
ckB (inb a2 6) <|
lt (gI m1 88 a2.toNatClampNeg) fun x5 =>
bnd (F_M_ofSlot x5 a3 (0 : Int32) m1) fun x8 m6 =>
some (x8, m6)))
def F_M_outsOf (a1 : Int32) (a2 : Int32) (a3 : Int32) (a4 : Bool) (m0 : Mem) : Option (Int32 × Mem) :=
bnd (F_M_isRain a1 m0) fun z3 m1 =>
if z3 = true then (
some ((0 : Int32), m1)) else (
ckB (inb a2 6) <|
lt (gI m1 88 a2.toNatClampNeg) fun x5 =>
bnd (F_M_ofSlot x5 a3 (1 : Int32) m1) fun x8 m6 =>
lt (fun (z10 : Bool) (m9 : Mem) => ((some (mxI (0 : Int32) (x8 - (b2i z10)), m9)) : Option (Int32 × Mem))) fun k35_10 =>
if a4 = true then (
k35_10 true m6) else (
k35_10 false m6))
def F_M_nextKind (a0 : Int32) (m0 : Mem) : Option (Int32 × Mem) :=
if (2 : Int32) ≤ a0 then (
some (a0 + (2 : Int32), m0)) else (
some (a0 + (1 : Int32), m0))
def F_M_cell (a0 : Int32) (a1 : Int32) (a2 : Int32) (a3 : Int32) (m0 : Mem) : Option (Int32 × Mem) :=
lt (((a0 &&& (1 : Int32)) * (21450 : Int32)) + (a1 * (3575 : Int32)) : Int32) fun x1 =>
lt (((x1 + (a2 * (325 : Int32))) + a3) + (162 : Int32) : Int32) fun x2 =>
some (x2, m0)
def F_M_all (a1 : Int32) (m0 : Mem) : Option (Int32 × Mem) :=
bnd (F_M_size m0) fun x3 m1 =>
lt ((1 : Int32) <<< (((2 : Int32) * (x3 - a1)) &&& 31) : Int32) fun x4 =>
some (x4, m1)
def F_M_brings (a1 : Int32) (a2 : Int32) (a3 : Int32) (a4 : Int32) (a5 : Int32) (a6 : Bool) (m0 : Mem) : Option (Unit × Mem) :=
bnd (F_M_runsOf a1 a2 a5 a6 m0) fun x3 m1 =>
lt (a4 + x3 : Int32) fun x4 =>
lt (fun (x6 : Int32) (m5 : Mem) => ((bnd (F_M_outsOf a1 a2 a5 a6 m5) fun x9 m7 =>
lt (x6 + x9 : Int32) fun x10 =>
lt (fun (m11 : Mem) => ((if (10 : Int32) ≤ x10 then (
if a2 ≤ (3 : Int32) then (
bnd (F_M_nextKind a2 m11) fun x14 m12 =>
lt (fun (m15 : Mem) => ((bnd (F_M_size m15) fun x18 m16 =>
if x18 ≤ (a1 + (1 : Int32)) then (
some ((), m16)) else (
bnd (F_M_nextKind a2 m16) fun x21 m19 =>
bnd (F_M_cell (a1 + (1 : Int32)) x21 (10 : Int32) (-x4) m19) fun x24 m22 =>
ckB (inb x24 42900) <|
lt (gI m22 87 x24.toNatClampNeg) fun x26 =>
lt (sI m22 78 23 ((gI m16 78 23) + x26)) fun m27 =>
bnd (F_M_nextKind a2 m27) fun x30 m28 =>
bnd (F_M_cell (a1 + (1 : Int32)) x30 (10 : Int32) (-x4) m28) fun x33 m31 =>
ckB (inb x33 42900) <|
lt (gI m31 86 x33.toNatClampNeg) fun x35 =>
lt (sI m31 78 24 ((gI m27 78 24) + x35)) fun m36 =>
some ((), m36))) : Option (Unit × Mem))) fun k204_15 =>
if x14 ≤ (3 : Int32) then (
k204_15 m12) else (
if 0 ≤ x4 then (
k204_15 m12) else (
bnd (F_M_all (a1 + (1 : Int32)) m12) fun x39 m37 =>
lt (sI m37 78 24 ((gI m12 78 24) + x39)) fun m40 =>
some ((), m40)))) else (
lt (fun (x42 : Int32) (m41 : Mem) => ((lt (sI m41 78 24 ((gI m11 78 24) + x42)) fun m43 =>
some ((), m43)) : Option (Unit × Mem))) fun k165_42 =>
if 0 ≤ x4 then (
k165_42 (0 : Int32) m11) else (
bnd (F_M_all (a1 + (1 : Int32)) m11) fun x46 m44 =>
k165_42 x46 m44))) else (
bnd (F_M_size m11) fun x49 m47 =>
if (a1 + (1 : Int32)) = x49 then (
some ((), m47)) else (
bnd (F_M_cell (a1 + (1 : Int32)) a2 x10 x4 m47) fun x52 m50 =>
ckB (inb x52 42900) <|
lt (gI m50 86 x52.toNatClampNeg) fun x54 =>
lt (sI m50 78 23 ((gI m47 78 23) + x54)) fun m55 =>
bnd (F_M_cell (a1 + (1 : Int32)) a2 x10 x4 m55) fun x58 m56 =>
ckB (inb x58 42900) <|
lt (gI m56 87 x58.toNatClampNeg) fun x60 =>
lt (sI m56 78 24 ((gI m55 78 24) + x60)) fun m61 =>
some ((), m61)))) : Option (Unit × Mem))) fun k68_11 =>
if a2 ≤ (3 : Int32) then (
k68_11 m7) else (
if x4 ≤ 0 then (
k68_11 m7) else (
bnd (F_M_all (a1 + (1 : Int32)) m7) fun x64 m62 =>
lt (sI m62 78 23 ((gI m7 78 23) + x64)) fun m65 =>
some ((), m65)))) : Option (Unit × Mem))) fun k26_6 =>
if a3 = (10 : Int32) then (
k26_6 (0 : Int32) m1) else (
k26_6 a3 m1)
def F_M_goesOn_L13 (a1 : Int32) (a2 : Int32) (a3 : Int32) (a4 : Int32) (a5 : Bool) : Nat → Int32 → Mem → Option (Unit × Mem)
  | 0, _, _ => none
  | nf5 + 1, x4, m3 =>
    if (4 : Int32) ≤ x4 then (
    some ((), m3)) else (
    bnd (F_M_brings a1 a2 a3 a4 x4 a5 m3) fun _ m7 =>
    lt (x4 + (1 : Int32) : Int32) fun x10 =>
    F_M_goesOn_L13 a1 a2 a3 a4 a5 nf5 x10 m7)
def F_M_goesOn (a1 : Int32) (a2 : Int32) (a3 : Int32) (a4 : Int32) (a5 : Bool) (m0 : Mem) : Option (Unit × Mem) :=
lt (sI m0 78 23 (0 : Int32)) fun m1 =>
lt (sI m1 78 24 (0 : Int32)) fun m2 =>
F_M_goesOn_L13 a1 a2 a3 a4 a5 1000000 (0 : Int32) m2
def F_M_worthOf (a1 : Int32) (a2 : Int32) (a3 : Int32) (m0 : Mem) : Option (Int64 × Mem) :=
bnd (F_M_all a1 m0) fun x3 m1 =>
lt (((gI m0 78 21).toInt64) * (((x3 - a2) - a3).toInt64) : Int64) fun y4 =>
some (((100 : Int64) * a2.toInt64) + y4, m1)
def F_M_got (a1 : Int32) (m0 : Mem) : Option (Int64 × Mem) :=
bnd (F_M_worthOf a1 (gI m0 78 23) (gI m0 78 24) m0) fun y3 m1 =>
some (y3, m1)
def F_M_mayDeclare (a1 : Int32) (a2 : Int32) (m0 : Mem) : Option (Bool × Mem) :=
if (4 : Int32) ≤ a1 then (
some (false, m0)) else (
if a2 = (10 : Int32) then (
some (false, m0)) else (
some (true, m0)))
def F_M_mayFollow (a1 : Int32) (a2 : Int32) (a3 : Int32) (m0 : Mem) : Option (Bool × Mem) :=
if a1 = (2 : Int32) then (
if a2 = (10 : Int32) then (
if a3 < (gI m0 79 1) then (
some (false, m0)) else (
some (true, m0))) else (
some (false, m0))) else (
some (false, m0))
def F_M_handsOver (a1 : Int32) (a2 : Int32) (a3 : Int32) (m0 : Mem) : Option (Unit × Mem) :=
bnd (F_M_cell a1 a2 (10 : Int32) (-a3) m0) fun x3 m1 =>
ckB (inb x3 42900) <|
lt (gI m1 87 x3.toNatClampNeg) fun x5 =>
lt (sI m1 78 23 x5) fun m6 =>
bnd (F_M_cell a1 a2 (10 : Int32) (-a3) m6) fun x9 m7 =>
ckB (inb x9 42900) <|
lt (gI m7 86 x9.toNatClampNeg) fun x11 =>
lt (sI m7 78 24 x11) fun m12 =>
some ((), m12)
def F_M_tries (a1 : Int32) (a2 : Int32) (a3 : Int32) (a4 : Int32) (m0 : Mem) : Option (Unit × Mem) :=
if a2 ≤ (3 : Int32) then (
bnd (F_M_mayDeclare a2 a3 m0) fun z3 m1 =>
if z3 = true then (
bnd (F_M_nextKind a2 m1) fun x12 m10 =>
bnd (F_M_handsOver a1 x12 a4 m10) fun _ m13 =>
some ((), m13)) else (
bnd (F_M_mayFollow a2 a3 a4 m1) fun z6 m4 =>
if z6 = true then (
bnd (F_M_handsOver a1 (3 : Int32) a4 m4) fun _ m7 =>
some ((), m7)) else (
some ((), m4)))) else (
bnd (F_M_goesOn a1 a2 a3 a4 true m0) fun _ m16 =>
some ((), m16))
def F_M_chooses (a1 : Int32) (a2 : Int32) (a3 : Int32) (a4 : Int32) (m0 : Mem) : Option (Bool × Mem) :=
lt (gI m0 78 23 : Int32) fun x1 =>
lt (gI m0 78 24 : Int32) fun x2 =>
bnd (F_M_got a1 m0) fun y5 m3 =>
bnd (F_M_tries a1 a2 a3 a4 m3) fun _ m6 =>
bnd (F_M_got a1 m6) fun y11 m9 =>
if y11 ≤ y5 then (
lt (sI m9 78 23 x1) fun m12 =>
lt (sI m12 78 24 x2) fun m13 =>
some (false, m13)) else (
some (true, m9))
def F_M_counts (a1 : Int32) (a2 : Int32) (a3 : Int32) (a4 : Int32) (m0 : Mem) : Option (Unit × Mem) :=
lt (fun (m1 : Mem) => ((bnd (F_M_goesOn a1 a2 a3 a4 false m1) fun _ m2 =>
if (gZ m2 78 22) = true then (
some ((), m2)) else (
bnd (F_M_chooses a1 a2 a3 a4 m2) fun z7 m5 =>
some ((), m5))) : Option (Unit × Mem))) fun k25_1 =>
if a2 ≤ (3 : Int32) then (
k25_1 m0) else (
if a4 ≤ 0 then (
k25_1 m0) else (
bnd (F_M_all a1 m0) fun x10 m8 =>
lt (sI m8 78 23 x10) fun m11 =>
lt (sI m11 78 24 (0 : Int32)) fun m12 =>
some ((), m12)))
def F_M_layers_L71 (x10 : Int32) (x16 : Int32) (x20 : Int32) (x26 : Int32) (k136_30 : Mem → Option (Unit × Mem)) : Nat → Int32 → Mem → Option (Unit × Mem)
  | 0, _, _ => none
  | nf34 + 1, x33, m32 =>
    if x16 < x33 then (
    k136_30 m32) else (
    bnd (F_M_counts x10 x20 x26 x33 m32) fun _ m36 =>
    bnd (F_M_cell x10 x20 x26 x33 m36) fun x41 m39 =>
    ckB (inb x41 42900) <|
    lt (sI m39 86 x41.toNatClampNeg (gI m39 78 23)) fun m42 =>
    bnd (F_M_cell x10 x20 x26 x33 m42) fun x46 m44 =>
    ckB (inb x46 42900) <|
    lt (sI m44 87 x46.toNatClampNeg (gI m44 78 24)) fun m47 =>
    lt (x33 + (1 : Int32) : Int32) fun x49 =>
    F_M_layers_L71 x10 x16 x20 x26 k136_30 nf34 x49 m47)
def F_M_layers_L59 (x10 : Int32) (x16 : Int32) (x20 : Int32) (k142_23 : Mem → Option (Unit × Mem)) : Nat → Int32 → Mem → Option (Unit × Mem)
  | 0, _, _ => none
  | nf27 + 1, x26, m25 =>
    if (10 : Int32) < x26 then (
    k142_23 m25) else (
    lt (-x16 : Int32) fun x29 =>
    lt (fun (m30 : Mem) => ((lt (x26 + (1 : Int32) : Int32) fun x31 =>
    F_M_layers_L59 x10 x16 x20 k142_23 nf27 x31 m30) : Option (Unit × Mem))) fun k136_30 =>
    F_M_layers_L71 x10 x16 x20 x26 k136_30 1000000 x29 m25)
def F_M_layers_L51 (x10 : Int32) (x16 : Int32) (k148_17 : Mem → Option (Unit × Mem)) : Nat → Int32 → Mem → Option (Unit × Mem)
  | 0, _, _ => none
  | nf21 + 1, x20, m19 =>
    if x20 < 0 then (
    k148_17 m19) else (
    lt (fun (m23 : Mem) => ((lt (x20 + (-1 : Int32) : Int32) fun x24 =>
    F_M_layers_L51 x10 x16 k148_17 nf21 x24 m23) : Option (Unit × Mem))) fun k142_23 =>
    F_M_layers_L59 x10 x16 x20 k142_23 1000000 (0 : Int32) m19)
def F_M_layers_L19 (a2 : Int32) (a3 : Int32) (x4 : Int32) : Nat → Int32 → Mem → Option (Unit × Mem)
  | 0, _, _ => none
  | nf11 + 1, x10, m9 =>
    if x10 < a2 then (
    some ((), m9)) else (
    bnd (F_M_laysLevels x10 m9) fun _ m13 =>
    lt (mnI (162 : Int32) (a3 + (x4 * (x10 - a2))) : Int32) fun x16 =>
    lt (fun (m17 : Mem) => ((lt (x10 + (-1 : Int32) : Int32) fun x18 =>
    F_M_layers_L19 a2 a3 x4 nf11 x18 m17) : Option (Unit × Mem))) fun k148_17 =>
    F_M_layers_L51 x10 x16 k148_17 1000000 (5 : Int32) m13)
def F_M_layers (a1 : Int32) (a2 : Int32) (a3 : Int32) (m0 : Mem) : Option (Unit × Mem) :=
lt (sI m0 78 20 a1) fun m1 =>
bnd (F_M_mostRuns m1) fun x4 m2 =>
bnd (F_M_size m2) fun x7 m5 =>
lt (x7 - (1 : Int32) : Int32) fun x8 =>
F_M_layers_L19 a2 a3 x4 1000000 x8 m5
def F_M_kindOf (a0 : Int32) (a1 : Bool) (m0 : Mem) : Option (Int32 × Mem) :=
if (2 : Int32) ≤ a0 then (
if a0 = (2 : Int32) then (
if a1 = true then (
some ((3 : Int32), m0)) else (
some ((2 : Int32), m0))) else (
if a1 = true then (
some ((5 : Int32), m0)) else (
some ((4 : Int32), m0)))) else (
some (a0, m0))
def F_M_kindNow (m0 : Mem) : Option (Int32 × Mem) :=
bnd (F_M_isFollowed m0) fun z3 m1 =>
bnd (F_M_kindOf (gI m0 79 11) z3 m1) fun x6 m4 =>
some (x6, m4)
def F_M_outNow (m0 : Mem) : Option (Int32 × Mem) :=
if (gI m0 79 14) = (1 : Int32) then (
some ((10 : Int32), m0)) else (
some (gI m0 79 13, m0))
def F_M_countsAfter (a1 : Int32) (m0 : Mem) : Option (Unit × Mem) :=
bnd (F_M_played m0) fun x3 m1 =>
bnd (F_M_batter m1) fun x6 m4 =>
bnd (F_M_leadOf x6 m4) fun x9 m7 =>
lt (sI m7 78 21 (gI m7 79 2)) fun m10 =>
bnd (F_M_firstSide m10) fun x13 m11 =>
bnd (F_M_mostRuns m11) fun x16 m14 =>
bnd (F_M_layers x13 (x3 + (1 : Int32)) ((abI x9) + x16) m14) fun _ m17 =>
bnd (F_M_laysLevels x3 m17) fun _ m20 =>
lt (sI m20 78 23 (0 : Int32)) fun m23 =>
lt (sI m23 78 24 (0 : Int32)) fun m24 =>
bnd (F_M_kindNow m24) fun x27 m25 =>
bnd (F_M_outNow m25) fun x30 m28 =>
bnd (F_M_brings x3 x27 x30 x9 a1 false m28) fun _ m31 =>
some ((), m31)
def F_M_waysOf (a1 : Int32) (a2 : Int32) (a3 : Int32) (m0 : Mem) : Option (Int64 × Mem) :=
lt (fun (x2 : Int32) (m1 : Mem) => ((lt (fun (x4 : Int32) (m3 : Mem) => ((if a1 = 0 then (
some (x2.toInt64, m3)) else (
if a1 = (1 : Int32) then (
some (x4.toInt64, m3)) else (
if a1 = (2 : Int32) then (
bnd (F_M_all a2 m3) fun x10 m8 =>
some (((x10 - x2) - x4).toInt64, m8)) else (
bnd (F_M_all a2 m3) fun x7 m5 =>
some (x7.toInt64, m5))))) : Option (Int64 × Mem))) fun k32_4 =>
if a3 = 0 then (
k32_4 (gI m1 78 24) m1) else (
k32_4 (gI m1 78 23) m1)) : Option (Int64 × Mem))) fun k15_2 =>
if a3 = 0 then (
k15_2 (gI m0 78 23) m0) else (
k15_2 (gI m0 78 24) m0)
def F_M_after_IIJ (a1 : Int32) (a2 : Int32) (m0 : Mem) : Option (Int64 × Mem) :=
lt (sI m0 78 0 (0 : Int32)) fun m1 =>
bnd (F_M_noSlot a1 m1) fun z4 m2 =>
bnd (F_M_throwsIf z4 (1 : Int32) m2) fun z7 m5 =>
if z7 = true then (
some ((0 : Int64), m5)) else (
bnd (F_M_isOn m5) fun z10 m8 =>
lt (fun (z12 : Bool) (m11 : Mem) => ((bnd (F_M_throwsIf z12 (2 : Int32) m11) fun z15 m13 =>
if z15 = true then (
some ((0 : Int64), m13)) else (
bnd (F_M_in a2 (0 : Int32) (3 : Int32) m13) fun z18 m16 =>
lt (fun (z20 : Bool) (m19 : Mem) => ((bnd (F_M_throwsIf z20 (3 : Int32) m19) fun z23 m21 =>
if z23 = true then (
some ((0 : Int64), m21)) else (
bnd (F_M_countsAfter a1 m21) fun _ m24 =>
bnd (F_M_played m24) fun x29 m27 =>
bnd (F_M_batter m27) fun x32 m30 =>
bnd (F_M_waysOf a2 (x29 + (1 : Int32)) x32 m30) fun y35 m33 =>
some (y35, m33))) : Option (Int64 × Mem))) fun k52_20 =>
if z18 = true then (
k52_20 false m16) else (
k52_20 true m16))) : Option (Int64 × Mem))) fun k30_12 =>
if z10 = true then (
k30_12 false m8) else (
k30_12 true m8))
def F_M_remembers_L55  : Nat → Int32 → Mem → Option (Unit × Mem)
  | 0, _, _ => none
  | nf4 + 1, x3, m2 =>
    if (298 : Int32) ≤ x3 then (
    some ((), m2)) else (
    lt (((298 : Int32) * ((gI m2 78 6) - (1 : Int32))) + x3 : Int32) fun x6 =>
    ckB (inb x3 1972) <|
    lt (gI m2 79 x3.toNatClampNeg) fun x8 =>
    ckB (inb x6 3576) <|
    lt (sI m2 82 x6.toNatClampNeg x8) fun m9 =>
    lt (x3 + (1 : Int32) : Int32) fun x11 =>
    F_M_remembers_L55 nf4 x11 m9)
def F_M_remembers_L11 (k40_13 : Mem → Option (Unit × Mem)) : Nat → Int32 → Mem → Option (Unit × Mem)
  | 0, _, _ => none
  | nf16 + 1, x15, m14 =>
    if (3278 : Int32) ≤ x15 then (
    k40_13 m14) else (
    ckB (inb (x15 + (298 : Int32)) 3576) <|
    lt (gI m14 82 (x15 + (298 : Int32)).toNatClampNeg) fun x19 =>
    ckB (inb x15 3576) <|
    lt (sI m14 82 x15.toNatClampNeg x19) fun m20 =>
    lt (x15 + (1 : Int32) : Int32) fun x22 =>
    F_M_remembers_L11 k40_13 nf16 x22 m20)
def F_M_remembers (m0 : Mem) : Option (Unit × Mem) :=
lt (fun (m1 : Mem) => ((F_M_remembers_L55 1000000 (0 : Int32) m1) : Option (Unit × Mem))) fun k53_1 =>
if (gI m0 78 6) = (12 : Int32) then (
lt (fun (m13 : Mem) => ((k53_1 m13) : Option (Unit × Mem))) fun k40_13 =>
F_M_remembers_L11 k40_13 1000000 (0 : Int32) m0) else (
lt (sI m0 78 6 ((gI m0 78 6) + (1 : Int32))) fun m12 =>
k53_1 m12)
def F_M_anew_L56 (x7 : Int32) : Nat → Int32 → Mem → Option (Int32 × Mem)
  | 0, _, _ => none
  | nf13 + 1, x12, m11 =>
    if (298 : Int32) ≤ x12 then (
    some (x7, m11)) else (
    ckB (inb x12 1972) <|
    lt (sI m11 79 x12.toNatClampNeg (0 : Int32)) fun m15 =>
    lt (x12 + (1 : Int32) : Int32) fun x17 =>
    F_M_anew_L56 x7 nf13 x17 m15)
def F_M_anew_L17 (k36_8 : Mem → Option (Int32 × Mem)) : Nat → Int32 → Mem → Option (Int32 × Mem)
  | 0, _, _ => none
  | nf20 + 1, x19, m18 =>
    if (19 : Int32) ≤ x19 then (
    k36_8 m18) else (
    ckB (inb x19 1972) <|
    lt (sI m18 79 x19.toNatClampNeg (0 : Int32)) fun m22 =>
    lt (x19 + (1 : Int32) : Int32) fun x24 =>
    F_M_anew_L17 k36_8 nf20 x24 m22)
def F_M_anew (m0 : Mem) : Option (Int32 × Mem) :=
lt (sI m0 78 0 (0 : Int32)) fun m1 =>
bnd (F_M_remembers m1) fun _ m2 =>
bnd (F_M_played m2) fun x7 m5 =>
lt (fun (m8 : Mem) => ((lt (sI m8 79 10 (-1 : Int32)) fun m9 =>
lt (sI m9 79 18 (-1 : Int32)) fun m10 =>
F_M_anew_L56 x7 1000000 (235 : Int32) m10) : Option (Int32 × Mem))) fun k36_8 =>
F_M_anew_L17 k36_8 1000000 (10 : Int32) m5
def F_M_back_L16 (k41_2 : Mem → Option (Bool × Mem)) : Nat → Int32 → Mem → Option (Bool × Mem)
  | 0, _, _ => none
  | nf6 + 1, x5, m4 =>
    if (1135 : Int32) ≤ x5 then (
    k41_2 m4) else (
    ckB (inb x5 1135) <|
    lt (gI m4 80 x5.toNatClampNeg) fun x9 =>
    ckB (inb x5 1972) <|
    lt (sI m4 79 x5.toNatClampNeg x9) fun m10 =>
    lt (x5 + (1 : Int32) : Int32) fun x12 =>
    F_M_back_L16 k41_2 nf6 x12 m10)
def F_M_back (m0 : Mem) : Option (Bool × Mem) :=
lt (sI m0 78 0 (0 : Int32)) fun m1 =>
if (gZ m1 78 5) = true then (
lt (fun (m2 : Mem) => ((lt (sI m2 78 6 (0 : Int32)) fun m3 =>
some (true, m3)) : Option (Bool × Mem))) fun k41_2 =>
F_M_back_L16 k41_2 1000000 (0 : Int32) m1) else (
some (false, m1))
def F_M_uses (m0 : Mem) : Option (Unit × Mem) :=
lt (sI m0 78 0 (0 : Int32)) fun m1 =>
lt (sI m1 78 10 (gI m1 78 8)) fun m2 =>
lt (sI m2 78 8 (0 : Int32)) fun m3 =>
lt (sI m3 78 9 (0 : Int32)) fun m4 =>
some ((), m4)
def F_M_readSigns_L21  : Nat → Bool → Int32 → Mem → Option (Bool × Mem)
  | 0, _, _, _ => none
  | nf10 + 1, z8, x9, m7 =>
    if (gI m7 78 10) ≤ x9 then (
    some (z8, m7)) else (
    lt (fun (z13 : Bool) (m12 : Mem) => ((lt (x9 + (1 : Int32) : Int32) fun x14 =>
    F_M_readSigns_L21 nf10 z13 x14 m12) : Option (Bool × Mem))) fun k63_13 =>
    lt (fun (m15 : Mem) => ((k63_13 false m15) : Option (Bool × Mem))) fun k62_15 =>
    if z8 = true then (
    ckB (inb x9 400) <|
    lt (gI m7 83 x9.toNatClampNeg) fun x17 =>
    lt (fun (x19 : Int32) (m18 : Mem) => ((bnd (F_M_in x17 (0 : Int32) x19 m18) fun z22 m20 =>
    if z22 = true then (
    k63_13 true m20) else (
    k62_15 m20)) : Option (Bool × Mem))) fun k52_19 =>
    if (x9 - x9 / (4 : Int32) * (4 : Int32)) = (3 : Int32) then (
    k52_19 (1 : Int32) m7) else (
    k52_19 (3 : Int32) m7)) else (
    k62_15 m7))
def F_M_readSigns (m0 : Mem) : Option (Bool × Mem) :=
bnd (F_M_uses m0) fun _ m1 =>
lt ((gI m1 78 10) - (gI m1 78 10) / (4 : Int32) * (4 : Int32) : Int32) fun x4 =>
lt (fun (z6 : Bool) (m5 : Mem) => ((F_M_readSigns_L21 1000000 z6 (0 : Int32) m5) : Option (Bool × Mem))) fun k18_6 =>
if x4 = 0 then (
k18_6 true m1) else (
k18_6 false m1)
def F_M_mornings_L6 (a1 : Int32) (a2 : Int32) (a3 : Int32) (a4 : Int32) (a5 : Bool) : Nat → Int32 → Int32 → Mem → Option (Int32 × Mem)
  | 0, _, _, _ => none
  | nf4 + 1, x2, x3, m1 =>
    if (gI m1 78 10) ≤ x3 then (
    some (x2, m1)) else (
    ckB (inb (x3 + a1) 400) <|
    lt (gI m1 83 (x3 + a1).toNatClampNeg) fun x7 =>
    lt (fun (z9 : Bool) (m8 : Mem) => ((lt (x2 + (b2i z9) : Int32) fun x10 =>
    lt (x3 + (4 : Int32) : Int32) fun x11 =>
    F_M_mornings_L6 a1 a2 a3 a4 a5 nf4 x10 x11 m8) : Option (Int32 × Mem))) fun k71_9 =>
    lt (fun (m12 : Mem) => ((k71_9 false m12) : Option (Int32 × Mem))) fun k70_12 =>
    if x7 = a2 then (
    lt (fun (m13 : Mem) => ((lt (fun (m14 : Mem) => ((k71_9 true m14) : Option (Int32 × Mem))) fun k66_14 =>
    if a5 = true then (
    ckB (inb (x3 + (3 : Int32)) 400) <|
    lt (gI m13 83 (x3 + (3 : Int32)).toNatClampNeg) fun x16 =>
    if x16 = (1 : Int32) then (
    k66_14 m13) else (
    k70_12 m13)) else (
    k66_14 m13)) : Option (Int32 × Mem))) fun k48_13 =>
    if a3 < 0 then (
    k48_13 m1) else (
    ckB (inb (x3 + a3) 400) <|
    lt (gI m1 83 (x3 + a3).toNatClampNeg) fun x18 =>
    if x18 = a4 then (
    k48_13 m1) else (
    k70_12 m1))) else (
    k70_12 m1))
def F_M_mornings (a1 : Int32) (a2 : Int32) (a3 : Int32) (a4 : Int32) (a5 : Bool) (m0 : Mem) : Option (Int32 × Mem) :=
F_M_mornings_L6 a1 a2 a3 a4 a5 1000000 (0 : Int32) (0 : Int32) m0
def F_M_rightBy_L14 (a1 : Int32) (a2 : Int32) (x3 : Int32) (k69_7 : Int32 → Mem → Option (Int32 × Mem)) : Nat → Int32 → Int32 → Mem → Option (Int32 × Mem)
  | 0, _, _, _ => none
  | nf12 + 1, x10, x11, m9 =>
    lt (fun (x15 : Int32) (m14 : Mem) => ((if x15 ≤ x11 then (
    k69_7 x10 m14) else (
    bnd (F_M_mornings a1 x3 a2 x11 true m14) fun x18 m16 =>
    bnd (F_M_mornings a1 x3 a2 x11 false m16) fun x21 m19 =>
    lt (x10 + (mxI x18 (x21 - x18)) : Int32) fun x22 =>
    lt (x11 + (1 : Int32) : Int32) fun x23 =>
    F_M_rightBy_L14 a1 a2 x3 k69_7 nf12 x22 x23 m19)) : Option (Int32 × Mem))) fun k25_15 =>
    if 0 ≤ a2 then (
    k25_15 (4 : Int32) m9) else (
    k25_15 (1 : Int32) m9)
def F_M_rightBy_L5 (a1 : Int32) (a2 : Int32) : Nat → Int32 → Int32 → Mem → Option (Int32 × Mem)
  | 0, _, _, _ => none
  | nf4 + 1, x2, x3, m1 =>
    if (4 : Int32) ≤ x3 then (
    some (x2, m1)) else (
    lt (fun (x7 : Int32) (m6 : Mem) => ((lt (x3 + (1 : Int32) : Int32) fun x8 =>
    F_M_rightBy_L5 a1 a2 nf4 x7 x8 m6) : Option (Int32 × Mem))) fun k69_7 =>
    F_M_rightBy_L14 a1 a2 x3 k69_7 1000000 x2 (0 : Int32) m1)
def F_M_rightBy (a1 : Int32) (a2 : Int32) (m0 : Mem) : Option (Int32 × Mem) :=
F_M_rightBy_L5 a1 a2 1000000 (0 : Int32) (0 : Int32) m0
def F_M_best_L33 (a1 : Bool) (k109_11 : Int32 → Int32 → Mem → Option (Int32 × Mem)) : Nat → Int32 → Int32 → Int32 → Mem → Option (Int32 × Mem)
  | 0, _, _, _, _ => none
  | nf16 + 1, x13, x14, x15, m12 =>
    if (3 : Int32) ≤ x15 then (
    k109_11 x13 x14 m12) else (
    lt (fun (x19 : Int32) (m18 : Mem) => ((lt (fun (x21 : Int32) (x22 : Int32) (m20 : Mem) => ((lt (x15 + (1 : Int32) : Int32) fun x23 =>
    F_M_best_L33 a1 k109_11 nf16 x21 x22 x23 m20) : Option (Int32 × Mem))) fun k103_22 =>
    lt (fun (m24 : Mem) => ((k103_22 x15 x19 m24) : Option (Int32 × Mem))) fun k95_24 =>
    if x13 < 0 then (
    k95_24 m18) else (
    if x14 < x19 then (
    k95_24 m18) else (
    k103_22 x13 x14 m18))) : Option (Int32 × Mem))) fun k78_19 =>
    if a1 = true then (
    lt (fun (z26 : Bool) (m25 : Mem) => ((lt (fun (x28 : Int32) (m27 : Mem) => ((bnd (F_M_rightBy (b2i z26) x28 m27) fun x31 m29 =>
    k78_19 x31 m29) : Option (Int32 × Mem))) fun k75_28 =>
    if x15 = 0 then (
    k75_28 (1 : Int32) m25) else (
    k75_28 (2 : Int32) m25)) : Option (Int32 × Mem))) fun k65_26 =>
    if x15 = (2 : Int32) then (
    k65_26 true m12) else (
    k65_26 false m12)) else (
    bnd (F_M_rightBy x15 (-1 : Int32) m12) fun x34 m32 =>
    k78_19 x34 m32))
def F_M_best (a1 : Bool) (a2 : Bool) (m0 : Mem) : Option (Int32 × Mem) :=
bnd (F_M_readSigns m0) fun z3 m1 =>
lt (fun (z5 : Bool) (m4 : Mem) => ((bnd (F_M_throwsIf z5 (1 : Int32) m4) fun z8 m6 =>
if z8 = true then (
some ((0 : Int32), m6)) else (
lt (fun (x10 : Int32) (x11 : Int32) (m9 : Mem) => ((if a2 = true then (
some (x11, m9)) else (
some (x10, m9))) : Option (Int32 × Mem))) fun k109_11 =>
F_M_best_L33 a1 k109_11 1000000 (-1 : Int32) (0 : Int32) (0 : Int32) m6)) : Option (Int32 × Mem))) fun k15_5 =>
if z3 = true then (
k15_5 false m1) else (
k15_5 true m1)
def F_M_takes (a1 : Int32) (a2 : Int32) (a3 : Int32) (a4 : Int32) (m0 : Mem) : Option (Unit × Mem) :=
bnd (F_M_cell a1 a2 a3 a4 m0) fun x3 m1 =>
ckB (inb x3 42900) <|
lt (gI m1 86 x3.toNatClampNeg) fun x5 =>
lt (sI m1 78 23 x5) fun m6 =>
bnd (F_M_cell a1 a2 a3 a4 m6) fun x9 m7 =>
ckB (inb x9 42900) <|
lt (gI m7 87 x9.toNatClampNeg) fun x11 =>
lt (sI m7 78 24 x11) fun m12 =>
some ((), m12)
def F_M_countsNow (m0 : Mem) : Option (Unit × Mem) :=
lt (sI m0 78 21 (gI m0 79 2)) fun m1 =>
bnd (F_M_isOver m1) fun z4 m2 =>
if z4 = true then (
lt (fun (x33 : Int32) (m32 : Mem) => ((lt (sI m32 78 23 x33) fun m34 =>
lt (fun (x36 : Int32) (m35 : Mem) => ((lt (sI m35 78 24 x36) fun m37 =>
some ((), m37)) : Option (Unit × Mem))) fun k67_36 =>
if (gI m34 79 18) = (1 : Int32) then (
bnd (F_M_played m34) fun x40 m38 =>
bnd (F_M_all x40 m38) fun x43 m41 =>
k67_36 x43 m41) else (
k67_36 (0 : Int32) m34)) : Option (Unit × Mem))) fun k40_33 =>
if (gI m2 79 18) = 0 then (
bnd (F_M_played m2) fun x46 m44 =>
bnd (F_M_all x46 m44) fun x49 m47 =>
k40_33 x49 m47) else (
k40_33 (0 : Int32) m2)) else (
bnd (F_M_batter m2) fun x7 m5 =>
bnd (F_M_leadOf x7 m5) fun x10 m8 =>
bnd (F_M_firstSide m8) fun x13 m11 =>
bnd (F_M_played m11) fun x16 m14 =>
bnd (F_M_layers x13 x16 (abI x10) m14) fun _ m17 =>
bnd (F_M_played m17) fun x22 m20 =>
bnd (F_M_kindNow m20) fun x25 m23 =>
bnd (F_M_outNow m23) fun x28 m26 =>
bnd (F_M_takes x22 x25 x28 x10 m26) fun _ m29 =>
some ((), m29))
def F_M_blind (a1 : Int32) (m0 : Mem) : Option (Int64 × Mem) :=
lt (sI m0 78 0 (0 : Int32)) fun m1 =>
bnd (F_M_firstSide m1) fun x4 m2 =>
lt (fun (z6 : Bool) (m5 : Mem) => ((bnd (F_M_throwsIf z6 (1 : Int32) m5) fun z9 m7 =>
if z9 = true then (
some ((0 : Int64), m7)) else (
bnd (F_M_in a1 (0 : Int32) (3 : Int32) m7) fun z12 m10 =>
lt (fun (z14 : Bool) (m13 : Mem) => ((bnd (F_M_throwsIf z14 (2 : Int32) m13) fun z17 m15 =>
if z17 = true then (
some ((0 : Int64), m15)) else (
lt (sZ m15 78 22 true) fun m18 =>
bnd (F_M_countsNow m18) fun _ m19 =>
lt (sZ m19 78 22 false) fun m22 =>
bnd (F_M_played m22) fun x25 m23 =>
bnd (F_M_isOver m23) fun z28 m26 =>
lt (fun (x30 : Int32) (m29 : Mem) => ((bnd (F_M_waysOf a1 x25 x30 m29) fun y33 m31 =>
some (y33, m31)) : Option (Int64 × Mem))) fun k84_30 =>
if z28 = true then (
k84_30 (0 : Int32) m26) else (
bnd (F_M_batter m26) fun x36 m34 =>
k84_30 x36 m34))) : Option (Int64 × Mem))) fun k40_14 =>
if z12 = true then (
k40_14 false m10) else (
k40_14 true m10))) : Option (Int64 × Mem))) fun k18_6 =>
if 0 ≤ x4 then (
k18_6 false m2) else (
k18_6 true m2)
def F_M_ofBook (a1 : Int32) (a2 : Int32) (m0 : Mem) : Option (Int32 × Mem) :=
ckB (inb (((55 : Int32) + ((3 : Int32) * a1)) + a2) 1972) <|
lt (gI m0 79 (((55 : Int32) + ((3 : Int32) * a1)) + a2).toNatClampNeg) fun x2 =>
some (x2, m0)
def F_M_isSuch (a1 : Int32) (a2 : Int32) (m0 : Mem) : Option (Bool × Mem) :=
bnd (F_M_ofBook a1 (0 : Int32) m0) fun x3 m1 =>
bnd (F_M_ofBook a1 (1 : Int32) m1) fun x6 m4 =>
bnd (F_M_ofBook a1 (2 : Int32) m4) fun x9 m7 =>
if a2 = 1 then (
if x6 = x3 then (
some (true, m7)) else (
some (false, m7))) else (
if a2 = 2 then (
if x6 = x3 then (
if x9 = x3 then (
some (true, m7)) else (
some (false, m7))) else (
some (false, m7))) else (
if a2 = 3 then (
if x9 = x6 then (
some (true, m7)) else (
some (false, m7))) else (
if a2 = 4 then (
if x9 = x3 then (
some (true, m7)) else (
some (false, m7))) else (
if a2 = 5 then (
if x9 = (2 : Int32) then (
some (true, m7)) else (
some (false, m7))) else (
some (true, m7))))))
def F_M_bookOf_L4 (a1 : Int32) : Nat → Int32 → Int32 → Mem → Option (Int32 × Mem)
  | 0, _, _, _ => none
  | nf4 + 1, x2, x3, m1 =>
    if (gI m1 79 5) ≤ x3 then (
    some (x2, m1)) else (
    bnd (F_M_isSuch x3 a1 m1) fun z8 m6 =>
    lt (fun (z10 : Bool) (m9 : Mem) => ((lt (x2 + (b2i z10) : Int32) fun x11 =>
    lt (x3 + (1 : Int32) : Int32) fun x12 =>
    F_M_bookOf_L4 a1 nf4 x11 x12 m9) : Option (Int32 × Mem))) fun k29_10 =>
    if z8 = true then (
    k29_10 true m6) else (
    k29_10 false m6))
def F_M_bookOf (a1 : Int32) (m0 : Mem) : Option (Int32 × Mem) :=
F_M_bookOf_L4 a1 1000000 (0 : Int32) (0 : Int32) m0
def F_M_book (a1 : Int32) (m0 : Mem) : Option (Int32 × Mem) :=
lt (sI m0 78 0 (0 : Int32)) fun m1 =>
bnd (F_M_in a1 (0 : Int32) (5 : Int32) m1) fun z4 m2 =>
lt (fun (z6 : Bool) (m5 : Mem) => ((bnd (F_M_throwsIf z6 (1 : Int32) m5) fun z9 m7 =>
if z9 = true then (
some ((0 : Int32), m7)) else (
bnd (F_M_bookOf a1 m7) fun x12 m10 =>
some (x12, m10))) : Option (Int32 × Mem))) fun k20_6 =>
if z4 = true then (
k20_6 false m2) else (
k20_6 true m2)
def F_M_nextInnings (m0 : Mem) : Option (Unit × Mem) :=
lt (sI m0 79 11 ((gI m0 79 11) + (1 : Int32))) fun m1 =>
lt (fun (m2 : Mem) => ((lt (sI m2 79 13 (0 : Int32)) fun m3 =>
lt (sI m3 79 14 (1 : Int32)) fun m4 =>
if (gI m4 79 11) = (3 : Int32) then (
bnd (F_M_batter m4) fun x7 m5 =>
bnd (F_M_leadOf x7 m5) fun x10 m8 =>
if x10 ≤ 0 then (
some ((), m8)) else (
bnd (F_M_batter m8) fun x13 m11 =>
lt (sI m11 79 18 x13) fun m14 =>
some ((), m14))) else (
some ((), m4))) : Option (Unit × Mem))) fun k30_2 =>
if (gI m1 79 11) = (2 : Int32) then (
lt (sI m1 79 12 (0 : Int32)) fun m15 =>
k30_2 m15) else (
k30_2 m1)
def F_M_settles (m0 : Mem) : Option (Unit × Mem) :=
bnd (F_M_batter m0) fun x3 m1 =>
bnd (F_M_leadOf x3 m1) fun x6 m4 =>
lt (fun (m7 : Mem) => ((bnd (F_M_isOver m7) fun z10 m8 =>
if z10 = true then (
some ((), m8)) else (
bnd (F_M_played m8) fun x13 m11 =>
bnd (F_M_size m11) fun x16 m14 =>
if x13 = x16 then (
lt (sI m14 79 18 (2 : Int32)) fun m17 =>
some ((), m17)) else (
some ((), m14)))) : Option (Unit × Mem))) fun k86_7 =>
if (gI m4 79 11) = (3 : Int32) then (
if x6 ≤ 0 then (
if (gI m4 79 13) = (10 : Int32) then (
lt (fun (x22 : Int32) (m21 : Mem) => ((lt (sI m21 79 18 x22) fun m23 =>
k86_7 m23) : Option (Unit × Mem))) fun k66_22 =>
if x6 = 0 then (
k66_22 (2 : Int32) m4) else (
k66_22 ((1 : Int32) - x3) m4)) else (
k86_7 m4)) else (
lt (sI m4 79 18 x3) fun m24 =>
k86_7 m24)) else (
if (gI m4 79 13) = (10 : Int32) then (
bnd (F_M_nextInnings m4) fun _ m18 =>
k86_7 m18) else (
k86_7 m4))
def F_M_plays (a1 : Int32) (a2 : Bool) (m0 : Mem) : Option (Int32 × Mem) :=
bnd (F_M_played m0) fun x3 m1 =>
bnd (F_M_batter m1) fun x6 m4 =>
bnd (F_M_levelOf x3 (gI m4 79 11) x6 m4) fun x9 m7 =>
lt (fun (x11 : Int32) (m10 : Mem) => ((bnd (F_M_isRain x3 m10) fun z14 m12 =>
lt (fun (x16 : Int32) (m15 : Mem) => ((lt ((15 : Int32) + x6 : Int32) fun x17 =>
ckB (inb x17 1972) <|
lt (gI m15 79 x17.toNatClampNeg) fun x19 =>
ckB (inb x17 1972) <|
lt (sI m15 79 x17.toNatClampNeg (x19 + x11)) fun m20 =>
lt (fun (z23 : Bool) (m22 : Mem) => ((lt ((gI m20 79 13) + (mxI (0 : Int32) (x16 - (b2i z23))) : Int32) fun x24 =>
lt (sI m22 79 13 (mnI (10 : Int32) x24)) fun m25 =>
lt (sI m25 79 14 (0 : Int32)) fun m26 =>
bnd (F_M_leadOf x6 m26) fun x29 m27 =>
lt ((235 : Int32) + ((7 : Int32) * x3) : Int32) fun x30 =>
ckB (inb x30 1972) <|
lt (sI m27 79 x30.toNatClampNeg (gI m27 79 11)) fun m31 =>
ckB (inb (x30 + (1 : Int32)) 1972) <|
lt (sI m31 79 (x30 + (1 : Int32)).toNatClampNeg x6) fun m33 =>
ckB (inb (x30 + (2 : Int32)) 1972) <|
lt (sI m33 79 (x30 + (2 : Int32)).toNatClampNeg x9) fun m35 =>
ckB (inb (x30 + (3 : Int32)) 1972) <|
lt (sI m35 79 (x30 + (3 : Int32)).toNatClampNeg a1) fun m37 =>
ckB (inb (x30 + (4 : Int32)) 1972) <|
lt (sI m37 79 (x30 + (4 : Int32)).toNatClampNeg x29) fun m39 =>
ckB (inb (x30 + (5 : Int32)) 1972) <|
lt (sI m39 79 (x30 + (5 : Int32)).toNatClampNeg (gI m39 79 13)) fun m41 =>
ckB (inb (x30 + (6 : Int32)) 1972) <|
lt (sI m41 79 (x30 + (6 : Int32)).toNatClampNeg x11) fun m43 =>
lt (sI m43 79 17 ((gI m43 79 17) + (1 : Int32))) fun m45 =>
bnd (F_M_settles m45) fun _ m46 =>
some (x29, m46)) : Option (Int32 × Mem))) fun k117_23 =>
if a2 = true then (
k117_23 true m20) else (
k117_23 false m20)) : Option (Int32 × Mem))) fun k73_16 =>
if z14 = true then (
k73_16 (0 : Int32) m12) else (
bnd (F_M_ofSlot x9 a1 (1 : Int32) m12) fun x51 m49 =>
k73_16 x51 m49)) : Option (Int32 × Mem))) fun k51_11 =>
lt (fun (m52 : Mem) => ((k51_11 (0 : Int32) m52) : Option (Int32 × Mem))) fun k39_52 =>
if a2 = true then (
k39_52 m7) else (
bnd (F_M_isRain x3 m7) fun z55 m53 =>
if z55 = true then (
k39_52 m53) else (
bnd (F_M_ofSlot x9 a1 (0 : Int32) m53) fun x58 m56 =>
k51_11 x58 m56))
def F_M_bring (a1 : Int32) (m0 : Mem) : Option (Int32 × Mem) :=
lt (sI m0 78 0 (0 : Int32)) fun m1 =>
bnd (F_M_noSlot a1 m1) fun z4 m2 =>
bnd (F_M_throwsIf z4 (1 : Int32) m2) fun z7 m5 =>
if z7 = true then (
some ((0 : Int32), m5)) else (
bnd (F_M_isOn m5) fun z10 m8 =>
lt (fun (z12 : Bool) (m11 : Mem) => ((bnd (F_M_throwsIf z12 (2 : Int32) m11) fun z15 m13 =>
if z15 = true then (
some ((0 : Int32), m13)) else (
bnd (F_M_remembers m13) fun _ m16 =>
bnd (F_M_plays a1 false m16) fun x21 m19 =>
some (x21, m19))) : Option (Int32 × Mem))) fun k30_12 =>
if z10 = true then (
k30_12 false m8) else (
k30_12 true m8))
def F_M_noPlayed (a1 : Int32) (m0 : Mem) : Option (Bool × Mem) :=
bnd (F_M_size m0) fun x3 m1 =>
bnd (F_M_in a1 (0 : Int32) x3 m1) fun z6 m4 =>
if z6 = true then (
some (false, m4)) else (
some (true, m4))
def F_M_countsFrom (a1 : Int32) (a2 : Int32) (m0 : Mem) : Option (Unit × Mem) :=
lt (sI m0 78 21 (gI m0 79 2)) fun m1 =>
bnd (F_M_layers (0 : Int32) a1 (abI a2) m1) fun _ m2 =>
bnd (F_M_size m2) fun x7 m5 =>
if x7 ≤ a1 then (
some ((), m5)) else (
bnd (F_M_laysLevels a1 m5) fun _ m8 =>
some ((), m8))
def F_M_chased_L41 (a1 : Int32) : Nat → Int32 → Mem → Option (Int32 × Mem)
  | 0, _, _ => none
  | nf16 + 1, x15, m14 =>
    if x15 < 0 then (
    some ((-1 : Int32), m14)) else (
    bnd (F_M_takes a1 (4 : Int32) (0 : Int32) (-x15) m14) fun _ m18 =>
    if (gI m18 78 23) < (gI m18 78 24) then (
    lt (x15 + (-1 : Int32) : Int32) fun x21 =>
    F_M_chased_L41 a1 nf16 x21 m18) else (
    some (x15, m18)))
def F_M_chased (a1 : Int32) (m0 : Mem) : Option (Int32 × Mem) :=
lt (sI m0 78 0 (0 : Int32)) fun m1 =>
bnd (F_M_noPlayed a1 m1) fun z4 m2 =>
bnd (F_M_throwsIf z4 (1 : Int32) m2) fun z7 m5 =>
if z7 = true then (
some ((0 : Int32), m5)) else (
bnd (F_M_size m5) fun x10 m8 =>
if a1 = x10 then (
some ((81 : Int32), m8)) else (
bnd (F_M_countsFrom a1 (81 : Int32) m8) fun _ m11 =>
F_M_chased_L41 a1 1000000 (81 : Int32) m11))
def F_M_canHold (m0 : Mem) : Option (Bool × Mem) :=
bnd (F_M_isOn m0) fun z3 m1 =>
if z3 = true then (
if (gI m1 79 11) = (3 : Int32) then (
some (true, m1)) else (
some (false, m1))) else (
some (false, m1))
def F_M_canFollow (m0 : Mem) : Option (Bool × Mem) :=
bnd (F_M_isOn m0) fun z3 m1 =>
if z3 = true then (
if (gI m1 79 11) = (2 : Int32) then (
if (gI m1 79 14) = (1 : Int32) then (
bnd (F_M_isFollowed m1) fun z6 m4 =>
if z6 = true then (
some (false, m4)) else (
bnd (F_M_firstSide m4) fun x9 m7 =>
bnd (F_M_leadOf x9 m7) fun x12 m10 =>
if x12 < (gI m10 79 1) then (
some (false, m10)) else (
some (true, m10)))) else (
some (false, m1))) else (
some (false, m1))) else (
some (false, m1))
def F_M_canDeclare (m0 : Mem) : Option (Bool × Mem) :=
bnd (F_M_isOn m0) fun z3 m1 =>
if z3 = true then (
if (3 : Int32) ≤ (gI m1 79 11) then (
some (false, m1)) else (
if (gI m1 79 14) = 0 then (
some (true, m1)) else (
some (false, m1)))) else (
some (false, m1))
def F_M_canBe (a1 : Int32) (m0 : Mem) : Option (Bool × Mem) :=
if a1 = 0 then (
bnd (F_M_isOn m0) fun z12 m10 =>
some (z12, m10)) else (
if a1 = (1 : Int32) then (
bnd (F_M_canDeclare m0) fun z9 m7 =>
some (z9, m7)) else (
if a1 = (2 : Int32) then (
bnd (F_M_canFollow m0) fun z6 m4 =>
some (z6, m4)) else (
bnd (F_M_canHold m0) fun z3 m1 =>
some (z3, m1))))
def F_M_worthBy (a1 : Int32) (m0 : Mem) : Option (Int64 × Mem) :=
bnd (F_M_played m0) fun x3 m1 =>
bnd (F_M_batter m1) fun x6 m4 =>
bnd (F_M_leadOf x6 m4) fun x9 m7 =>
lt (fun (m10 : Mem) => ((bnd (F_M_got x3 m10) fun y13 m11 =>
some (y13, m11)) : Option (Int64 × Mem))) fun k72_10 =>
lt (fun (m14 : Mem) => ((bnd (F_M_kindNow m14) fun x17 m15 =>
bnd (F_M_outNow m15) fun x20 m18 =>
lt (fun (z22 : Bool) (m21 : Mem) => ((bnd (F_M_goesOn x3 x17 x20 x9 z22 m21) fun _ m23 =>
k72_10 m23) : Option (Int64 × Mem))) fun k44_22 =>
if a1 = (3 : Int32) then (
k44_22 true m18) else (
k44_22 false m18)) : Option (Int64 × Mem))) fun k23_14 =>
if a1 = 0 then (
k23_14 m7) else (
if a1 = (3 : Int32) then (
k23_14 m7) else (
lt (fun (x27 : Int32) (m26 : Mem) => ((bnd (F_M_handsOver x3 x27 x9 m26) fun _ m28 =>
k72_10 m28) : Option (Int64 × Mem))) fun k68_27 =>
if a1 = (1 : Int32) then (
bnd (F_M_kindNow m7) fun x33 m31 =>
bnd (F_M_nextKind x33 m31) fun x36 m34 =>
k68_27 x36 m34) else (
k68_27 (3 : Int32) m7)))
def F_M_cost_L67 (k103_28 : Int64 → Mem → Option (Int64 × Mem)) : Nat → Int64 → Int32 → Mem → Option (Int64 × Mem)
  | 0, _, _, _ => none
  | nf35 + 1, y33, x34, m32 =>
    if (4 : Int32) ≤ x34 then (
    k103_28 y33 m32) else (
    bnd (F_M_canBe x34 m32) fun z39 m37 =>
    lt (fun (y41 : Int64) (m40 : Mem) => ((lt (x34 + (1 : Int32) : Int32) fun x42 =>
    F_M_cost_L67 k103_28 nf35 y41 x42 m40) : Option (Int64 × Mem))) fun k96_41 =>
    if z39 = true then (
    bnd (F_M_worthBy x34 m37) fun y45 m43 =>
    k96_41 (mxL y33 y45) m43) else (
    k96_41 y33 m37))
def F_M_cost (a1 : Int32) (m0 : Mem) : Option (Int64 × Mem) :=
lt (sI m0 78 0 (0 : Int32)) fun m1 =>
bnd (F_M_in a1 (0 : Int32) (3 : Int32) m1) fun z4 m2 =>
lt (fun (z6 : Bool) (m5 : Mem) => ((bnd (F_M_throwsIf z6 (1 : Int32) m5) fun z9 m7 =>
if z9 = true then (
some ((0 : Int64), m7)) else (
bnd (F_M_canBe a1 m7) fun z12 m10 =>
lt (fun (z14 : Bool) (m13 : Mem) => ((bnd (F_M_throwsIf z14 (2 : Int32) m13) fun z17 m15 =>
if z17 = true then (
some ((0 : Int64), m15)) else (
bnd (F_M_countsNow m15) fun _ m18 =>
bnd (F_M_played m18) fun x23 m21 =>
bnd (F_M_laysLevels x23 m21) fun _ m24 =>
lt (fun (y28 : Int64) (m27 : Mem) => ((bnd (F_M_worthBy a1 m27) fun y31 m29 =>
some (y28 - y31, m29)) : Option (Int64 × Mem))) fun k103_28 =>
F_M_cost_L67 k103_28 1000000 (0 : Int64) (0 : Int32) m24)) : Option (Int64 × Mem))) fun k41_14 =>
if z12 = true then (
k41_14 false m10) else (
k41_14 true m10))) : Option (Int64 × Mem))) fun k20_6 =>
if z4 = true then (
k20_6 false m2) else (
k20_6 true m2)
def F_M_count (a1 : Int32) (m0 : Mem) : Option (Int32 × Mem) :=
lt (sI m0 78 0 (0 : Int32)) fun m1 =>
if a1 = 4 then (
if (gI m1 79 4) = (1 : Int32) then (
some (gI m1 79 298, m1)) else (
some ((-1 : Int32), m1))) else (
if a1 = 9 then (
bnd (F_M_size m1) fun x4 m2 =>
bnd (F_M_played m2) fun x7 m5 =>
some (x4 - x7, m5)) else (
if a1 = 10 then (
some (gI m1 78 6, m1)) else (
bnd (F_M_in a1 (0 : Int32) (8 : Int32) m1) fun z10 m8 =>
if z10 = true then (
ckB (inb a1 1972) <|
lt (gI m8 79 a1.toNatClampNeg) fun x12 =>
some (x12, m8)) else (
some ((-1 : Int32), m8)))))
def F_M_declare (m0 : Mem) : Option (Int32 × Mem) :=
lt (sI m0 78 0 (0 : Int32)) fun m1 =>
bnd (F_M_canDeclare m1) fun z4 m2 =>
lt (fun (z6 : Bool) (m5 : Mem) => ((bnd (F_M_throwsIf z6 (1 : Int32) m5) fun z9 m7 =>
if z9 = true then (
some ((0 : Int32), m7)) else (
bnd (F_M_remembers m7) fun _ m10 =>
bnd (F_M_batter m10) fun x15 m13 =>
bnd (F_M_leadOf x15 m13) fun x18 m16 =>
bnd (F_M_nextInnings m16) fun _ m19 =>
some (x18, m19))) : Option (Int32 × Mem))) fun k18_6 =>
if z4 = true then (
k18_6 false m2) else (
k18_6 true m2)
def F_M_noState (a1 : Int32) (a2 : Int32) (m0 : Mem) : Option (Bool × Mem) :=
bnd (F_M_in a1 (-81 : Int32) (81 : Int32) m0) fun z3 m1 =>
if z3 = true then (
bnd (F_M_in a2 (0 : Int32) (9 : Int32) m1) fun z6 m4 =>
if z6 = true then (
some (false, m4)) else (
some (true, m4))) else (
some (true, m1))
def F_M_isChosen (a1 : Int32) (a2 : Int32) (a3 : Int32) (a4 : Int32) (m0 : Mem) : Option (Bool × Mem) :=
bnd (F_M_goesOn a1 a2 a3 a4 false m0) fun _ m1 =>
bnd (F_M_chooses a1 a2 a3 a4 m1) fun z6 m4 =>
some (z6, m4)
def F_M_noInnings (a0 : Int32) (m0 : Mem) : Option (Bool × Mem) :=
bnd (F_M_in a0 (0 : Int32) (3 : Int32) m0) fun z3 m1 =>
if z3 = true then (
some (false, m1)) else (
some (true, m1))
def F_M_declares (a1 : Int32) (a2 : Int32) (a3 : Bool) (a4 : Int32) (a5 : Int32) (m0 : Mem) : Option (Bool × Mem) :=
lt (sI m0 78 0 (0 : Int32)) fun m1 =>
bnd (F_M_noPlayed a1 m1) fun z4 m2 =>
lt (fun (z6 : Bool) (m5 : Mem) => ((bnd (F_M_throwsIf z6 (1 : Int32) m5) fun z9 m7 =>
if z9 = true then (
some (false, m7)) else (
bnd (F_M_noState a4 a5 m7) fun z12 m10 =>
bnd (F_M_throwsIf z12 (2 : Int32) m10) fun z15 m13 =>
if z15 = true then (
some (false, m13)) else (
if a2 = (3 : Int32) then (
some (false, m13)) else (
bnd (F_M_size m13) fun x18 m16 =>
if a1 = x18 then (
some (false, m16)) else (
bnd (F_M_countsFrom a1 a4 m16) fun _ m19 =>
bnd (F_M_kindOf a2 a3 m19) fun x24 m22 =>
bnd (F_M_isChosen a1 x24 a5 a4 m22) fun z27 m25 =>
some (z27, m25)))))) : Option (Bool × Mem))) fun k26_6 =>
lt (fun (m28 : Mem) => ((k26_6 true m28) : Option (Bool × Mem))) fun k21_28 =>
if z4 = true then (
k21_28 m2) else (
bnd (F_M_noInnings a2 m2) fun z31 m29 =>
if z31 = true then (
k21_28 m29) else (
k26_6 false m29))
def F_M_end (a1 : Int32) (m0 : Mem) : Option (Bool × Mem) :=
lt (sI m0 78 0 (0 : Int32)) fun m1 =>
if a1 < 0 then (
some (false, m1)) else (
if a1 ≤ (gI m1 78 8) then (
lt (sI m1 78 8 a1) fun m2 =>
some (true, m2)) else (
some (false, m1)))
def F_M_enforces (a1 : Int32) (a2 : Int32) (m0 : Mem) : Option (Bool × Mem) :=
lt (sI m0 78 0 (0 : Int32)) fun m1 =>
bnd (F_M_noPlayed a1 m1) fun z4 m2 =>
bnd (F_M_throwsIf z4 (1 : Int32) m2) fun z7 m5 =>
if z7 = true then (
some (false, m5)) else (
bnd (F_M_noState a2 (0 : Int32) m5) fun z10 m8 =>
bnd (F_M_throwsIf z10 (2 : Int32) m8) fun z13 m11 =>
if z13 = true then (
some (false, m11)) else (
if a2 < (gI m11 79 1) then (
some (false, m11)) else (
bnd (F_M_size m11) fun x16 m14 =>
if a1 = x16 then (
some (false, m14)) else (
bnd (F_M_countsFrom a1 a2 m14) fun _ m17 =>
bnd (F_M_isChosen a1 (2 : Int32) (10 : Int32) a2 m17) fun z22 m20 =>
some (z22, m20)))))
def F_M_noSide (a0 : Int32) (m0 : Mem) : Option (Bool × Mem) :=
bnd (F_M_in a0 (0 : Int32) (1 : Int32) m0) fun z3 m1 =>
if z3 = true then (
some (false, m1)) else (
some (true, m1))
def F_M_tossWorth (a1 : Int32) (a2 : Bool) (m0 : Mem) : Option (Int64 × Mem) :=
lt (sI m0 78 21 (gI m0 79 2)) fun m1 =>
lt (fun (x3 : Int32) (m2 : Mem) => ((bnd (F_M_layers x3 (0 : Int32) (0 : Int32) m2) fun _ m4 =>
bnd (F_M_takes (0 : Int32) (0 : Int32) (10 : Int32) (0 : Int32) m4) fun _ m7 =>
if a2 = true then (
bnd (F_M_got (0 : Int32) m7) fun y15 m13 =>
some (y15, m13)) else (
bnd (F_M_worthOf (0 : Int32) (gI m7 78 24) (gI m7 78 23) m7) fun y12 m10 =>
some (y12, m10))) : Option (Int64 × Mem))) fun k22_3 =>
if a2 = true then (
k22_3 a1 m1) else (
k22_3 ((1 : Int32) - a1) m1)
def F_M_betterOf (a1 : Int32) (m0 : Mem) : Option (Int64 × Mem) :=
bnd (F_M_tossWorth a1 true m0) fun y3 m1 =>
bnd (F_M_tossWorth a1 false m1) fun y6 m4 =>
some (mxL y3 y6, m4)
def F_M_leftTo (a1 : Int32) (m0 : Mem) : Option (Int64 × Mem) :=
bnd (F_M_tossWorth ((1 : Int32) - a1) true m0) fun y3 m1 =>
bnd (F_M_tossWorth ((1 : Int32) - a1) false m1) fun y6 m4 =>
lt (fun (z8 : Bool) (m7 : Mem) => ((bnd (F_M_tossWorth a1 z8 m7) fun y11 m9 =>
some (y11, m9)) : Option (Int64 × Mem))) fun k27_8 =>
if y6 ≤ y3 then (
k27_8 false m4) else (
k27_8 true m4)
def F_M_evens (a1 : Int32) (m0 : Mem) : Option (Int64 × Mem) :=
lt (sI m0 78 0 (0 : Int32)) fun m1 =>
bnd (F_M_noSide a1 m1) fun z4 m2 =>
bnd (F_M_throwsIf z4 (1 : Int32) m2) fun z7 m5 =>
if z7 = true then (
some ((0 : Int64), m5)) else (
bnd (F_M_betterOf a1 m5) fun y10 m8 =>
bnd (F_M_leftTo a1 m8) fun y13 m11 =>
some (y10 + y13, m11))
def F_M_fault (m0 : Mem) : Option (Int32 × Mem) :=
lt (sI m0 78 0 (0 : Int32)) fun m1 =>
some (gI m1 78 13, m1)
def F_M_feed_L60 (k106_7 : Mem → Option (Int32 × Mem)) : Nat → Int32 → Mem → Option (Int32 × Mem)
  | 0, _, _ => none
  | nf11 + 1, x10, m9 =>
    if (20 : Int32) ≤ x10 then (
    k106_7 m9) else (
    ckB (inb (x10 / (4 : Int32)) 5) <|
    lt (gI m9 84 (x10 / (4 : Int32)).toNatClampNeg) fun x14 =>
    lt ((8 : Int32) * (x10 - x10 / (4 : Int32) * (4 : Int32)) : Int32) fun x15 =>
    ckB (inb ((gI m9 78 8) + x10) 400) <|
    lt (sI m9 83 ((gI m9 78 8) + x10).toNatClampNeg (((x14 >>> (((24 : Int32) - x15) &&& 31)).toInt8.toInt32).toInt8.toInt32)) fun m16 =>
    lt (x10 + (1 : Int32) : Int32) fun x18 =>
    F_M_feed_L60 k106_7 nf11 x18 m16)
def F_M_feed (a1 : Int32) (a2 : Int32) (a3 : Int32) (a4 : Int32) (a5 : Int32) (m0 : Mem) : Option (Int32 × Mem) :=
lt (sI m0 78 0 (0 : Int32)) fun m1 =>
if ((gI m1 78 8) + (20 : Int32)) ≤ (400 : Int32) then (
lt (sI m1 84 0 a1) fun m2 =>
lt (sI m2 84 1 a2) fun m3 =>
lt (sI m3 84 2 a3) fun m4 =>
lt (sI m4 84 3 a4) fun m5 =>
lt (sI m5 84 4 a5) fun m6 =>
lt (fun (m7 : Mem) => ((lt (sI m7 78 8 ((gI m7 78 8) + (20 : Int32))) fun m8 =>
some (gI m8 78 8, m8)) : Option (Int32 × Mem))) fun k106_7 =>
F_M_feed_L60 k106_7 1000000 (0 : Int32) m6) else (
some ((-1 : Int32), m1))
def F_M_follow (m0 : Mem) : Option (Int32 × Mem) :=
lt (sI m0 78 0 (0 : Int32)) fun m1 =>
bnd (F_M_canFollow m1) fun z4 m2 =>
lt (fun (z6 : Bool) (m5 : Mem) => ((bnd (F_M_throwsIf z6 (1 : Int32) m5) fun z9 m7 =>
if z9 = true then (
some ((0 : Int32), m7)) else (
bnd (F_M_remembers m7) fun _ m10 =>
lt (sI m10 79 12 (1 : Int32)) fun m13 =>
bnd (F_M_firstSide m13) fun x16 m14 =>
bnd (F_M_leadOf x16 m14) fun x19 m17 =>
some (x19, m17))) : Option (Int32 × Mem))) fun k18_6 =>
if z4 = true then (
k18_6 false m2) else (
k18_6 true m2)
def F_M_ofLog (a1 : Int32) (a2 : Int32) (m0 : Mem) : Option (Int32 × Mem) :=
ckB (inb (((235 : Int32) + ((7 : Int32) * a1)) + a2) 1972) <|
lt (gI m0 79 (((235 : Int32) + ((7 : Int32) * a1)) + a2).toNatClampNeg) fun x2 =>
some (x2, m0)
def F_M_form_L46 (a1 : Int32) (a2 : Int32) : Nat → Int32 → Int32 → Mem → Option (Int32 × Mem)
  | 0, _, _, _ => none
  | nf19 + 1, x17, x18, m16 =>
    bnd (F_M_played m16) fun x23 m21 =>
    if x23 ≤ x18 then (
    some (x17, m21)) else (
    lt (fun (x25 : Int32) (m24 : Mem) => ((lt (x17 + x25 : Int32) fun x26 =>
    lt (x18 + (1 : Int32) : Int32) fun x27 =>
    F_M_form_L46 a1 a2 nf19 x26 x27 m24) : Option (Int32 × Mem))) fun k87_25 =>
    lt (fun (m28 : Mem) => ((k87_25 (0 : Int32) m28) : Option (Int32 × Mem))) fun k86_28 =>
    if (x18 / (3 : Int32)) = a2 then (
    bnd (F_M_ofLog x18 (1 : Int32) m21) fun x31 m29 =>
    if x31 = a1 then (
    bnd (F_M_ofLog x18 (6 : Int32) m29) fun x34 m32 =>
    k87_25 x34 m32) else (
    k86_28 m29)) else (
    k86_28 m21))
def F_M_form (a1 : Int32) (a2 : Int32) (m0 : Mem) : Option (Int32 × Mem) :=
lt (sI m0 78 0 (0 : Int32)) fun m1 =>
bnd (F_M_noSide a1 m1) fun z4 m2 =>
bnd (F_M_throwsIf z4 (1 : Int32) m2) fun z7 m5 =>
if z7 = true then (
some ((0 : Int32), m5)) else (
bnd (F_M_in a2 (0 : Int32) (2 : Int32) m5) fun z10 m8 =>
lt (fun (z12 : Bool) (m11 : Mem) => ((bnd (F_M_throwsIf z12 (2 : Int32) m11) fun z15 m13 =>
if z15 = true then (
some ((0 : Int32), m13)) else (
F_M_form_L46 a1 a2 1000000 (0 : Int32) (0 : Int32) m13)) : Option (Int32 × Mem))) fun k32_12 =>
if z10 = true then (
k32_12 false m8) else (
k32_12 true m8))
def F_M_isAt (a1 : Int32) (a2 : Int32) (m0 : Mem) : Option (Bool × Mem) :=
if (gI m0 78 10) ≤ (gI m0 78 9) then (
some (false, m0)) else (
ckB (inb (gI m0 78 9) 400) <|
lt (gI m0 83 (gI m0 78 9).toNatClampNeg) fun x2 =>
if x2 < a1 then (
some (false, m0)) else (
ckB (inb (gI m0 78 9) 400) <|
lt (gI m0 83 (gI m0 78 9).toNatClampNeg) fun x4 =>
if a2 < x4 then (
some (false, m0)) else (
some (true, m0))))
def F_M_blanks_L0 (k24_1 : Mem → Option (Unit × Mem)) : Nat → Mem → Option (Unit × Mem)
  | 0, _ => none
  | nf4 + 1, m3 =>
    bnd (F_M_isAt (32 : Int32) (32 : Int32) m3) fun z8 m6 =>
    if z8 = true then (
    lt (sI m6 78 9 ((gI m6 78 9) + (1 : Int32))) fun m9 =>
    F_M_blanks_L0 k24_1 nf4 m9) else (
    k24_1 m6)
def F_M_blanks (m0 : Mem) : Option (Unit × Mem) :=
lt (fun (m1 : Mem) => ((lt (sI m1 78 11 (gI m1 78 9)) fun m2 =>
some ((), m2)) : Option (Unit × Mem))) fun k24_1 =>
F_M_blanks_L0 k24_1 1000000 m0
def F_M_letters_L4  : Nat → Mem → Option (Unit × Mem)
  | 0, _ => none
  | nf5 + 1, m4 =>
    bnd (F_M_isAt (97 : Int32) (122 : Int32) m4) fun z9 m7 =>
    if z9 = true then (
    lt (sI m7 78 9 ((gI m7 78 9) + (1 : Int32))) fun m10 =>
    F_M_letters_L4 nf5 m10) else (
    some ((), m7))
def F_M_letters (m0 : Mem) : Option (Unit × Mem) :=
bnd (F_M_blanks m0) fun _ m1 =>
F_M_letters_L4 1000000 m1
def F_M_isWord_L24 (tx1 : String) : Nat → Bool → Int32 → Mem → Option (Bool × Mem)
  | 0, _, _, _ => none
  | nf6 + 1, z4, x5, m3 =>
    if z4 = true then (
    if (nI tx1.length) ≤ x5 then (
    some (z4, m3)) else (
    ckB (inb ((gI m3 78 11) + x5) 400) <|
    lt (gI m3 83 ((gI m3 78 11) + x5).toNatClampNeg) fun x9 =>
    ckB (inb x5 tx1.length) <|
    lt (fun (z12 : Bool) (m11 : Mem) => ((lt (x5 + (1 : Int32) : Int32) fun x13 =>
    F_M_isWord_L24 tx1 nf6 z12 x13 m11) : Option (Bool × Mem))) fun k60_12 =>
    if x9 = (txB tx1 x5.toNatClampNeg) then (
    k60_12 true m3) else (
    k60_12 false m3))) else (
    some (z4, m3))
def F_M_isWord (tx1 : String) (m0 : Mem) : Option (Bool × Mem) :=
lt (fun (z2 : Bool) (m1 : Mem) => ((F_M_isWord_L24 tx1 1000000 z2 (0 : Int32) m1) : Option (Bool × Mem))) fun k21_2 =>
if ((gI m0 78 9) - (gI m0 78 11)) = (nI tx1.length) then (
k21_2 true m0) else (
k21_2 false m0)
def F_M_number_L6 (k65_5 : Int32 → Mem → Option (Int32 × Mem)) : Nat → Int32 → Mem → Option (Int32 × Mem)
  | 0, _, _ => none
  | nf8 + 1, x7, m6 =>
    bnd (F_M_isAt (48 : Int32) (57 : Int32) m6) fun z12 m10 =>
    if z12 = true then (
    lt (fun (x14 : Int32) (m13 : Mem) => ((lt (sI m13 78 9 ((gI m13 78 9) + (1 : Int32))) fun m15 =>
    F_M_number_L6 k65_5 nf8 x14 m15) : Option (Int32 × Mem))) fun k51_14 =>
    if (3 : Int32) ≤ ((gI m10 78 9) - (gI m10 78 11)) then (
    k51_14 x7 m10) else (
    ckB (inb (gI m10 78 9) 400) <|
    lt (gI m10 83 (gI m10 78 9).toNatClampNeg) fun x17 =>
    k51_14 ((((10 : Int32) * x7) + x17) - (48 : Int32)) m10)) else (
    k65_5 x7 m10)
def F_M_number (a1 : Int32) (a2 : Int32) (m0 : Mem) : Option (Int32 × Mem) :=
bnd (F_M_blanks m0) fun _ m1 =>
lt (fun (x5 : Int32) (m4 : Mem) => ((if (gI m4 78 9) = (gI m4 78 11) then (
some ((-1 : Int32), m4)) else (
if (3 : Int32) < ((gI m4 78 9) - (gI m4 78 11)) then (
some ((-1 : Int32), m4)) else (
if x5 < a1 then (
some ((-1 : Int32), m4)) else (
if x5 ≤ a2 then (
some (x5, m4)) else (
some ((-1 : Int32), m4)))))) : Option (Int32 × Mem))) fun k65_5 =>
F_M_number_L6 k65_5 1000000 (0 : Int32) m1
def F_M_passes (tx1 : String) (m0 : Mem) : Option (Bool × Mem) :=
bnd (F_M_letters m0) fun _ m1 =>
bnd (F_M_isWord tx1 m1) fun z6 m4 =>
if z6 = true then (
some (true, m4)) else (
lt (sI m4 78 9 (gI m4 78 11)) fun m7 =>
some (false, m7))
def F_M_emits (a1 : Int32) (a2 : Int32) (m0 : Mem) : Option (Unit × Mem) :=
ckB (inb ((1172 : Int32) + ((2 : Int32) * (gI m0 78 15))) 1972) <|
lt (sI m0 79 ((1172 : Int32) + ((2 : Int32) * (gI m0 78 15))).toNatClampNeg a1) fun m1 =>
lt (((1172 : Int32) + ((2 : Int32) * (gI m1 78 15))) + (1 : Int32) : Int32) fun x3 =>
ckB (inb x3 1972) <|
lt (sI m1 79 x3.toNatClampNeg a2) fun m4 =>
lt (sI m4 78 15 ((gI m4 78 15) + (1 : Int32))) fun m6 =>
some ((), m6)
def F_M_readAllOf_L9 (rc : Mem → Option (Bool × Mem)) : Nat → Mem → Option (Bool × Mem)
  | 0, _ => none
  | nf5 + 1, m4 =>
    bnd (F_M_passes ("and") m4) fun z9 m7 =>
    if z9 = true then (
    bnd (rc m7) fun z12 m10 =>
    if z12 = true then (
    bnd (F_M_emits (13 : Int32) (0 : Int32) m10) fun _ m13 =>
    F_M_readAllOf_L9 rc nf5 m13) else (
    some (false, m10))) else (
    some (true, m7))
def F_M_readAllOf (rc : Mem → Option (Bool × Mem)) (m0 : Mem) : Option (Bool × Mem) :=
bnd (rc m0) fun z3 m1 =>
if z3 = true then (
F_M_readAllOf_L9 rc 1000000 m1) else (
some (false, m1))
def F_M_readCond_L9 (rc : Mem → Option (Bool × Mem)) : Nat → Mem → Option (Bool × Mem)
  | 0, _ => none
  | nf5 + 1, m4 =>
    bnd (F_M_passes ("or") m4) fun z9 m7 =>
    if z9 = true then (
    bnd (F_M_readAllOf rc m7) fun z12 m10 =>
    if z12 = true then (
    bnd (F_M_emits (14 : Int32) (0 : Int32) m10) fun _ m13 =>
    F_M_readCond_L9 rc nf5 m13) else (
    some (false, m10))) else (
    some (true, m7))
def F_M_readCond (rc : Mem → Option (Bool × Mem)) (m0 : Mem) : Option (Bool × Mem) :=
bnd (F_M_readAllOf rc m0) fun z3 m1 =>
if z3 = true then (
F_M_readCond_L9 rc 1000000 m1) else (
some (false, m1))
def F_M_sign (a1 : Int32) (m0 : Mem) : Option (Bool × Mem) :=
bnd (F_M_blanks m0) fun _ m1 =>
bnd (F_M_isAt a1 a1 m1) fun z6 m4 =>
if z6 = true then (
lt (sI m4 78 9 ((gI m4 78 9) + (1 : Int32))) fun m7 =>
some (true, m7)) else (
some (false, m4))
def F_M_readPart (m0 : Mem) : Option (Bool × Mem) :=
bnd (F_M_letters m0) fun _ m1 =>
lt (fun (x5 : Int32) (m4 : Mem) => ((if x5 < 0 then (
some (false, m4)) else (
some (true, m4))) : Option (Bool × Mem))) fun k120_5 =>
if (gI m1 78 9) = (gI m1 78 11) then (
bnd (F_M_number (0 : Int32) (999 : Int32) m1) fun x31 m29 =>
bnd (F_M_emits (8 : Int32) x31 m29) fun _ m32 =>
k120_5 x31 m32) else (
bnd (F_M_isWord ("session") m1) fun z8 m6 =>
lt (fun (x10 : Int32) (m9 : Mem) => ((bnd (F_M_emits x10 (0 : Int32) m9) fun _ m11 =>
k120_5 x10 m11) : Option (Bool × Mem))) fun k113_10 =>
if z8 = true then (
k113_10 (0 : Int32) m6) else (
bnd (F_M_isWord ("day") m6) fun z16 m14 =>
if z16 = true then (
k113_10 (1 : Int32) m14) else (
bnd (F_M_isWord ("innings") m14) fun z19 m17 =>
if z19 = true then (
k113_10 (2 : Int32) m17) else (
bnd (F_M_isWord ("side") m17) fun z22 m20 =>
if z22 = true then (
k113_10 (3 : Int32) m20) else (
bnd (F_M_isWord ("bat") m20) fun z25 m23 =>
if z25 = true then (
k113_10 (4 : Int32) m23) else (
bnd (F_M_isWord ("bowl") m23) fun z28 m26 =>
if z28 = true then (
k113_10 (5 : Int32) m26) else (
k113_10 (-1 : Int32) m26)))))))
def F_M_readSum_L9  : Nat → Mem → Option (Bool × Mem)
  | 0, _ => none
  | nf5 + 1, m4 =>
    bnd (F_M_sign (43 : Int32) m4) fun z9 m7 =>
    if z9 = true then (
    bnd (F_M_readPart m7) fun z12 m10 =>
    if z12 = true then (
    bnd (F_M_emits (9 : Int32) (0 : Int32) m10) fun _ m13 =>
    F_M_readSum_L9 nf5 m13) else (
    some (false, m10))) else (
    some (true, m7))
def F_M_readSum (m0 : Mem) : Option (Bool × Mem) :=
bnd (F_M_readPart m0) fun z3 m1 =>
if z3 = true then (
F_M_readSum_L9 1000000 m1) else (
some (false, m1))
def F_M_readAtom_b (rc : Mem → Option (Bool × Mem)) (m0 : Mem) : Option (Bool × Mem) :=
bnd (F_M_sign (40 : Int32) m0) fun z3 m1 =>
if z3 = true then (
if (gI m1 78 12) = (6 : Int32) then (
some (false, m1)) else (
lt (sI m1 78 12 ((gI m1 78 12) + (1 : Int32))) fun m45 =>
bnd (F_M_readCond rc m45) fun z48 m46 =>
if z48 = true then (
lt (sI m46 78 12 ((gI m46 78 12) - (1 : Int32))) fun m49 =>
bnd (F_M_sign (41 : Int32) m49) fun z52 m50 =>
some (z52, m50)) else (
some (false, m46)))) else (
bnd (F_M_passes ("not") m1) fun z6 m4 =>
if z6 = true then (
if (gI m4 78 12) = (6 : Int32) then (
some (false, m4)) else (
lt (sI m4 78 12 ((gI m4 78 12) + (1 : Int32))) fun m37 =>
bnd (rc m37) fun z40 m38 =>
if z40 = true then (
lt (sI m38 78 12 ((gI m38 78 12) - (1 : Int32))) fun m41 =>
bnd (F_M_emits (12 : Int32) (0 : Int32) m41) fun _ m42 =>
some (true, m42)) else (
some (false, m38)))) else (
bnd (F_M_passes ("cloud") m4) fun z9 m7 =>
lt (fun (m10 : Mem) => ((lt (fun (x12 : Int32) (m11 : Mem) => ((bnd (F_M_emits x12 (0 : Int32) m11) fun _ m13 =>
some (true, m13)) : Option (Bool × Mem))) fun k146_12 =>
if z9 = true then (
k146_12 (6 : Int32) m10) else (
k146_12 (7 : Int32) m10)) : Option (Bool × Mem))) fun k134_10 =>
if z9 = true then (
k134_10 m7) else (
bnd (F_M_passes ("tide") m7) fun z18 m16 =>
if z18 = true then (
k134_10 m16) else (
bnd (F_M_readSum m16) fun z21 m19 =>
if z21 = true then (
bnd (F_M_sign (60 : Int32) m19) fun z24 m22 =>
lt (fun (m25 : Mem) => ((bnd (F_M_readSum m25) fun z28 m26 =>
if z28 = true then (
lt (fun (x30 : Int32) (m29 : Mem) => ((bnd (F_M_emits x30 (0 : Int32) m29) fun _ m31 =>
some (true, m31)) : Option (Bool × Mem))) fun k202_30 =>
if z24 = true then (
k202_30 (10 : Int32) m26) else (
k202_30 (11 : Int32) m26)) else (
some (false, m26))) : Option (Bool × Mem))) fun k181_25 =>
if z24 = true then (
k181_25 m22) else (
bnd (F_M_sign (62 : Int32) m22) fun z36 m34 =>
if z36 = true then (
k181_25 m34) else (
some (false, m34)))) else (
some (false, m19))))))
def F_M_readAtom : Nat → Mem → Option (Bool × Mem)
  | 0, _ => none
  | k + 1, m0 => F_M_readAtom_b (F_M_readAtom k) m0
def F_M_readLawLine (a1 : Int32) (m0 : Mem) : Option (Bool × Mem) :=
lt ((1136 : Int32) + ((3 : Int32) * a1) : Int32) fun x1 =>
bnd (F_M_isWord ("hard") m0) fun z4 m2 =>
if z4 = true then (
bnd (F_M_number (0 : Int32) (9 : Int32) m2) fun x7 m5 =>
ckB (inb x1 1972) <|
lt (sI m5 79 x1.toNatClampNeg x7) fun m8 =>
ckB (inb x1 1972) <|
lt (gI m8 79 x1.toNatClampNeg) fun x11 =>
if 0 ≤ x11 then (
ckB (inb (x1 + (1 : Int32)) 1972) <|
lt (sI m8 79 (x1 + (1 : Int32)).toNatClampNeg (gI m8 78 15)) fun m12 =>
lt (sI m12 78 12 (0 : Int32)) fun m14 =>
bnd (F_M_passes ("if") m14) fun z17 m15 =>
lt (fun (m18 : Mem) => ((ckB (inb (x1 + (2 : Int32)) 1972) <|
lt (sI m18 79 (x1 + (2 : Int32)).toNatClampNeg (gI m18 78 15)) fun m19 =>
some (true, m19)) : Option (Bool × Mem))) fun k78_18 =>
if z17 = true then (
bnd (F_M_readCond (F_M_readAtom 8) m15) fun z23 m21 =>
if z23 = true then (
k78_18 m21) else (
some (false, m21))) else (
k78_18 m15)) else (
some (false, m8))) else (
some (false, m2))
def F_M_readBook (m0 : Mem) : Option (Bool × Mem) :=
lt ((55 : Int32) + ((3 : Int32) * (gI m0 79 5)) : Int32) fun x1 =>
if (gI m0 79 5) = (60 : Int32) then (
some (false, m0)) else (
bnd (F_M_number (0 : Int32) (1 : Int32) m0) fun x4 m2 =>
lt (fun (x6 : Int32) (m5 : Mem) => ((lt (fun (x8 : Int32) (m7 : Mem) => ((if 0 ≤ x8 then (
ckB (inb x1 1972) <|
lt (sI m7 79 x1.toNatClampNeg x4) fun m9 =>
ckB (inb (x1 + (1 : Int32)) 1972) <|
lt (sI m9 79 (x1 + (1 : Int32)).toNatClampNeg x6) fun m11 =>
ckB (inb (x1 + (2 : Int32)) 1972) <|
lt (sI m11 79 (x1 + (2 : Int32)).toNatClampNeg x8) fun m13 =>
lt (sI m13 79 5 ((gI m13 79 5) + (1 : Int32))) fun m15 =>
some (true, m15)) else (
some (false, m7))) : Option (Bool × Mem))) fun k61_8 =>
if 0 ≤ x6 then (
bnd (F_M_number (0 : Int32) (2 : Int32) m5) fun x18 m16 =>
k61_8 x18 m16) else (
k61_8 (-1 : Int32) m5)) : Option (Bool × Mem))) fun k46_6 =>
if 0 ≤ x4 then (
bnd (F_M_number (0 : Int32) (1 : Int32) m2) fun x21 m19 =>
k46_6 x21 m19) else (
k46_6 (-1 : Int32) m2))
def F_M_readNumber (a1 : Int32) (a2 : Int32) (m0 : Mem) : Option (Bool × Mem) :=
bnd (F_M_number (0 : Int32) a2 m0) fun x3 m1 =>
ckB (inb a1 1972) <|
lt (sI m1 79 a1.toNatClampNeg x3) fun m4 =>
if x3 < 0 then (
some (false, m4)) else (
some (true, m4))
def F_M_isFigure (m0 : Mem) : Option (Bool × Mem) :=
bnd (F_M_blanks m0) fun _ m1 =>
bnd (F_M_isAt (48 : Int32) (57 : Int32) m1) fun z6 m4 =>
some (z6, m4)
def F_M_readSet_L0 (a1 : Int32) : Nat → Mem → Option (Bool × Mem)
  | 0, _ => none
  | nf2 + 1, m1 =>
    bnd (F_M_number (0 : Int32) (8 : Int32) m1) fun x6 m4 =>
    if 0 ≤ x6 then (
    ckB (inb a1 1972) <|
    lt (gI m4 79 a1.toNatClampNeg) fun x8 =>
    ckB (inb a1 1972) <|
    lt (sI m4 79 a1.toNatClampNeg (x8 ||| ((1 : Int32) <<< (x6 &&& 31)))) fun m9 =>
    bnd (F_M_isFigure m9) fun z13 m11 =>
    if z13 = true then (
    F_M_readSet_L0 a1 nf2 m11) else (
    some (true, m11))) else (
    some (false, m4))
def F_M_readSet (a1 : Int32) (m0 : Mem) : Option (Bool × Mem) :=
F_M_readSet_L0 a1 1000000 m0
def F_M_after_LjavalangStringIII (tx1 : String) (a2 : Int32) (a3 : Int32) (m0 : Mem) : Option (Int32 × Mem) :=
bnd (F_M_letters m0) fun _ m1 =>
bnd (F_M_isWord tx1 m1) fun z6 m4 =>
if z6 = true then (
bnd (F_M_number a2 a3 m4) fun x9 m7 =>
some (x9, m7)) else (
some ((-1 : Int32), m4))
def F_M_readSlot (m0 : Mem) : Option (Bool × Mem) :=
bnd (F_M_number (0 : Int32) (3 : Int32) m0) fun x3 m1 =>
lt (fun (x5 : Int32) (m4 : Mem) => ((lt (fun (x7 : Int32) (m6 : Mem) => ((lt (fun (x9 : Int32) (m8 : Mem) => ((if 0 ≤ x9 then (
lt ((23 : Int32) + ((2 : Int32) * (((4 : Int32) * x3) + x5)) : Int32) fun x10 =>
ckB (inb x10 1972) <|
lt (sI m8 79 x10.toNatClampNeg x7) fun m11 =>
lt ((23 : Int32) + ((2 : Int32) * (((4 : Int32) * x3) + x5)) : Int32) fun x13 =>
ckB (inb (x13 + (1 : Int32)) 1972) <|
lt (sI m11 79 (x13 + (1 : Int32)).toNatClampNeg x9) fun m14 =>
some (true, m14)) else (
some (false, m8))) : Option (Bool × Mem))) fun k57_9 =>
if 0 ≤ x7 then (
bnd (F_M_after_LjavalangStringIII ("outs") (0 : Int32) (9 : Int32) m6) fun x18 m16 =>
k57_9 x18 m16) else (
k57_9 (-1 : Int32) m6)) : Option (Bool × Mem))) fun k39_7 =>
if 0 ≤ x5 then (
bnd (F_M_after_LjavalangStringIII ("runs") (0 : Int32) (9 : Int32) m4) fun x21 m19 =>
k39_7 x21 m19) else (
k39_7 (-1 : Int32) m4)) : Option (Bool × Mem))) fun k21_5 =>
if 0 ≤ x3 then (
bnd (F_M_number (0 : Int32) (3 : Int32) m1) fun x24 m22 =>
k21_5 x24 m22) else (
k21_5 (-1 : Int32) m1)
def F_M_readSide (m0 : Mem) : Option (Bool × Mem) :=
bnd (F_M_number (0 : Int32) (1 : Int32) m0) fun x3 m1 =>
lt (fun (x5 : Int32) (m4 : Mem) => ((lt (fun (x7 : Int32) (m6 : Mem) => ((if 0 ≤ x7 then (
ckB (inb ((19 : Int32) + ((2 : Int32) * x3)) 1972) <|
lt (sI m6 79 ((19 : Int32) + ((2 : Int32) * x3)).toNatClampNeg x5) fun m8 =>
lt (((19 : Int32) + ((2 : Int32) * x3)) + (1 : Int32) : Int32) fun x10 =>
ckB (inb x10 1972) <|
lt (sI m8 79 x10.toNatClampNeg x7) fun m11 =>
some (true, m11)) else (
some (false, m6))) : Option (Bool × Mem))) fun k42_7 =>
if 0 ≤ x5 then (
bnd (F_M_after_LjavalangStringIII ("bowl") (0 : Int32) (9 : Int32) m4) fun x15 m13 =>
k42_7 x15 m13) else (
k42_7 (-1 : Int32) m4)) : Option (Bool × Mem))) fun k24_5 =>
if 0 ≤ x3 then (
bnd (F_M_after_LjavalangStringIII ("bat") (0 : Int32) (9 : Int32) m1) fun x18 m16 =>
k24_5 x18 m16) else (
k24_5 (-1 : Int32) m1)
