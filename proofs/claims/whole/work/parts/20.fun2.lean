def F_M_inningsOf (a0 : Int32) (m0 : Mem) : Option (Int32 × Mem) :=
if (2 : Int32) ≤ a0 then (
if (4 : Int32) ≤ a0 then (
some ((3 : Int32), m0)) else (
some ((2 : Int32), m0))) else (
some (a0, m0))
def F_M_isBehind (a0 : Int32) (m0 : Mem) : Option (Bool × Mem) :=
if a0 = (3 : Int32) then (
some (true, m0)) else (
if a0 = (5 : Int32) then (
some (true, m0)) else (
some (false, m0)))
def F_M_factOf (a1 : Int32) (a2 : Int32) (a3 : Int32) (a4 : Int32) (a5 : Int32) (m0 : Mem) : Option (Int32 × Mem) :=
if a1 = 0 then (
some (a3, m0)) else (
if a1 = 1 then (
some (a3 / (3 : Int32), m0)) else (
if a1 = 2 then (
some (a4, m0)) else (
if a1 = 3 then (
some (a5, m0)) else (
if a1 = 4 then (
ckB (inb ((19 : Int32) + ((2 : Int32) * a5)) 1972) <|
lt (gI m0 79 ((19 : Int32) + ((2 : Int32) * a5)).toNatClampNeg) fun xq2 =>
some (xq2, m0)) else (
if a1 = 5 then (
lt ((19 : Int32) + ((2 : Int32) * ((1 : Int32) - a5)) : Int32) fun xq3 =>
ckB (inb (xq3 + (1 : Int32)) 1972) <|
lt (gI m0 79 (xq3 + (1 : Int32)).toNatClampNeg) fun xq5 =>
some (xq5, m0)) else (
if a1 = 6 then (
some (((gI m0 79 6) >>> (a3 &&& 31)) &&& (1 : Int32), m0)) else (
if a1 = 7 then (
some (((gI m0 79 7) >>> (a3 &&& 31)) &&& (1 : Int32), m0)) else (
some (a2, m0)))))))))
def F_M_holdsLine_L23 (a2 : Int32) (a3 : Int32) (a4 : Int32) (xq1 : Int32) (k273_5 : Int32 → Mem → Option (Bool × Mem)) : Nat → Int32 → Int32 → Mem → Option (Bool × Mem)
  | 0, _, _, _ => none
  | nfq9 + 1, xq7, xq8, mq6 =>
    ckB (inb (xq1 + (2 : Int32)) 1972) <|
    lt (gI mq6 79 (xq1 + (2 : Int32)).toNatClampNeg) fun xq12 =>
    if xq12 ≤ xq8 then (
    k273_5 xq7 mq6) else (
    ckB (inb ((335 : Int32) + ((2 : Int32) * xq8)) 1972) <|
    lt (gI mq6 79 ((335 : Int32) + ((2 : Int32) * xq8)).toNatClampNeg) fun xq14 =>
    lt (fun (xq16 : Int32) (mq15 : Mem) => ((lt (xq8 + (1 : Int32) : Int32) fun xq17 =>
    F_M_holdsLine_L23 a2 a3 a4 xq1 k273_5 nfq9 xq16 xq17 mq15) : Option (Bool × Mem))) fun k267_16 =>
    if (8 : Int32) < xq14 then (
    if xq14 = (12 : Int32) then (
    ckB (inb (xq7 - (1 : Int32)) 400) <|
    lt (gI mq6 85 (xq7 - (1 : Int32)).toNatClampNeg) fun xq30 =>
    ckB (inb (xq7 - (1 : Int32)) 400) <|
    lt (sI mq6 85 (xq7 - (1 : Int32)).toNatClampNeg ((1 : Int32) - xq30)) fun mq31 =>
    k267_16 xq7 mq31) else (
    lt (xq7 + (-1 : Int32) : Int32) fun xq18 =>
    ckB (inb (xq18 - (1 : Int32)) 400) <|
    lt (gI mq6 85 (xq18 - (1 : Int32)).toNatClampNeg) fun xq20 =>
    ckB (inb xq18 400) <|
    lt (gI mq6 85 xq18.toNatClampNeg) fun xq22 =>
    lt (fun (zq24 : Bool) (mq23 : Mem) => ((lt (fun (xq26 : Int32) (mq25 : Mem) => ((ckB (inb (xq18 - (1 : Int32)) 400) <|
    lt (sI mq25 85 (xq18 - (1 : Int32)).toNatClampNeg xq26) fun mq27 =>
    k267_16 xq18 mq27) : Option (Bool × Mem))) fun k266_26 =>
    if xq14 = (9 : Int32) then (
    k266_26 (xq20 + xq22) mq23) else (
    if zq24 = true then (
    k266_26 (1 : Int32) mq23) else (
    k266_26 (0 : Int32) mq23))) : Option (Bool × Mem))) fun k231_24 =>
    if xq14 = (10 : Int32) then (
    if xq22 ≤ xq20 then (
    k231_24 false mq6) else (
    k231_24 true mq6)) else (
    if xq14 = (11 : Int32) then (
    if xq20 ≤ xq22 then (
    k231_24 false mq6) else (
    k231_24 true mq6)) else (
    if xq14 = (13 : Int32) then (
    if (xq20 + xq22) = (2 : Int32) then (
    k231_24 true mq6) else (
    k231_24 false mq6)) else (
    if (xq20 + xq22) ≤ 0 then (
    k231_24 false mq6) else (
    k231_24 true mq6)))))) else (
    lt (((335 : Int32) + ((2 : Int32) * xq8)) + (1 : Int32) : Int32) fun xq33 =>
    ckB (inb xq33 1972) <|
    lt (gI mq6 79 xq33.toNatClampNeg) fun xq35 =>
    bnd (F_M_factOf xq14 xq35 a2 a3 a4 mq6) fun xq38 mq36 =>
    ckB (inb xq7 400) <|
    lt (sI mq36 85 xq7.toNatClampNeg xq38) fun mq39 =>
    lt (xq7 + (1 : Int32) : Int32) fun xq41 =>
    k267_16 xq41 mq39))
def F_M_holdsLine (a1 : Int32) (a2 : Int32) (a3 : Int32) (a4 : Int32) (m0 : Mem) : Option (Bool × Mem) :=
lt ((299 : Int32) + ((3 : Int32) * a1) : Int32) fun xq1 =>
ckB (inb (xq1 + (1 : Int32)) 1972) <|
lt (gI m0 79 (xq1 + (1 : Int32)).toNatClampNeg) fun xq3 =>
lt (fun (xq5 : Int32) (mq4 : Mem) => ((if xq5 = 0 then (
some (true, mq4)) else (
if (gI mq4 85 0) = (1 : Int32) then (
some (true, mq4)) else (
some (false, mq4)))) : Option (Bool × Mem))) fun k273_5 =>
F_M_holdsLine_L23 a2 a3 a4 xq1 k273_5 1000000 (0 : Int32) xq3 m0
def F_M_levelOf_L17 (a1 : Int32) (a2 : Int32) (a3 : Int32) (k70_2 : Int32 → Mem → Option (Int32 × Mem)) : Nat → Int32 → Int32 → Mem → Option (Int32 × Mem)
  | 0, _, _, _ => none
  | nfq6 + 1, xq4, xq5, mq3 =>
    if (gI mq3 79 298) ≤ xq5 then (
    k70_2 xq4 mq3) else (
    bnd (F_M_holdsLine xq5 a1 a2 a3 mq3) fun zq10 mq8 =>
    lt (fun (xq12 : Int32) (mq11 : Mem) => ((lt (xq4 + xq12 : Int32) fun xq13 =>
    lt (xq5 + (1 : Int32) : Int32) fun xq14 =>
    F_M_levelOf_L17 a1 a2 a3 k70_2 nfq6 xq13 xq14 mq11) : Option (Int32 × Mem))) fun k61_12 =>
    if zq10 = true then (
    ckB (inb ((299 : Int32) + ((3 : Int32) * xq5)) 1972) <|
    lt (gI mq8 79 ((299 : Int32) + ((3 : Int32) * xq5)).toNatClampNeg) fun xq16 =>
    k61_12 xq16 mq8) else (
    k61_12 (0 : Int32) mq8))
def F_M_levelOf (a1 : Int32) (a2 : Int32) (a3 : Int32) (m0 : Mem) : Option (Int32 × Mem) :=
if (gI m0 79 4) = 0 then (
some ((1 : Int32), m0)) else (
lt (fun (xq2 : Int32) (mq1 : Mem) => ((some (mnI (3 : Int32) xq2, mq1)) : Option (Int32 × Mem))) fun k70_2 =>
F_M_levelOf_L17 a1 a2 a3 k70_2 1000000 (0 : Int32) (0 : Int32) m0)
def F_M_laysLevels_L2 (a1 : Int32) : Nat → Int32 → Mem → Option (Unit × Mem)
  | 0, _, _ => none
  | nfq3 + 1, xq2, mq1 =>
    if (6 : Int32) ≤ xq2 then (
    some ((), mq1)) else (
    bnd (F_M_inningsOf xq2 mq1) fun xq7 mq5 =>
    bnd (F_M_inningsOf xq2 mq5) fun xq10 mq8 =>
    bnd (F_M_isBehind xq2 mq8) fun zq13 mq11 =>
    bnd (F_M_batting (gI mq5 78 20) xq10 zq13 mq11) fun xq16 mq14 =>
    bnd (F_M_levelOf a1 xq7 xq16 mq14) fun xq19 mq17 =>
    ckB (inb xq2 6) <|
    lt (sI mq17 88 xq2.toNatClampNeg xq19) fun mq20 =>
    lt (xq2 + (1 : Int32) : Int32) fun xq22 =>
    F_M_laysLevels_L2 a1 nfq3 xq22 mq20)
def F_M_laysLevels (a1 : Int32) (m0 : Mem) : Option (Unit × Mem) :=
F_M_laysLevels_L2 a1 1000000 (0 : Int32) m0
def F_M_has (a0 : Int32) (a1 : Int32) (m0 : Mem) : Option (Bool × Mem) :=
if ((a0 >>> (a1 &&& 31)) &&& (1 : Int32)) = (1 : Int32) then (
some (true, m0)) else (
some (false, m0))
def F_M_isRain (a1 : Int32) (m0 : Mem) : Option (Bool × Mem) :=
bnd (F_M_has (gI m0 79 8) a1 m0) fun zq3 mq1 =>
some (zq3, mq1)
def F_M_ofSlot (a1 : Int32) (a2 : Int32) (a3 : Int32) (m0 : Mem) : Option (Int32 × Mem) :=
lt ((23 : Int32) + ((2 : Int32) * (((4 : Int32) * a1) + a2)) : Int32) fun xq1 =>
ckB (inb (xq1 + a3) 1972) <|
lt (gI m0 79 (xq1 + a3).toNatClampNeg) fun xq3 =>
some (xq3, m0)
def F_M_runsOf (a1 : Int32) (a2 : Int32) (a3 : Int32) (a4 : Bool) (m0 : Mem) : Option (Int32 × Mem) :=
if a4 = true then (
some ((0 : Int32), m0)) else (
bnd (F_M_isRain a1 m0) fun zq3 mq1 =>
if zq3 = true then (
some ((0 : Int32), mq1)) else (
ckB (inb a2 6) <|
lt (gI mq1 88 a2.toNatClampNeg) fun xq5 =>
bnd (F_M_ofSlot xq5 a3 (0 : Int32) mq1) fun xq8 mq6 =>
some (xq8, mq6)))
def F_M_outsOf (a1 : Int32) (a2 : Int32) (a3 : Int32) (a4 : Bool) (m0 : Mem) : Option (Int32 × Mem) :=
bnd (F_M_isRain a1 m0) fun zq3 mq1 =>
if zq3 = true then (
some ((0 : Int32), mq1)) else (
ckB (inb a2 6) <|
lt (gI mq1 88 a2.toNatClampNeg) fun xq5 =>
bnd (F_M_ofSlot xq5 a3 (1 : Int32) mq1) fun xq8 mq6 =>
lt (fun (zq10 : Bool) (mq9 : Mem) => ((some (mxI (0 : Int32) (xq8 - (b2i zq10)), mq9)) : Option (Int32 × Mem))) fun k35_10 =>
if a4 = true then (
k35_10 true mq6) else (
k35_10 false mq6))
def F_M_nextKind (a0 : Int32) (m0 : Mem) : Option (Int32 × Mem) :=
if (2 : Int32) ≤ a0 then (
some (a0 + (2 : Int32), m0)) else (
some (a0 + (1 : Int32), m0))
def F_M_cell (a0 : Int32) (a1 : Int32) (a2 : Int32) (a3 : Int32) (m0 : Mem) : Option (Int32 × Mem) :=
lt (((a0 &&& (1 : Int32)) * (21450 : Int32)) + (a1 * (3575 : Int32)) : Int32) fun xq1 =>
lt (((xq1 + (a2 * (325 : Int32))) + a3) + (162 : Int32) : Int32) fun xq2 =>
some (xq2, m0)
def F_M_all (a1 : Int32) (m0 : Mem) : Option (Int32 × Mem) :=
bnd (F_M_size m0) fun xq3 mq1 =>
lt ((1 : Int32) <<< (((2 : Int32) * (xq3 - a1)) &&& 31) : Int32) fun xq4 =>
some (xq4, mq1)
def F_M_brings (a1 : Int32) (a2 : Int32) (a3 : Int32) (a4 : Int32) (a5 : Int32) (a6 : Bool) (m0 : Mem) : Option (Unit × Mem) :=
bnd (F_M_runsOf a1 a2 a5 a6 m0) fun xq3 mq1 =>
lt (a4 + xq3 : Int32) fun xq4 =>
lt (fun (xq6 : Int32) (mq5 : Mem) => ((bnd (F_M_outsOf a1 a2 a5 a6 mq5) fun xq9 mq7 =>
lt (xq6 + xq9 : Int32) fun xq10 =>
lt (fun (mq11 : Mem) => ((if (10 : Int32) ≤ xq10 then (
if a2 ≤ (3 : Int32) then (
bnd (F_M_nextKind a2 mq11) fun xq14 mq12 =>
lt (fun (mq15 : Mem) => ((bnd (F_M_size mq15) fun xq18 mq16 =>
if xq18 ≤ (a1 + (1 : Int32)) then (
some ((), mq16)) else (
bnd (F_M_nextKind a2 mq16) fun xq21 mq19 =>
bnd (F_M_cell (a1 + (1 : Int32)) xq21 (10 : Int32) (-xq4) mq19) fun xq24 mq22 =>
ckB (inb xq24 42900) <|
lt (gI mq22 87 xq24.toNatClampNeg) fun xq26 =>
lt (sI mq22 78 23 ((gI mq16 78 23) + xq26)) fun mq27 =>
bnd (F_M_nextKind a2 mq27) fun xq30 mq28 =>
bnd (F_M_cell (a1 + (1 : Int32)) xq30 (10 : Int32) (-xq4) mq28) fun xq33 mq31 =>
ckB (inb xq33 42900) <|
lt (gI mq31 86 xq33.toNatClampNeg) fun xq35 =>
lt (sI mq31 78 24 ((gI mq27 78 24) + xq35)) fun mq36 =>
some ((), mq36))) : Option (Unit × Mem))) fun k204_15 =>
if xq14 ≤ (3 : Int32) then (
k204_15 mq12) else (
if 0 ≤ xq4 then (
k204_15 mq12) else (
bnd (F_M_all (a1 + (1 : Int32)) mq12) fun xq39 mq37 =>
lt (sI mq37 78 24 ((gI mq12 78 24) + xq39)) fun mq40 =>
some ((), mq40)))) else (
lt (fun (xq42 : Int32) (mq41 : Mem) => ((lt (sI mq41 78 24 ((gI mq11 78 24) + xq42)) fun mq43 =>
some ((), mq43)) : Option (Unit × Mem))) fun k165_42 =>
if 0 ≤ xq4 then (
k165_42 (0 : Int32) mq11) else (
bnd (F_M_all (a1 + (1 : Int32)) mq11) fun xq46 mq44 =>
k165_42 xq46 mq44))) else (
bnd (F_M_size mq11) fun xq49 mq47 =>
if (a1 + (1 : Int32)) = xq49 then (
some ((), mq47)) else (
bnd (F_M_cell (a1 + (1 : Int32)) a2 xq10 xq4 mq47) fun xq52 mq50 =>
ckB (inb xq52 42900) <|
lt (gI mq50 86 xq52.toNatClampNeg) fun xq54 =>
lt (sI mq50 78 23 ((gI mq47 78 23) + xq54)) fun mq55 =>
bnd (F_M_cell (a1 + (1 : Int32)) a2 xq10 xq4 mq55) fun xq58 mq56 =>
ckB (inb xq58 42900) <|
lt (gI mq56 87 xq58.toNatClampNeg) fun xq60 =>
lt (sI mq56 78 24 ((gI mq55 78 24) + xq60)) fun mq61 =>
some ((), mq61)))) : Option (Unit × Mem))) fun k68_11 =>
if a2 ≤ (3 : Int32) then (
k68_11 mq7) else (
if xq4 ≤ 0 then (
k68_11 mq7) else (
bnd (F_M_all (a1 + (1 : Int32)) mq7) fun xq64 mq62 =>
lt (sI mq62 78 23 ((gI mq7 78 23) + xq64)) fun mq65 =>
some ((), mq65)))) : Option (Unit × Mem))) fun k26_6 =>
if a3 = (10 : Int32) then (
k26_6 (0 : Int32) mq1) else (
k26_6 a3 mq1)
def F_M_goesOn_L13 (a1 : Int32) (a2 : Int32) (a3 : Int32) (a4 : Int32) (a5 : Bool) : Nat → Int32 → Mem → Option (Unit × Mem)
  | 0, _, _ => none
  | nfq5 + 1, xq4, mq3 =>
    if (4 : Int32) ≤ xq4 then (
    some ((), mq3)) else (
    bnd (F_M_brings a1 a2 a3 a4 xq4 a5 mq3) fun _ mq7 =>
    lt (xq4 + (1 : Int32) : Int32) fun xq10 =>
    F_M_goesOn_L13 a1 a2 a3 a4 a5 nfq5 xq10 mq7)
def F_M_goesOn (a1 : Int32) (a2 : Int32) (a3 : Int32) (a4 : Int32) (a5 : Bool) (m0 : Mem) : Option (Unit × Mem) :=
lt (sI m0 78 23 (0 : Int32)) fun mq1 =>
lt (sI mq1 78 24 (0 : Int32)) fun mq2 =>
F_M_goesOn_L13 a1 a2 a3 a4 a5 1000000 (0 : Int32) mq2
def F_M_worthOf (a1 : Int32) (a2 : Int32) (a3 : Int32) (m0 : Mem) : Option (Int64 × Mem) :=
bnd (F_M_all a1 m0) fun xq3 mq1 =>
lt (((gI m0 78 21).toInt64) * (((xq3 - a2) - a3).toInt64) : Int64) fun yq4 =>
some (((100 : Int64) * a2.toInt64) + yq4, mq1)
def F_M_got (a1 : Int32) (m0 : Mem) : Option (Int64 × Mem) :=
bnd (F_M_worthOf a1 (gI m0 78 23) (gI m0 78 24) m0) fun yq3 mq1 =>
some (yq3, mq1)
def F_M_mayDeclare (a1 : Int32) (a2 : Int32) (m0 : Mem) : Option (Bool × Mem) :=
if (4 : Int32) ≤ a1 then (
some (false, m0)) else (
if a2 = (10 : Int32) then (
some (false, m0)) else (
some (true, m0)))
def F_M_mayFollow (a1 : Int32) (a2 : Int32) (a3 : Int32) (m0 : Mem) : Option (Bool × Mem) :=
if a1 = (2 : Int32) then (
if a2 = (10 : Int32) then (
if a3 < (gI m0 79 1) then (
some (false, m0)) else (
some (true, m0))) else (
some (false, m0))) else (
some (false, m0))
def F_M_handsOver (a1 : Int32) (a2 : Int32) (a3 : Int32) (m0 : Mem) : Option (Unit × Mem) :=
bnd (F_M_cell a1 a2 (10 : Int32) (-a3) m0) fun xq3 mq1 =>
ckB (inb xq3 42900) <|
lt (gI mq1 87 xq3.toNatClampNeg) fun xq5 =>
lt (sI mq1 78 23 xq5) fun mq6 =>
bnd (F_M_cell a1 a2 (10 : Int32) (-a3) mq6) fun xq9 mq7 =>
ckB (inb xq9 42900) <|
lt (gI mq7 86 xq9.toNatClampNeg) fun xq11 =>
lt (sI mq7 78 24 xq11) fun mq12 =>
some ((), mq12)
def F_M_tries (a1 : Int32) (a2 : Int32) (a3 : Int32) (a4 : Int32) (m0 : Mem) : Option (Unit × Mem) :=
if a2 ≤ (3 : Int32) then (
bnd (F_M_mayDeclare a2 a3 m0) fun zq3 mq1 =>
if zq3 = true then (
bnd (F_M_nextKind a2 mq1) fun xq12 mq10 =>
bnd (F_M_handsOver a1 xq12 a4 mq10) fun _ mq13 =>
some ((), mq13)) else (
bnd (F_M_mayFollow a2 a3 a4 mq1) fun zq6 mq4 =>
if zq6 = true then (
bnd (F_M_handsOver a1 (3 : Int32) a4 mq4) fun _ mq7 =>
some ((), mq7)) else (
some ((), mq4)))) else (
bnd (F_M_goesOn a1 a2 a3 a4 true m0) fun _ mq16 =>
some ((), mq16))
def F_M_chooses (a1 : Int32) (a2 : Int32) (a3 : Int32) (a4 : Int32) (m0 : Mem) : Option (Bool × Mem) :=
lt (gI m0 78 23 : Int32) fun xq1 =>
lt (gI m0 78 24 : Int32) fun xq2 =>
bnd (F_M_got a1 m0) fun yq5 mq3 =>
bnd (F_M_tries a1 a2 a3 a4 mq3) fun _ mq6 =>
bnd (F_M_got a1 mq6) fun yq11 mq9 =>
if yq11 ≤ yq5 then (
lt (sI mq9 78 23 xq1) fun mq12 =>
lt (sI mq12 78 24 xq2) fun mq13 =>
some (false, mq13)) else (
some (true, mq9))
def F_M_counts (a1 : Int32) (a2 : Int32) (a3 : Int32) (a4 : Int32) (m0 : Mem) : Option (Unit × Mem) :=
lt (fun (mq1 : Mem) => ((bnd (F_M_goesOn a1 a2 a3 a4 false mq1) fun _ mq2 =>
if (gZ mq2 78 22) = true then (
some ((), mq2)) else (
bnd (F_M_chooses a1 a2 a3 a4 mq2) fun zq7 mq5 =>
some ((), mq5))) : Option (Unit × Mem))) fun k25_1 =>
if a2 ≤ (3 : Int32) then (
k25_1 m0) else (
if a4 ≤ 0 then (
k25_1 m0) else (
bnd (F_M_all a1 m0) fun xq10 mq8 =>
lt (sI mq8 78 23 xq10) fun mq11 =>
lt (sI mq11 78 24 (0 : Int32)) fun mq12 =>
some ((), mq12)))
def F_M_layers_L71 (xq10 : Int32) (xq16 : Int32) (xq20 : Int32) (xq26 : Int32) (k136_30 : Mem → Option (Unit × Mem)) : Nat → Int32 → Mem → Option (Unit × Mem)
  | 0, _, _ => none
  | nfq34 + 1, xq33, mq32 =>
    if xq16 < xq33 then (
    k136_30 mq32) else (
    bnd (F_M_counts xq10 xq20 xq26 xq33 mq32) fun _ mq36 =>
    bnd (F_M_cell xq10 xq20 xq26 xq33 mq36) fun xq41 mq39 =>
    ckB (inb xq41 42900) <|
    lt (sI mq39 86 xq41.toNatClampNeg (gI mq39 78 23)) fun mq42 =>
    bnd (F_M_cell xq10 xq20 xq26 xq33 mq42) fun xq46 mq44 =>
    ckB (inb xq46 42900) <|
    lt (sI mq44 87 xq46.toNatClampNeg (gI mq44 78 24)) fun mq47 =>
    lt (xq33 + (1 : Int32) : Int32) fun xq49 =>
    F_M_layers_L71 xq10 xq16 xq20 xq26 k136_30 nfq34 xq49 mq47)
def F_M_layers_L59 (xq10 : Int32) (xq16 : Int32) (xq20 : Int32) (k142_23 : Mem → Option (Unit × Mem)) : Nat → Int32 → Mem → Option (Unit × Mem)
  | 0, _, _ => none
  | nfq27 + 1, xq26, mq25 =>
    if (10 : Int32) < xq26 then (
    k142_23 mq25) else (
    lt (-xq16 : Int32) fun xq29 =>
    lt (fun (mq30 : Mem) => ((lt (xq26 + (1 : Int32) : Int32) fun xq31 =>
    F_M_layers_L59 xq10 xq16 xq20 k142_23 nfq27 xq31 mq30) : Option (Unit × Mem))) fun k136_30 =>
    F_M_layers_L71 xq10 xq16 xq20 xq26 k136_30 1000000 xq29 mq25)
def F_M_layers_L51 (xq10 : Int32) (xq16 : Int32) (k148_17 : Mem → Option (Unit × Mem)) : Nat → Int32 → Mem → Option (Unit × Mem)
  | 0, _, _ => none
  | nfq21 + 1, xq20, mq19 =>
    if xq20 < 0 then (
    k148_17 mq19) else (
    lt (fun (mq23 : Mem) => ((lt (xq20 + (-1 : Int32) : Int32) fun xq24 =>
    F_M_layers_L51 xq10 xq16 k148_17 nfq21 xq24 mq23) : Option (Unit × Mem))) fun k142_23 =>
    F_M_layers_L59 xq10 xq16 xq20 k142_23 1000000 (0 : Int32) mq19)
def F_M_layers_L19 (a2 : Int32) (a3 : Int32) (xq4 : Int32) : Nat → Int32 → Mem → Option (Unit × Mem)
  | 0, _, _ => none
  | nfq11 + 1, xq10, mq9 =>
    if xq10 < a2 then (
    some ((), mq9)) else (
    bnd (F_M_laysLevels xq10 mq9) fun _ mq13 =>
    lt (mnI (162 : Int32) (a3 + (xq4 * (xq10 - a2))) : Int32) fun xq16 =>
    lt (fun (mq17 : Mem) => ((lt (xq10 + (-1 : Int32) : Int32) fun xq18 =>
    F_M_layers_L19 a2 a3 xq4 nfq11 xq18 mq17) : Option (Unit × Mem))) fun k148_17 =>
    F_M_layers_L51 xq10 xq16 k148_17 1000000 (5 : Int32) mq13)
def F_M_layers (a1 : Int32) (a2 : Int32) (a3 : Int32) (m0 : Mem) : Option (Unit × Mem) :=
lt (sI m0 78 20 a1) fun mq1 =>
bnd (F_M_mostRuns mq1) fun xq4 mq2 =>
bnd (F_M_size mq2) fun xq7 mq5 =>
lt (xq7 - (1 : Int32) : Int32) fun xq8 =>
F_M_layers_L19 a2 a3 xq4 1000000 xq8 mq5
def F_M_kindOf (a0 : Int32) (a1 : Bool) (m0 : Mem) : Option (Int32 × Mem) :=
if (2 : Int32) ≤ a0 then (
if a0 = (2 : Int32) then (
if a1 = true then (
some ((3 : Int32), m0)) else (
some ((2 : Int32), m0))) else (
if a1 = true then (
some ((5 : Int32), m0)) else (
some ((4 : Int32), m0)))) else (
some (a0, m0))
def F_M_kindNow (m0 : Mem) : Option (Int32 × Mem) :=
bnd (F_M_isFollowed m0) fun zq3 mq1 =>
bnd (F_M_kindOf (gI m0 79 11) zq3 mq1) fun xq6 mq4 =>
some (xq6, mq4)
def F_M_outNow (m0 : Mem) : Option (Int32 × Mem) :=
if (gI m0 79 14) = (1 : Int32) then (
some ((10 : Int32), m0)) else (
some (gI m0 79 13, m0))
def F_M_countsAfter (a1 : Int32) (m0 : Mem) : Option (Unit × Mem) :=
bnd (F_M_played m0) fun xq3 mq1 =>
bnd (F_M_batter mq1) fun xq6 mq4 =>
bnd (F_M_leadOf xq6 mq4) fun xq9 mq7 =>
lt (sI mq7 78 21 (gI mq7 79 2)) fun mq10 =>
bnd (F_M_firstSide mq10) fun xq13 mq11 =>
bnd (F_M_mostRuns mq11) fun xq16 mq14 =>
bnd (F_M_layers xq13 (xq3 + (1 : Int32)) ((abI xq9) + xq16) mq14) fun _ mq17 =>
bnd (F_M_laysLevels xq3 mq17) fun _ mq20 =>
lt (sI mq20 78 23 (0 : Int32)) fun mq23 =>
lt (sI mq23 78 24 (0 : Int32)) fun mq24 =>
bnd (F_M_kindNow mq24) fun xq27 mq25 =>
bnd (F_M_outNow mq25) fun xq30 mq28 =>
bnd (F_M_brings xq3 xq27 xq30 xq9 a1 false mq28) fun _ mq31 =>
some ((), mq31)
def F_M_waysOf (a1 : Int32) (a2 : Int32) (a3 : Int32) (m0 : Mem) : Option (Int64 × Mem) :=
lt (fun (xq2 : Int32) (mq1 : Mem) => ((lt (fun (xq4 : Int32) (mq3 : Mem) => ((if a1 = 0 then (
some (xq2.toInt64, mq3)) else (
if a1 = (1 : Int32) then (
some (xq4.toInt64, mq3)) else (
if a1 = (2 : Int32) then (
bnd (F_M_all a2 mq3) fun xq10 mq8 =>
some (((xq10 - xq2) - xq4).toInt64, mq8)) else (
bnd (F_M_all a2 mq3) fun xq7 mq5 =>
some (xq7.toInt64, mq5))))) : Option (Int64 × Mem))) fun k32_4 =>
if a3 = 0 then (
k32_4 (gI mq1 78 24) mq1) else (
k32_4 (gI mq1 78 23) mq1)) : Option (Int64 × Mem))) fun k15_2 =>
if a3 = 0 then (
k15_2 (gI m0 78 23) m0) else (
k15_2 (gI m0 78 24) m0)
def F_M_after_IIJ (a1 : Int32) (a2 : Int32) (m0 : Mem) : Option (Int64 × Mem) :=
lt (sI m0 78 0 (0 : Int32)) fun mq1 =>
bnd (F_M_noSlot a1 mq1) fun zq4 mq2 =>
bnd (F_M_throwsIf zq4 (1 : Int32) mq2) fun zq7 mq5 =>
if zq7 = true then (
some ((0 : Int64), mq5)) else (
bnd (F_M_isOn mq5) fun zq10 mq8 =>
lt (fun (zq12 : Bool) (mq11 : Mem) => ((bnd (F_M_throwsIf zq12 (2 : Int32) mq11) fun zq15 mq13 =>
if zq15 = true then (
some ((0 : Int64), mq13)) else (
bnd (F_M_in a2 (0 : Int32) (3 : Int32) mq13) fun zq18 mq16 =>
lt (fun (zq20 : Bool) (mq19 : Mem) => ((bnd (F_M_throwsIf zq20 (3 : Int32) mq19) fun zq23 mq21 =>
if zq23 = true then (
some ((0 : Int64), mq21)) else (
bnd (F_M_countsAfter a1 mq21) fun _ mq24 =>
bnd (F_M_played mq24) fun xq29 mq27 =>
bnd (F_M_batter mq27) fun xq32 mq30 =>
bnd (F_M_waysOf a2 (xq29 + (1 : Int32)) xq32 mq30) fun yq35 mq33 =>
some (yq35, mq33))) : Option (Int64 × Mem))) fun k52_20 =>
if zq18 = true then (
k52_20 false mq16) else (
k52_20 true mq16))) : Option (Int64 × Mem))) fun k30_12 =>
if zq10 = true then (
k30_12 false mq8) else (
k30_12 true mq8))
def F_M_remembers_L55  : Nat → Int32 → Mem → Option (Unit × Mem)
  | 0, _, _ => none
  | nfq4 + 1, xq3, mq2 =>
    if (298 : Int32) ≤ xq3 then (
    some ((), mq2)) else (
    lt (((298 : Int32) * ((gI mq2 78 6) - (1 : Int32))) + xq3 : Int32) fun xq6 =>
    ckB (inb xq3 1972) <|
    lt (gI mq2 79 xq3.toNatClampNeg) fun xq8 =>
    ckB (inb xq6 3576) <|
    lt (sI mq2 82 xq6.toNatClampNeg xq8) fun mq9 =>
    lt (xq3 + (1 : Int32) : Int32) fun xq11 =>
    F_M_remembers_L55 nfq4 xq11 mq9)
def F_M_remembers_L11 (k40_13 : Mem → Option (Unit × Mem)) : Nat → Int32 → Mem → Option (Unit × Mem)
  | 0, _, _ => none
  | nfq16 + 1, xq15, mq14 =>
    if (3278 : Int32) ≤ xq15 then (
    k40_13 mq14) else (
    ckB (inb (xq15 + (298 : Int32)) 3576) <|
    lt (gI mq14 82 (xq15 + (298 : Int32)).toNatClampNeg) fun xq19 =>
    ckB (inb xq15 3576) <|
    lt (sI mq14 82 xq15.toNatClampNeg xq19) fun mq20 =>
    lt (xq15 + (1 : Int32) : Int32) fun xq22 =>
    F_M_remembers_L11 k40_13 nfq16 xq22 mq20)
def F_M_remembers (m0 : Mem) : Option (Unit × Mem) :=
lt (fun (mq1 : Mem) => ((F_M_remembers_L55 1000000 (0 : Int32) mq1) : Option (Unit × Mem))) fun k53_1 =>
if (gI m0 78 6) = (12 : Int32) then (
lt (fun (mq13 : Mem) => ((k53_1 mq13) : Option (Unit × Mem))) fun k40_13 =>
F_M_remembers_L11 k40_13 1000000 (0 : Int32) m0) else (
lt (sI m0 78 6 ((gI m0 78 6) + (1 : Int32))) fun mq12 =>
k53_1 mq12)
def F_M_anew_L56 (xq7 : Int32) : Nat → Int32 → Mem → Option (Int32 × Mem)
  | 0, _, _ => none
  | nfq13 + 1, xq12, mq11 =>
    if (298 : Int32) ≤ xq12 then (
    some (xq7, mq11)) else (
    ckB (inb xq12 1972) <|
    lt (sI mq11 79 xq12.toNatClampNeg (0 : Int32)) fun mq15 =>
    lt (xq12 + (1 : Int32) : Int32) fun xq17 =>
    F_M_anew_L56 xq7 nfq13 xq17 mq15)
def F_M_anew_L17 (k36_8 : Mem → Option (Int32 × Mem)) : Nat → Int32 → Mem → Option (Int32 × Mem)
  | 0, _, _ => none
  | nfq20 + 1, xq19, mq18 =>
    if (19 : Int32) ≤ xq19 then (
    k36_8 mq18) else (
    ckB (inb xq19 1972) <|
    lt (sI mq18 79 xq19.toNatClampNeg (0 : Int32)) fun mq22 =>
    lt (xq19 + (1 : Int32) : Int32) fun xq24 =>
    F_M_anew_L17 k36_8 nfq20 xq24 mq22)
def F_M_anew (m0 : Mem) : Option (Int32 × Mem) :=
lt (sI m0 78 0 (0 : Int32)) fun mq1 =>
bnd (F_M_remembers mq1) fun _ mq2 =>
bnd (F_M_played mq2) fun xq7 mq5 =>
lt (fun (mq8 : Mem) => ((lt (sI mq8 79 10 (-1 : Int32)) fun mq9 =>
lt (sI mq9 79 18 (-1 : Int32)) fun mq10 =>
F_M_anew_L56 xq7 1000000 (235 : Int32) mq10) : Option (Int32 × Mem))) fun k36_8 =>
F_M_anew_L17 k36_8 1000000 (10 : Int32) mq5
def F_M_back_L16 (k41_2 : Mem → Option (Bool × Mem)) : Nat → Int32 → Mem → Option (Bool × Mem)
  | 0, _, _ => none
  | nfq6 + 1, xq5, mq4 =>
    if (1135 : Int32) ≤ xq5 then (
    k41_2 mq4) else (
    ckB (inb xq5 1135) <|
    lt (gI mq4 80 xq5.toNatClampNeg) fun xq9 =>
    ckB (inb xq5 1972) <|
    lt (sI mq4 79 xq5.toNatClampNeg xq9) fun mq10 =>
    lt (xq5 + (1 : Int32) : Int32) fun xq12 =>
    F_M_back_L16 k41_2 nfq6 xq12 mq10)
def F_M_back (m0 : Mem) : Option (Bool × Mem) :=
lt (sI m0 78 0 (0 : Int32)) fun mq1 =>
if (gZ mq1 78 5) = true then (
lt (fun (mq2 : Mem) => ((lt (sI mq2 78 6 (0 : Int32)) fun mq3 =>
some (true, mq3)) : Option (Bool × Mem))) fun k41_2 =>
F_M_back_L16 k41_2 1000000 (0 : Int32) mq1) else (
some (false, mq1))
def F_M_uses (m0 : Mem) : Option (Unit × Mem) :=
lt (sI m0 78 0 (0 : Int32)) fun mq1 =>
lt (sI mq1 78 10 (gI mq1 78 8)) fun mq2 =>
lt (sI mq2 78 8 (0 : Int32)) fun mq3 =>
lt (sI mq3 78 9 (0 : Int32)) fun mq4 =>
some ((), mq4)
def F_M_readSigns_L21  : Nat → Bool → Int32 → Mem → Option (Bool × Mem)
  | 0, _, _, _ => none
  | nfq10 + 1, zq8, xq9, mq7 =>
    if (gI mq7 78 10) ≤ xq9 then (
    some (zq8, mq7)) else (
    lt (fun (zq13 : Bool) (mq12 : Mem) => ((lt (xq9 + (1 : Int32) : Int32) fun xq14 =>
    F_M_readSigns_L21 nfq10 zq13 xq14 mq12) : Option (Bool × Mem))) fun k63_13 =>
    lt (fun (mq15 : Mem) => ((k63_13 false mq15) : Option (Bool × Mem))) fun k62_15 =>
    if zq8 = true then (
    ckB (inb xq9 400) <|
    lt (gI mq7 83 xq9.toNatClampNeg) fun xq17 =>
    lt (fun (xq19 : Int32) (mq18 : Mem) => ((bnd (F_M_in xq17 (0 : Int32) xq19 mq18) fun zq22 mq20 =>
    if zq22 = true then (
    k63_13 true mq20) else (
    k62_15 mq20)) : Option (Bool × Mem))) fun k52_19 =>
    if (xq9 - xq9 / (4 : Int32) * (4 : Int32)) = (3 : Int32) then (
    k52_19 (1 : Int32) mq7) else (
    k52_19 (3 : Int32) mq7)) else (
    k62_15 mq7))
def F_M_readSigns (m0 : Mem) : Option (Bool × Mem) :=
bnd (F_M_uses m0) fun _ mq1 =>
lt ((gI mq1 78 10) - (gI mq1 78 10) / (4 : Int32) * (4 : Int32) : Int32) fun xq4 =>
lt (fun (zq6 : Bool) (mq5 : Mem) => ((F_M_readSigns_L21 1000000 zq6 (0 : Int32) mq5) : Option (Bool × Mem))) fun k18_6 =>
if xq4 = 0 then (
k18_6 true mq1) else (
k18_6 false mq1)
def F_M_mornings_L6 (a1 : Int32) (a2 : Int32) (a3 : Int32) (a4 : Int32) (a5 : Bool) : Nat → Int32 → Int32 → Mem → Option (Int32 × Mem)
  | 0, _, _, _ => none
  | nfq4 + 1, xq2, xq3, mq1 =>
    if (gI mq1 78 10) ≤ xq3 then (
    some (xq2, mq1)) else (
    ckB (inb (xq3 + a1) 400) <|
    lt (gI mq1 83 (xq3 + a1).toNatClampNeg) fun xq7 =>
    lt (fun (zq9 : Bool) (mq8 : Mem) => ((lt (xq2 + (b2i zq9) : Int32) fun xq10 =>
    lt (xq3 + (4 : Int32) : Int32) fun xq11 =>
    F_M_mornings_L6 a1 a2 a3 a4 a5 nfq4 xq10 xq11 mq8) : Option (Int32 × Mem))) fun k71_9 =>
    lt (fun (mq12 : Mem) => ((k71_9 false mq12) : Option (Int32 × Mem))) fun k70_12 =>
    if xq7 = a2 then (
    lt (fun (mq13 : Mem) => ((lt (fun (mq14 : Mem) => ((k71_9 true mq14) : Option (Int32 × Mem))) fun k66_14 =>
    if a5 = true then (
    ckB (inb (xq3 + (3 : Int32)) 400) <|
    lt (gI mq13 83 (xq3 + (3 : Int32)).toNatClampNeg) fun xq16 =>
    if xq16 = (1 : Int32) then (
    k66_14 mq13) else (
    k70_12 mq13)) else (
    k66_14 mq13)) : Option (Int32 × Mem))) fun k48_13 =>
    if a3 < 0 then (
    k48_13 mq1) else (
    ckB (inb (xq3 + a3) 400) <|
    lt (gI mq1 83 (xq3 + a3).toNatClampNeg) fun xq18 =>
    if xq18 = a4 then (
    k48_13 mq1) else (
    k70_12 mq1))) else (
    k70_12 mq1))
def F_M_mornings (a1 : Int32) (a2 : Int32) (a3 : Int32) (a4 : Int32) (a5 : Bool) (m0 : Mem) : Option (Int32 × Mem) :=
F_M_mornings_L6 a1 a2 a3 a4 a5 1000000 (0 : Int32) (0 : Int32) m0
def F_M_rightBy_L14 (a1 : Int32) (a2 : Int32) (xq3 : Int32) (k69_7 : Int32 → Mem → Option (Int32 × Mem)) : Nat → Int32 → Int32 → Mem → Option (Int32 × Mem)
  | 0, _, _, _ => none
  | nfq12 + 1, xq10, xq11, mq9 =>
    lt (fun (xq15 : Int32) (mq14 : Mem) => ((if xq15 ≤ xq11 then (
    k69_7 xq10 mq14) else (
    bnd (F_M_mornings a1 xq3 a2 xq11 true mq14) fun xq18 mq16 =>
    bnd (F_M_mornings a1 xq3 a2 xq11 false mq16) fun xq21 mq19 =>
    lt (xq10 + (mxI xq18 (xq21 - xq18)) : Int32) fun xq22 =>
    lt (xq11 + (1 : Int32) : Int32) fun xq23 =>
    F_M_rightBy_L14 a1 a2 xq3 k69_7 nfq12 xq22 xq23 mq19)) : Option (Int32 × Mem))) fun k25_15 =>
    if 0 ≤ a2 then (
    k25_15 (4 : Int32) mq9) else (
    k25_15 (1 : Int32) mq9)
def F_M_rightBy_L5 (a1 : Int32) (a2 : Int32) : Nat → Int32 → Int32 → Mem → Option (Int32 × Mem)
  | 0, _, _, _ => none
  | nfq4 + 1, xq2, xq3, mq1 =>
    if (4 : Int32) ≤ xq3 then (
    some (xq2, mq1)) else (
    lt (fun (xq7 : Int32) (mq6 : Mem) => ((lt (xq3 + (1 : Int32) : Int32) fun xq8 =>
    F_M_rightBy_L5 a1 a2 nfq4 xq7 xq8 mq6) : Option (Int32 × Mem))) fun k69_7 =>
    F_M_rightBy_L14 a1 a2 xq3 k69_7 1000000 xq2 (0 : Int32) mq1)
def F_M_rightBy (a1 : Int32) (a2 : Int32) (m0 : Mem) : Option (Int32 × Mem) :=
F_M_rightBy_L5 a1 a2 1000000 (0 : Int32) (0 : Int32) m0
def F_M_best_L33 (a1 : Bool) (k109_11 : Int32 → Int32 → Mem → Option (Int32 × Mem)) : Nat → Int32 → Int32 → Int32 → Mem → Option (Int32 × Mem)
  | 0, _, _, _, _ => none
  | nfq16 + 1, xq13, xq14, xq15, mq12 =>
    if (3 : Int32) ≤ xq15 then (
    k109_11 xq13 xq14 mq12) else (
    lt (fun (xq19 : Int32) (mq18 : Mem) => ((lt (fun (xq21 : Int32) (xq22 : Int32) (mq20 : Mem) => ((lt (xq15 + (1 : Int32) : Int32) fun xq23 =>
    F_M_best_L33 a1 k109_11 nfq16 xq21 xq22 xq23 mq20) : Option (Int32 × Mem))) fun k103_22 =>
    lt (fun (mq24 : Mem) => ((k103_22 xq15 xq19 mq24) : Option (Int32 × Mem))) fun k95_24 =>
    if xq13 < 0 then (
    k95_24 mq18) else (
    if xq14 < xq19 then (
    k95_24 mq18) else (
    k103_22 xq13 xq14 mq18))) : Option (Int32 × Mem))) fun k78_19 =>
    if a1 = true then (
    lt (fun (zq26 : Bool) (mq25 : Mem) => ((lt (fun (xq28 : Int32) (mq27 : Mem) => ((bnd (F_M_rightBy (b2i zq26) xq28 mq27) fun xq31 mq29 =>
    k78_19 xq31 mq29) : Option (Int32 × Mem))) fun k75_28 =>
    if xq15 = 0 then (
    k75_28 (1 : Int32) mq25) else (
    k75_28 (2 : Int32) mq25)) : Option (Int32 × Mem))) fun k65_26 =>
    if xq15 = (2 : Int32) then (
    k65_26 true mq12) else (
    k65_26 false mq12)) else (
    bnd (F_M_rightBy xq15 (-1 : Int32) mq12) fun xq34 mq32 =>
    k78_19 xq34 mq32))
def F_M_best (a1 : Bool) (a2 : Bool) (m0 : Mem) : Option (Int32 × Mem) :=
bnd (F_M_readSigns m0) fun zq3 mq1 =>
lt (fun (zq5 : Bool) (mq4 : Mem) => ((bnd (F_M_throwsIf zq5 (1 : Int32) mq4) fun zq8 mq6 =>
if zq8 = true then (
some ((0 : Int32), mq6)) else (
lt (fun (xq10 : Int32) (xq11 : Int32) (mq9 : Mem) => ((if a2 = true then (
some (xq11, mq9)) else (
some (xq10, mq9))) : Option (Int32 × Mem))) fun k109_11 =>
F_M_best_L33 a1 k109_11 1000000 (-1 : Int32) (0 : Int32) (0 : Int32) mq6)) : Option (Int32 × Mem))) fun k15_5 =>
if zq3 = true then (
k15_5 false mq1) else (
k15_5 true mq1)
def F_M_takes (a1 : Int32) (a2 : Int32) (a3 : Int32) (a4 : Int32) (m0 : Mem) : Option (Unit × Mem) :=
bnd (F_M_cell a1 a2 a3 a4 m0) fun xq3 mq1 =>
ckB (inb xq3 42900) <|
lt (gI mq1 86 xq3.toNatClampNeg) fun xq5 =>
lt (sI mq1 78 23 xq5) fun mq6 =>
bnd (F_M_cell a1 a2 a3 a4 mq6) fun xq9 mq7 =>
ckB (inb xq9 42900) <|
lt (gI mq7 87 xq9.toNatClampNeg) fun xq11 =>
lt (sI mq7 78 24 xq11) fun mq12 =>
some ((), mq12)
def F_M_countsNow (m0 : Mem) : Option (Unit × Mem) :=
lt (sI m0 78 21 (gI m0 79 2)) fun mq1 =>
bnd (F_M_isOver mq1) fun zq4 mq2 =>
if zq4 = true then (
lt (fun (xq33 : Int32) (mq32 : Mem) => ((lt (sI mq32 78 23 xq33) fun mq34 =>
lt (fun (xq36 : Int32) (mq35 : Mem) => ((lt (sI mq35 78 24 xq36) fun mq37 =>
some ((), mq37)) : Option (Unit × Mem))) fun k67_36 =>
if (gI mq34 79 18) = (1 : Int32) then (
bnd (F_M_played mq34) fun xq40 mq38 =>
bnd (F_M_all xq40 mq38) fun xq43 mq41 =>
k67_36 xq43 mq41) else (
k67_36 (0 : Int32) mq34)) : Option (Unit × Mem))) fun k40_33 =>
if (gI mq2 79 18) = 0 then (
bnd (F_M_played mq2) fun xq46 mq44 =>
bnd (F_M_all xq46 mq44) fun xq49 mq47 =>
k40_33 xq49 mq47) else (
k40_33 (0 : Int32) mq2)) else (
bnd (F_M_batter mq2) fun xq7 mq5 =>
bnd (F_M_leadOf xq7 mq5) fun xq10 mq8 =>
bnd (F_M_firstSide mq8) fun xq13 mq11 =>
bnd (F_M_played mq11) fun xq16 mq14 =>
bnd (F_M_layers xq13 xq16 (abI xq10) mq14) fun _ mq17 =>
bnd (F_M_played mq17) fun xq22 mq20 =>
bnd (F_M_kindNow mq20) fun xq25 mq23 =>
bnd (F_M_outNow mq23) fun xq28 mq26 =>
bnd (F_M_takes xq22 xq25 xq28 xq10 mq26) fun _ mq29 =>
some ((), mq29))
def F_M_blind (a1 : Int32) (m0 : Mem) : Option (Int64 × Mem) :=
lt (sI m0 78 0 (0 : Int32)) fun mq1 =>
bnd (F_M_firstSide mq1) fun xq4 mq2 =>
lt (fun (zq6 : Bool) (mq5 : Mem) => ((bnd (F_M_throwsIf zq6 (1 : Int32) mq5) fun zq9 mq7 =>
if zq9 = true then (
some ((0 : Int64), mq7)) else (
bnd (F_M_in a1 (0 : Int32) (3 : Int32) mq7) fun zq12 mq10 =>
lt (fun (zq14 : Bool) (mq13 : Mem) => ((bnd (F_M_throwsIf zq14 (2 : Int32) mq13) fun zq17 mq15 =>
if zq17 = true then (
some ((0 : Int64), mq15)) else (
lt (sZ mq15 78 22 true) fun mq18 =>
bnd (F_M_countsNow mq18) fun _ mq19 =>
lt (sZ mq19 78 22 false) fun mq22 =>
bnd (F_M_played mq22) fun xq25 mq23 =>
bnd (F_M_isOver mq23) fun zq28 mq26 =>
lt (fun (xq30 : Int32) (mq29 : Mem) => ((bnd (F_M_waysOf a1 xq25 xq30 mq29) fun yq33 mq31 =>
some (yq33, mq31)) : Option (Int64 × Mem))) fun k84_30 =>
if zq28 = true then (
k84_30 (0 : Int32) mq26) else (
bnd (F_M_batter mq26) fun xq36 mq34 =>
k84_30 xq36 mq34))) : Option (Int64 × Mem))) fun k40_14 =>
if zq12 = true then (
k40_14 false mq10) else (
k40_14 true mq10))) : Option (Int64 × Mem))) fun k18_6 =>
if 0 ≤ xq4 then (
k18_6 false mq2) else (
k18_6 true mq2)
def F_M_ofBook (a1 : Int32) (a2 : Int32) (m0 : Mem) : Option (Int32 × Mem) :=
ckB (inb (((55 : Int32) + ((3 : Int32) * a1)) + a2) 1972) <|
lt (gI m0 79 (((55 : Int32) + ((3 : Int32) * a1)) + a2).toNatClampNeg) fun xq2 =>
some (xq2, m0)
def F_M_isSuch (a1 : Int32) (a2 : Int32) (m0 : Mem) : Option (Bool × Mem) :=
bnd (F_M_ofBook a1 (0 : Int32) m0) fun xq3 mq1 =>
bnd (F_M_ofBook a1 (1 : Int32) mq1) fun xq6 mq4 =>
bnd (F_M_ofBook a1 (2 : Int32) mq4) fun xq9 mq7 =>
if a2 = 1 then (
if xq6 = xq3 then (
some (true, mq7)) else (
some (false, mq7))) else (
if a2 = 2 then (
if xq6 = xq3 then (
if xq9 = xq3 then (
some (true, mq7)) else (
some (false, mq7))) else (
some (false, mq7))) else (
if a2 = 3 then (
if xq9 = xq6 then (
some (true, mq7)) else (
some (false, mq7))) else (
if a2 = 4 then (
if xq9 = xq3 then (
some (true, mq7)) else (
some (false, mq7))) else (
if a2 = 5 then (
if xq9 = (2 : Int32) then (
some (true, mq7)) else (
some (false, mq7))) else (
some (true, mq7))))))
def F_M_bookOf_L4 (a1 : Int32) : Nat → Int32 → Int32 → Mem → Option (Int32 × Mem)
  | 0, _, _, _ => none
  | nfq4 + 1, xq2, xq3, mq1 =>
    if (gI mq1 79 5) ≤ xq3 then (
    some (xq2, mq1)) else (
    bnd (F_M_isSuch xq3 a1 mq1) fun zq8 mq6 =>
    lt (fun (zq10 : Bool) (mq9 : Mem) => ((lt (xq2 + (b2i zq10) : Int32) fun xq11 =>
    lt (xq3 + (1 : Int32) : Int32) fun xq12 =>
    F_M_bookOf_L4 a1 nfq4 xq11 xq12 mq9) : Option (Int32 × Mem))) fun k29_10 =>
    if zq8 = true then (
    k29_10 true mq6) else (
    k29_10 false mq6))
def F_M_bookOf (a1 : Int32) (m0 : Mem) : Option (Int32 × Mem) :=
F_M_bookOf_L4 a1 1000000 (0 : Int32) (0 : Int32) m0
def F_M_book (a1 : Int32) (m0 : Mem) : Option (Int32 × Mem) :=
lt (sI m0 78 0 (0 : Int32)) fun mq1 =>
bnd (F_M_in a1 (0 : Int32) (5 : Int32) mq1) fun zq4 mq2 =>
lt (fun (zq6 : Bool) (mq5 : Mem) => ((bnd (F_M_throwsIf zq6 (1 : Int32) mq5) fun zq9 mq7 =>
if zq9 = true then (
some ((0 : Int32), mq7)) else (
bnd (F_M_bookOf a1 mq7) fun xq12 mq10 =>
some (xq12, mq10))) : Option (Int32 × Mem))) fun k20_6 =>
if zq4 = true then (
k20_6 false mq2) else (
k20_6 true mq2)
def F_M_nextInnings (m0 : Mem) : Option (Unit × Mem) :=
lt (sI m0 79 11 ((gI m0 79 11) + (1 : Int32))) fun mq1 =>
lt (fun (mq2 : Mem) => ((lt (sI mq2 79 13 (0 : Int32)) fun mq3 =>
lt (sI mq3 79 14 (1 : Int32)) fun mq4 =>
if (gI mq4 79 11) = (3 : Int32) then (
bnd (F_M_batter mq4) fun xq7 mq5 =>
bnd (F_M_leadOf xq7 mq5) fun xq10 mq8 =>
if xq10 ≤ 0 then (
some ((), mq8)) else (
bnd (F_M_batter mq8) fun xq13 mq11 =>
lt (sI mq11 79 18 xq13) fun mq14 =>
some ((), mq14))) else (
some ((), mq4))) : Option (Unit × Mem))) fun k30_2 =>
if (gI mq1 79 11) = (2 : Int32) then (
lt (sI mq1 79 12 (0 : Int32)) fun mq15 =>
k30_2 mq15) else (
k30_2 mq1)
def F_M_settles (m0 : Mem) : Option (Unit × Mem) :=
bnd (F_M_batter m0) fun xq3 mq1 =>
bnd (F_M_leadOf xq3 mq1) fun xq6 mq4 =>
lt (fun (mq7 : Mem) => ((bnd (F_M_isOver mq7) fun zq10 mq8 =>
if zq10 = true then (
some ((), mq8)) else (
bnd (F_M_played mq8) fun xq13 mq11 =>
bnd (F_M_size mq11) fun xq16 mq14 =>
if xq13 = xq16 then (
lt (sI mq14 79 18 (2 : Int32)) fun mq17 =>
some ((), mq17)) else (
some ((), mq14)))) : Option (Unit × Mem))) fun k86_7 =>
if (gI mq4 79 11) = (3 : Int32) then (
if xq6 ≤ 0 then (
if (gI mq4 79 13) = (10 : Int32) then (
lt (fun (xq22 : Int32) (mq21 : Mem) => ((lt (sI mq21 79 18 xq22) fun mq23 =>
k86_7 mq23) : Option (Unit × Mem))) fun k66_22 =>
if xq6 = 0 then (
k66_22 (2 : Int32) mq4) else (
k66_22 ((1 : Int32) - xq3) mq4)) else (
k86_7 mq4)) else (
lt (sI mq4 79 18 xq3) fun mq24 =>
k86_7 mq24)) else (
if (gI mq4 79 13) = (10 : Int32) then (
bnd (F_M_nextInnings mq4) fun _ mq18 =>
k86_7 mq18) else (
k86_7 mq4))
def F_M_plays (a1 : Int32) (a2 : Bool) (m0 : Mem) : Option (Int32 × Mem) :=
bnd (F_M_played m0) fun xq3 mq1 =>
bnd (F_M_batter mq1) fun xq6 mq4 =>
bnd (F_M_levelOf xq3 (gI mq4 79 11) xq6 mq4) fun xq9 mq7 =>
lt (fun (xq11 : Int32) (mq10 : Mem) => ((bnd (F_M_isRain xq3 mq10) fun zq14 mq12 =>
lt (fun (xq16 : Int32) (mq15 : Mem) => ((lt ((15 : Int32) + xq6 : Int32) fun xq17 =>
ckB (inb xq17 1972) <|
lt (gI mq15 79 xq17.toNatClampNeg) fun xq19 =>
ckB (inb xq17 1972) <|
lt (sI mq15 79 xq17.toNatClampNeg (xq19 + xq11)) fun mq20 =>
lt (fun (zq23 : Bool) (mq22 : Mem) => ((lt ((gI mq20 79 13) + (mxI (0 : Int32) (xq16 - (b2i zq23))) : Int32) fun xq24 =>
lt (sI mq22 79 13 (mnI (10 : Int32) xq24)) fun mq25 =>
lt (sI mq25 79 14 (0 : Int32)) fun mq26 =>
bnd (F_M_leadOf xq6 mq26) fun xq29 mq27 =>
lt ((235 : Int32) + ((7 : Int32) * xq3) : Int32) fun xq30 =>
ckB (inb xq30 1972) <|
lt (sI mq27 79 xq30.toNatClampNeg (gI mq27 79 11)) fun mq31 =>
ckB (inb (xq30 + (1 : Int32)) 1972) <|
lt (sI mq31 79 (xq30 + (1 : Int32)).toNatClampNeg xq6) fun mq33 =>
ckB (inb (xq30 + (2 : Int32)) 1972) <|
lt (sI mq33 79 (xq30 + (2 : Int32)).toNatClampNeg xq9) fun mq35 =>
ckB (inb (xq30 + (3 : Int32)) 1972) <|
lt (sI mq35 79 (xq30 + (3 : Int32)).toNatClampNeg a1) fun mq37 =>
ckB (inb (xq30 + (4 : Int32)) 1972) <|
lt (sI mq37 79 (xq30 + (4 : Int32)).toNatClampNeg xq29) fun mq39 =>
ckB (inb (xq30 + (5 : Int32)) 1972) <|
lt (sI mq39 79 (xq30 + (5 : Int32)).toNatClampNeg (gI mq39 79 13)) fun mq41 =>
ckB (inb (xq30 + (6 : Int32)) 1972) <|
lt (sI mq41 79 (xq30 + (6 : Int32)).toNatClampNeg xq11) fun mq43 =>
lt (sI mq43 79 17 ((gI mq43 79 17) + (1 : Int32))) fun mq45 =>
bnd (F_M_settles mq45) fun _ mq46 =>
some (xq29, mq46)) : Option (Int32 × Mem))) fun k117_23 =>
if a2 = true then (
k117_23 true mq20) else (
k117_23 false mq20)) : Option (Int32 × Mem))) fun k73_16 =>
if zq14 = true then (
k73_16 (0 : Int32) mq12) else (
bnd (F_M_ofSlot xq9 a1 (1 : Int32) mq12) fun xq51 mq49 =>
k73_16 xq51 mq49)) : Option (Int32 × Mem))) fun k51_11 =>
lt (fun (mq52 : Mem) => ((k51_11 (0 : Int32) mq52) : Option (Int32 × Mem))) fun k39_52 =>
if a2 = true then (
k39_52 mq7) else (
bnd (F_M_isRain xq3 mq7) fun zq55 mq53 =>
if zq55 = true then (
k39_52 mq53) else (
bnd (F_M_ofSlot xq9 a1 (0 : Int32) mq53) fun xq58 mq56 =>
k51_11 xq58 mq56))
def F_M_bring (a1 : Int32) (m0 : Mem) : Option (Int32 × Mem) :=
lt (sI m0 78 0 (0 : Int32)) fun mq1 =>
bnd (F_M_noSlot a1 mq1) fun zq4 mq2 =>
bnd (F_M_throwsIf zq4 (1 : Int32) mq2) fun zq7 mq5 =>
if zq7 = true then (
some ((0 : Int32), mq5)) else (
bnd (F_M_isOn mq5) fun zq10 mq8 =>
lt (fun (zq12 : Bool) (mq11 : Mem) => ((bnd (F_M_throwsIf zq12 (2 : Int32) mq11) fun zq15 mq13 =>
if zq15 = true then (
some ((0 : Int32), mq13)) else (
bnd (F_M_remembers mq13) fun _ mq16 =>
bnd (F_M_plays a1 false mq16) fun xq21 mq19 =>
some (xq21, mq19))) : Option (Int32 × Mem))) fun k30_12 =>
if zq10 = true then (
k30_12 false mq8) else (
k30_12 true mq8))
def F_M_noPlayed (a1 : Int32) (m0 : Mem) : Option (Bool × Mem) :=
bnd (F_M_size m0) fun xq3 mq1 =>
bnd (F_M_in a1 (0 : Int32) xq3 mq1) fun zq6 mq4 =>
if zq6 = true then (
some (false, mq4)) else (
some (true, mq4))
def F_M_countsFrom (a1 : Int32) (a2 : Int32) (m0 : Mem) : Option (Unit × Mem) :=
lt (sI m0 78 21 (gI m0 79 2)) fun mq1 =>
bnd (F_M_layers (0 : Int32) a1 (abI a2) mq1) fun _ mq2 =>
bnd (F_M_size mq2) fun xq7 mq5 =>
if xq7 ≤ a1 then (
some ((), mq5)) else (
bnd (F_M_laysLevels a1 mq5) fun _ mq8 =>
some ((), mq8))
def F_M_chased_L41 (a1 : Int32) : Nat → Int32 → Mem → Option (Int32 × Mem)
  | 0, _, _ => none
  | nfq16 + 1, xq15, mq14 =>
    if xq15 < 0 then (
    some ((-1 : Int32), mq14)) else (
    bnd (F_M_takes a1 (4 : Int32) (0 : Int32) (-xq15) mq14) fun _ mq18 =>
    if (gI mq18 78 23) < (gI mq18 78 24) then (
    lt (xq15 + (-1 : Int32) : Int32) fun xq21 =>
    F_M_chased_L41 a1 nfq16 xq21 mq18) else (
    some (xq15, mq18)))
def F_M_chased (a1 : Int32) (m0 : Mem) : Option (Int32 × Mem) :=
lt (sI m0 78 0 (0 : Int32)) fun mq1 =>
bnd (F_M_noPlayed a1 mq1) fun zq4 mq2 =>
bnd (F_M_throwsIf zq4 (1 : Int32) mq2) fun zq7 mq5 =>
if zq7 = true then (
some ((0 : Int32), mq5)) else (
bnd (F_M_size mq5) fun xq10 mq8 =>
if a1 = xq10 then (
some ((81 : Int32), mq8)) else (
bnd (F_M_countsFrom a1 (81 : Int32) mq8) fun _ mq11 =>
F_M_chased_L41 a1 1000000 (81 : Int32) mq11))
def F_M_canHold (m0 : Mem) : Option (Bool × Mem) :=
bnd (F_M_isOn m0) fun zq3 mq1 =>
if zq3 = true then (
if (gI mq1 79 11) = (3 : Int32) then (
some (true, mq1)) else (
some (false, mq1))) else (
some (false, mq1))
def F_M_canFollow (m0 : Mem) : Option (Bool × Mem) :=
bnd (F_M_isOn m0) fun zq3 mq1 =>
if zq3 = true then (
if (gI mq1 79 11) = (2 : Int32) then (
if (gI mq1 79 14) = (1 : Int32) then (
bnd (F_M_isFollowed mq1) fun zq6 mq4 =>
if zq6 = true then (
some (false, mq4)) else (
bnd (F_M_firstSide mq4) fun xq9 mq7 =>
bnd (F_M_leadOf xq9 mq7) fun xq12 mq10 =>
if xq12 < (gI mq10 79 1) then (
some (false, mq10)) else (
some (true, mq10)))) else (
some (false, mq1))) else (
some (false, mq1))) else (
some (false, mq1))
def F_M_canDeclare (m0 : Mem) : Option (Bool × Mem) :=
bnd (F_M_isOn m0) fun zq3 mq1 =>
if zq3 = true then (
if (3 : Int32) ≤ (gI mq1 79 11) then (
some (false, mq1)) else (
if (gI mq1 79 14) = 0 then (
some (true, mq1)) else (
some (false, mq1)))) else (
some (false, mq1))
def F_M_canBe (a1 : Int32) (m0 : Mem) : Option (Bool × Mem) :=
if a1 = 0 then (
bnd (F_M_isOn m0) fun zq12 mq10 =>
some (zq12, mq10)) else (
if a1 = (1 : Int32) then (
bnd (F_M_canDeclare m0) fun zq9 mq7 =>
some (zq9, mq7)) else (
if a1 = (2 : Int32) then (
bnd (F_M_canFollow m0) fun zq6 mq4 =>
some (zq6, mq4)) else (
bnd (F_M_canHold m0) fun zq3 mq1 =>
some (zq3, mq1))))
def F_M_worthBy (a1 : Int32) (m0 : Mem) : Option (Int64 × Mem) :=
bnd (F_M_played m0) fun xq3 mq1 =>
bnd (F_M_batter mq1) fun xq6 mq4 =>
bnd (F_M_leadOf xq6 mq4) fun xq9 mq7 =>
lt (fun (mq10 : Mem) => ((bnd (F_M_got xq3 mq10) fun yq13 mq11 =>
some (yq13, mq11)) : Option (Int64 × Mem))) fun k72_10 =>
lt (fun (mq14 : Mem) => ((bnd (F_M_kindNow mq14) fun xq17 mq15 =>
bnd (F_M_outNow mq15) fun xq20 mq18 =>
lt (fun (zq22 : Bool) (mq21 : Mem) => ((bnd (F_M_goesOn xq3 xq17 xq20 xq9 zq22 mq21) fun _ mq23 =>
k72_10 mq23) : Option (Int64 × Mem))) fun k44_22 =>
if a1 = (3 : Int32) then (
k44_22 true mq18) else (
k44_22 false mq18)) : Option (Int64 × Mem))) fun k23_14 =>
if a1 = 0 then (
k23_14 mq7) else (
if a1 = (3 : Int32) then (
k23_14 mq7) else (
lt (fun (xq27 : Int32) (mq26 : Mem) => ((bnd (F_M_handsOver xq3 xq27 xq9 mq26) fun _ mq28 =>
k72_10 mq28) : Option (Int64 × Mem))) fun k68_27 =>
if a1 = (1 : Int32) then (
bnd (F_M_kindNow mq7) fun xq33 mq31 =>
bnd (F_M_nextKind xq33 mq31) fun xq36 mq34 =>
k68_27 xq36 mq34) else (
k68_27 (3 : Int32) mq7)))
def F_M_cost_L67 (k103_28 : Int64 → Mem → Option (Int64 × Mem)) : Nat → Int64 → Int32 → Mem → Option (Int64 × Mem)
  | 0, _, _, _ => none
  | nfq35 + 1, yq33, xq34, mq32 =>
    if (4 : Int32) ≤ xq34 then (
    k103_28 yq33 mq32) else (
    bnd (F_M_canBe xq34 mq32) fun zq39 mq37 =>
    lt (fun (yq41 : Int64) (mq40 : Mem) => ((lt (xq34 + (1 : Int32) : Int32) fun xq42 =>
    F_M_cost_L67 k103_28 nfq35 yq41 xq42 mq40) : Option (Int64 × Mem))) fun k96_41 =>
    if zq39 = true then (
    bnd (F_M_worthBy xq34 mq37) fun yq45 mq43 =>
    k96_41 (mxL yq33 yq45) mq43) else (
    k96_41 yq33 mq37))
def F_M_cost (a1 : Int32) (m0 : Mem) : Option (Int64 × Mem) :=
lt (sI m0 78 0 (0 : Int32)) fun mq1 =>
bnd (F_M_in a1 (0 : Int32) (3 : Int32) mq1) fun zq4 mq2 =>
lt (fun (zq6 : Bool) (mq5 : Mem) => ((bnd (F_M_throwsIf zq6 (1 : Int32) mq5) fun zq9 mq7 =>
if zq9 = true then (
some ((0 : Int64), mq7)) else (
bnd (F_M_canBe a1 mq7) fun zq12 mq10 =>
lt (fun (zq14 : Bool) (mq13 : Mem) => ((bnd (F_M_throwsIf zq14 (2 : Int32) mq13) fun zq17 mq15 =>
if zq17 = true then (
some ((0 : Int64), mq15)) else (
bnd (F_M_countsNow mq15) fun _ mq18 =>
bnd (F_M_played mq18) fun xq23 mq21 =>
bnd (F_M_laysLevels xq23 mq21) fun _ mq24 =>
lt (fun (yq28 : Int64) (mq27 : Mem) => ((bnd (F_M_worthBy a1 mq27) fun yq31 mq29 =>
some (yq28 - yq31, mq29)) : Option (Int64 × Mem))) fun k103_28 =>
F_M_cost_L67 k103_28 1000000 (0 : Int64) (0 : Int32) mq24)) : Option (Int64 × Mem))) fun k41_14 =>
if zq12 = true then (
k41_14 false mq10) else (
k41_14 true mq10))) : Option (Int64 × Mem))) fun k20_6 =>
if zq4 = true then (
k20_6 false mq2) else (
k20_6 true mq2)
def F_M_count (a1 : Int32) (m0 : Mem) : Option (Int32 × Mem) :=
lt (sI m0 78 0 (0 : Int32)) fun mq1 =>
if a1 = 4 then (
if (gI mq1 79 4) = (1 : Int32) then (
some (gI mq1 79 298, mq1)) else (
some ((-1 : Int32), mq1))) else (
if a1 = 9 then (
bnd (F_M_size mq1) fun xq4 mq2 =>
bnd (F_M_played mq2) fun xq7 mq5 =>
some (xq4 - xq7, mq5)) else (
if a1 = 10 then (
some (gI mq1 78 6, mq1)) else (
bnd (F_M_in a1 (0 : Int32) (8 : Int32) mq1) fun zq10 mq8 =>
if zq10 = true then (
ckB (inb a1 1972) <|
lt (gI mq8 79 a1.toNatClampNeg) fun xq12 =>
some (xq12, mq8)) else (
some ((-1 : Int32), mq8)))))
def F_M_declare (m0 : Mem) : Option (Int32 × Mem) :=
lt (sI m0 78 0 (0 : Int32)) fun mq1 =>
bnd (F_M_canDeclare mq1) fun zq4 mq2 =>
lt (fun (zq6 : Bool) (mq5 : Mem) => ((bnd (F_M_throwsIf zq6 (1 : Int32) mq5) fun zq9 mq7 =>
if zq9 = true then (
some ((0 : Int32), mq7)) else (
bnd (F_M_remembers mq7) fun _ mq10 =>
bnd (F_M_batter mq10) fun xq15 mq13 =>
bnd (F_M_leadOf xq15 mq13) fun xq18 mq16 =>
bnd (F_M_nextInnings mq16) fun _ mq19 =>
some (xq18, mq19))) : Option (Int32 × Mem))) fun k18_6 =>
if zq4 = true then (
k18_6 false mq2) else (
k18_6 true mq2)
def F_M_noState (a1 : Int32) (a2 : Int32) (m0 : Mem) : Option (Bool × Mem) :=
bnd (F_M_in a1 (-81 : Int32) (81 : Int32) m0) fun zq3 mq1 =>
if zq3 = true then (
bnd (F_M_in a2 (0 : Int32) (9 : Int32) mq1) fun zq6 mq4 =>
if zq6 = true then (
some (false, mq4)) else (
some (true, mq4))) else (
some (true, mq1))
def F_M_isChosen (a1 : Int32) (a2 : Int32) (a3 : Int32) (a4 : Int32) (m0 : Mem) : Option (Bool × Mem) :=
bnd (F_M_goesOn a1 a2 a3 a4 false m0) fun _ mq1 =>
bnd (F_M_chooses a1 a2 a3 a4 mq1) fun zq6 mq4 =>
some (zq6, mq4)
def F_M_noInnings (a0 : Int32) (m0 : Mem) : Option (Bool × Mem) :=
bnd (F_M_in a0 (0 : Int32) (3 : Int32) m0) fun zq3 mq1 =>
if zq3 = true then (
some (false, mq1)) else (
some (true, mq1))
def F_M_declares (a1 : Int32) (a2 : Int32) (a3 : Bool) (a4 : Int32) (a5 : Int32) (m0 : Mem) : Option (Bool × Mem) :=
lt (sI m0 78 0 (0 : Int32)) fun mq1 =>
bnd (F_M_noPlayed a1 mq1) fun zq4 mq2 =>
lt (fun (zq6 : Bool) (mq5 : Mem) => ((bnd (F_M_throwsIf zq6 (1 : Int32) mq5) fun zq9 mq7 =>
if zq9 = true then (
some (false, mq7)) else (
bnd (F_M_noState a4 a5 mq7) fun zq12 mq10 =>
bnd (F_M_throwsIf zq12 (2 : Int32) mq10) fun zq15 mq13 =>
if zq15 = true then (
some (false, mq13)) else (
if a2 = (3 : Int32) then (
some (false, mq13)) else (
bnd (F_M_size mq13) fun xq18 mq16 =>
if a1 = xq18 then (
some (false, mq16)) else (
bnd (F_M_countsFrom a1 a4 mq16) fun _ mq19 =>
bnd (F_M_kindOf a2 a3 mq19) fun xq24 mq22 =>
bnd (F_M_isChosen a1 xq24 a5 a4 mq22) fun zq27 mq25 =>
some (zq27, mq25)))))) : Option (Bool × Mem))) fun k26_6 =>
lt (fun (mq28 : Mem) => ((k26_6 true mq28) : Option (Bool × Mem))) fun k21_28 =>
if zq4 = true then (
k21_28 mq2) else (
bnd (F_M_noInnings a2 mq2) fun zq31 mq29 =>
if zq31 = true then (
k21_28 mq29) else (
k26_6 false mq29))
def F_M_end (a1 : Int32) (m0 : Mem) : Option (Bool × Mem) :=
lt (sI m0 78 0 (0 : Int32)) fun mq1 =>
if a1 < 0 then (
some (false, mq1)) else (
if a1 ≤ (gI mq1 78 8) then (
lt (sI mq1 78 8 a1) fun mq2 =>
some (true, mq2)) else (
some (false, mq1)))
def F_M_enforces (a1 : Int32) (a2 : Int32) (m0 : Mem) : Option (Bool × Mem) :=
lt (sI m0 78 0 (0 : Int32)) fun mq1 =>
bnd (F_M_noPlayed a1 mq1) fun zq4 mq2 =>
bnd (F_M_throwsIf zq4 (1 : Int32) mq2) fun zq7 mq5 =>
if zq7 = true then (
some (false, mq5)) else (
bnd (F_M_noState a2 (0 : Int32) mq5) fun zq10 mq8 =>
bnd (F_M_throwsIf zq10 (2 : Int32) mq8) fun zq13 mq11 =>
if zq13 = true then (
some (false, mq11)) else (
if a2 < (gI mq11 79 1) then (
some (false, mq11)) else (
bnd (F_M_size mq11) fun xq16 mq14 =>
if a1 = xq16 then (
some (false, mq14)) else (
bnd (F_M_countsFrom a1 a2 mq14) fun _ mq17 =>
bnd (F_M_isChosen a1 (2 : Int32) (10 : Int32) a2 mq17) fun zq22 mq20 =>
some (zq22, mq20)))))
def F_M_noSide (a0 : Int32) (m0 : Mem) : Option (Bool × Mem) :=
bnd (F_M_in a0 (0 : Int32) (1 : Int32) m0) fun zq3 mq1 =>
if zq3 = true then (
some (false, mq1)) else (
some (true, mq1))
def F_M_tossWorth (a1 : Int32) (a2 : Bool) (m0 : Mem) : Option (Int64 × Mem) :=
lt (sI m0 78 21 (gI m0 79 2)) fun mq1 =>
lt (fun (xq3 : Int32) (mq2 : Mem) => ((bnd (F_M_layers xq3 (0 : Int32) (0 : Int32) mq2) fun _ mq4 =>
bnd (F_M_takes (0 : Int32) (0 : Int32) (10 : Int32) (0 : Int32) mq4) fun _ mq7 =>
if a2 = true then (
bnd (F_M_got (0 : Int32) mq7) fun yq15 mq13 =>
some (yq15, mq13)) else (
bnd (F_M_worthOf (0 : Int32) (gI mq7 78 24) (gI mq7 78 23) mq7) fun yq12 mq10 =>
some (yq12, mq10))) : Option (Int64 × Mem))) fun k22_3 =>
if a2 = true then (
k22_3 a1 mq1) else (
k22_3 ((1 : Int32) - a1) mq1)
def F_M_betterOf (a1 : Int32) (m0 : Mem) : Option (Int64 × Mem) :=
bnd (F_M_tossWorth a1 true m0) fun yq3 mq1 =>
bnd (F_M_tossWorth a1 false mq1) fun yq6 mq4 =>
some (mxL yq3 yq6, mq4)
def F_M_leftTo (a1 : Int32) (m0 : Mem) : Option (Int64 × Mem) :=
bnd (F_M_tossWorth ((1 : Int32) - a1) true m0) fun yq3 mq1 =>
bnd (F_M_tossWorth ((1 : Int32) - a1) false mq1) fun yq6 mq4 =>
lt (fun (zq8 : Bool) (mq7 : Mem) => ((bnd (F_M_tossWorth a1 zq8 mq7) fun yq11 mq9 =>
some (yq11, mq9)) : Option (Int64 × Mem))) fun k27_8 =>
if yq6 ≤ yq3 then (
k27_8 false mq4) else (
k27_8 true mq4)
def F_M_evens (a1 : Int32) (m0 : Mem) : Option (Int64 × Mem) :=
lt (sI m0 78 0 (0 : Int32)) fun mq1 =>
bnd (F_M_noSide a1 mq1) fun zq4 mq2 =>
bnd (F_M_throwsIf zq4 (1 : Int32) mq2) fun zq7 mq5 =>
if zq7 = true then (
some ((0 : Int64), mq5)) else (
bnd (F_M_betterOf a1 mq5) fun yq10 mq8 =>
bnd (F_M_leftTo a1 mq8) fun yq13 mq11 =>
some (yq10 + yq13, mq11))
def F_M_fault (m0 : Mem) : Option (Int32 × Mem) :=
lt (sI m0 78 0 (0 : Int32)) fun mq1 =>
some (gI mq1 78 13, mq1)
def F_M_feed_L60 (k106_7 : Mem → Option (Int32 × Mem)) : Nat → Int32 → Mem → Option (Int32 × Mem)
  | 0, _, _ => none
  | nfq11 + 1, xq10, mq9 =>
    if (20 : Int32) ≤ xq10 then (
    k106_7 mq9) else (
    ckB (inb (xq10 / (4 : Int32)) 5) <|
    lt (gI mq9 84 (xq10 / (4 : Int32)).toNatClampNeg) fun xq14 =>
    lt ((8 : Int32) * (xq10 - xq10 / (4 : Int32) * (4 : Int32)) : Int32) fun xq15 =>
    ckB (inb ((gI mq9 78 8) + xq10) 400) <|
    lt (sI mq9 83 ((gI mq9 78 8) + xq10).toNatClampNeg (((xq14 >>> (((24 : Int32) - xq15) &&& 31)).toInt8.toInt32).toInt8.toInt32)) fun mq16 =>
    lt (xq10 + (1 : Int32) : Int32) fun xq18 =>
    F_M_feed_L60 k106_7 nfq11 xq18 mq16)
def F_M_feed (a1 : Int32) (a2 : Int32) (a3 : Int32) (a4 : Int32) (a5 : Int32) (m0 : Mem) : Option (Int32 × Mem) :=
lt (sI m0 78 0 (0 : Int32)) fun mq1 =>
if ((gI mq1 78 8) + (20 : Int32)) ≤ (400 : Int32) then (
lt (sI mq1 84 0 a1) fun mq2 =>
lt (sI mq2 84 1 a2) fun mq3 =>
lt (sI mq3 84 2 a3) fun mq4 =>
lt (sI mq4 84 3 a4) fun mq5 =>
lt (sI mq5 84 4 a5) fun mq6 =>
lt (fun (mq7 : Mem) => ((lt (sI mq7 78 8 ((gI mq7 78 8) + (20 : Int32))) fun mq8 =>
some (gI mq8 78 8, mq8)) : Option (Int32 × Mem))) fun k106_7 =>
F_M_feed_L60 k106_7 1000000 (0 : Int32) mq6) else (
some ((-1 : Int32), mq1))
def F_M_follow (m0 : Mem) : Option (Int32 × Mem) :=
lt (sI m0 78 0 (0 : Int32)) fun mq1 =>
bnd (F_M_canFollow mq1) fun zq4 mq2 =>
lt (fun (zq6 : Bool) (mq5 : Mem) => ((bnd (F_M_throwsIf zq6 (1 : Int32) mq5) fun zq9 mq7 =>
if zq9 = true then (
some ((0 : Int32), mq7)) else (
bnd (F_M_remembers mq7) fun _ mq10 =>
lt (sI mq10 79 12 (1 : Int32)) fun mq13 =>
bnd (F_M_firstSide mq13) fun xq16 mq14 =>
bnd (F_M_leadOf xq16 mq14) fun xq19 mq17 =>
some (xq19, mq17))) : Option (Int32 × Mem))) fun k18_6 =>
if zq4 = true then (
k18_6 false mq2) else (
k18_6 true mq2)
def F_M_ofLog (a1 : Int32) (a2 : Int32) (m0 : Mem) : Option (Int32 × Mem) :=
ckB (inb (((235 : Int32) + ((7 : Int32) * a1)) + a2) 1972) <|
lt (gI m0 79 (((235 : Int32) + ((7 : Int32) * a1)) + a2).toNatClampNeg) fun xq2 =>
some (xq2, m0)
def F_M_form_L46 (a1 : Int32) (a2 : Int32) : Nat → Int32 → Int32 → Mem → Option (Int32 × Mem)
  | 0, _, _, _ => none
  | nfq19 + 1, xq17, xq18, mq16 =>
    bnd (F_M_played mq16) fun xq23 mq21 =>
    if xq23 ≤ xq18 then (
    some (xq17, mq21)) else (
    lt (fun (xq25 : Int32) (mq24 : Mem) => ((lt (xq17 + xq25 : Int32) fun xq26 =>
    lt (xq18 + (1 : Int32) : Int32) fun xq27 =>
    F_M_form_L46 a1 a2 nfq19 xq26 xq27 mq24) : Option (Int32 × Mem))) fun k87_25 =>
    lt (fun (mq28 : Mem) => ((k87_25 (0 : Int32) mq28) : Option (Int32 × Mem))) fun k86_28 =>
    if (xq18 / (3 : Int32)) = a2 then (
    bnd (F_M_ofLog xq18 (1 : Int32) mq21) fun xq31 mq29 =>
    if xq31 = a1 then (
    bnd (F_M_ofLog xq18 (6 : Int32) mq29) fun xq34 mq32 =>
    k87_25 xq34 mq32) else (
    k86_28 mq29)) else (
    k86_28 mq21))
def F_M_form (a1 : Int32) (a2 : Int32) (m0 : Mem) : Option (Int32 × Mem) :=
lt (sI m0 78 0 (0 : Int32)) fun mq1 =>
bnd (F_M_noSide a1 mq1) fun zq4 mq2 =>
bnd (F_M_throwsIf zq4 (1 : Int32) mq2) fun zq7 mq5 =>
if zq7 = true then (
some ((0 : Int32), mq5)) else (
bnd (F_M_in a2 (0 : Int32) (2 : Int32) mq5) fun zq10 mq8 =>
lt (fun (zq12 : Bool) (mq11 : Mem) => ((bnd (F_M_throwsIf zq12 (2 : Int32) mq11) fun zq15 mq13 =>
if zq15 = true then (
some ((0 : Int32), mq13)) else (
F_M_form_L46 a1 a2 1000000 (0 : Int32) (0 : Int32) mq13)) : Option (Int32 × Mem))) fun k32_12 =>
if zq10 = true then (
k32_12 false mq8) else (
k32_12 true mq8))
def F_M_isAt (a1 : Int32) (a2 : Int32) (m0 : Mem) : Option (Bool × Mem) :=
if (gI m0 78 10) ≤ (gI m0 78 9) then (
some (false, m0)) else (
ckB (inb (gI m0 78 9) 400) <|
lt (gI m0 83 (gI m0 78 9).toNatClampNeg) fun xq2 =>
if xq2 < a1 then (
some (false, m0)) else (
ckB (inb (gI m0 78 9) 400) <|
lt (gI m0 83 (gI m0 78 9).toNatClampNeg) fun xq4 =>
if a2 < xq4 then (
some (false, m0)) else (
some (true, m0))))
def F_M_blanks_L0 (k24_1 : Mem → Option (Unit × Mem)) : Nat → Mem → Option (Unit × Mem)
  | 0, _ => none
  | nfq4 + 1, mq3 =>
    bnd (F_M_isAt (32 : Int32) (32 : Int32) mq3) fun zq8 mq6 =>
    if zq8 = true then (
    lt (sI mq6 78 9 ((gI mq6 78 9) + (1 : Int32))) fun mq9 =>
    F_M_blanks_L0 k24_1 nfq4 mq9) else (
    k24_1 mq6)
def F_M_blanks (m0 : Mem) : Option (Unit × Mem) :=
lt (fun (mq1 : Mem) => ((lt (sI mq1 78 11 (gI mq1 78 9)) fun mq2 =>
some ((), mq2)) : Option (Unit × Mem))) fun k24_1 =>
F_M_blanks_L0 k24_1 1000000 m0
def F_M_letters_L4  : Nat → Mem → Option (Unit × Mem)
  | 0, _ => none
  | nfq5 + 1, mq4 =>
    bnd (F_M_isAt (97 : Int32) (122 : Int32) mq4) fun zq9 mq7 =>
    if zq9 = true then (
    lt (sI mq7 78 9 ((gI mq7 78 9) + (1 : Int32))) fun mq10 =>
    F_M_letters_L4 nfq5 mq10) else (
    some ((), mq7))
def F_M_letters (m0 : Mem) : Option (Unit × Mem) :=
bnd (F_M_blanks m0) fun _ mq1 =>
F_M_letters_L4 1000000 mq1
def F_M_isWord_L24 (tx1 : String) : Nat → Bool → Int32 → Mem → Option (Bool × Mem)
  | 0, _, _, _ => none
  | nfq6 + 1, zq4, xq5, mq3 =>
    if zq4 = true then (
    if (nI tx1.length) ≤ xq5 then (
    some (zq4, mq3)) else (
    ckB (inb ((gI mq3 78 11) + xq5) 400) <|
    lt (gI mq3 83 ((gI mq3 78 11) + xq5).toNatClampNeg) fun xq9 =>
    ckB (inb xq5 tx1.length) <|
    lt (fun (zq12 : Bool) (mq11 : Mem) => ((lt (xq5 + (1 : Int32) : Int32) fun xq13 =>
    F_M_isWord_L24 tx1 nfq6 zq12 xq13 mq11) : Option (Bool × Mem))) fun k60_12 =>
    if xq9 = (txB tx1 xq5.toNatClampNeg) then (
    k60_12 true mq3) else (
    k60_12 false mq3))) else (
    some (zq4, mq3))
def F_M_isWord (tx1 : String) (m0 : Mem) : Option (Bool × Mem) :=
lt (fun (zq2 : Bool) (mq1 : Mem) => ((F_M_isWord_L24 tx1 1000000 zq2 (0 : Int32) mq1) : Option (Bool × Mem))) fun k21_2 =>
if ((gI m0 78 9) - (gI m0 78 11)) = (nI tx1.length) then (
k21_2 true m0) else (
k21_2 false m0)
def F_M_number_L6 (k65_5 : Int32 → Mem → Option (Int32 × Mem)) : Nat → Int32 → Mem → Option (Int32 × Mem)
  | 0, _, _ => none
  | nfq8 + 1, xq7, mq6 =>
    bnd (F_M_isAt (48 : Int32) (57 : Int32) mq6) fun zq12 mq10 =>
    if zq12 = true then (
    lt (fun (xq14 : Int32) (mq13 : Mem) => ((lt (sI mq13 78 9 ((gI mq13 78 9) + (1 : Int32))) fun mq15 =>
    F_M_number_L6 k65_5 nfq8 xq14 mq15) : Option (Int32 × Mem))) fun k51_14 =>
    if (3 : Int32) ≤ ((gI mq10 78 9) - (gI mq10 78 11)) then (
    k51_14 xq7 mq10) else (
    ckB (inb (gI mq10 78 9) 400) <|
    lt (gI mq10 83 (gI mq10 78 9).toNatClampNeg) fun xq17 =>
    k51_14 ((((10 : Int32) * xq7) + xq17) - (48 : Int32)) mq10)) else (
    k65_5 xq7 mq10)
def F_M_number (a1 : Int32) (a2 : Int32) (m0 : Mem) : Option (Int32 × Mem) :=
bnd (F_M_blanks m0) fun _ mq1 =>
lt (fun (xq5 : Int32) (mq4 : Mem) => ((if (gI mq4 78 9) = (gI mq4 78 11) then (
some ((-1 : Int32), mq4)) else (
if (3 : Int32) < ((gI mq4 78 9) - (gI mq4 78 11)) then (
some ((-1 : Int32), mq4)) else (
if xq5 < a1 then (
some ((-1 : Int32), mq4)) else (
if xq5 ≤ a2 then (
some (xq5, mq4)) else (
some ((-1 : Int32), mq4)))))) : Option (Int32 × Mem))) fun k65_5 =>
F_M_number_L6 k65_5 1000000 (0 : Int32) mq1
def F_M_passes (tx1 : String) (m0 : Mem) : Option (Bool × Mem) :=
bnd (F_M_letters m0) fun _ mq1 =>
bnd (F_M_isWord tx1 mq1) fun zq6 mq4 =>
if zq6 = true then (
some (true, mq4)) else (
lt (sI mq4 78 9 (gI mq4 78 11)) fun mq7 =>
some (false, mq7))
def F_M_emits (a1 : Int32) (a2 : Int32) (m0 : Mem) : Option (Unit × Mem) :=
ckB (inb ((1172 : Int32) + ((2 : Int32) * (gI m0 78 15))) 1972) <|
lt (sI m0 79 ((1172 : Int32) + ((2 : Int32) * (gI m0 78 15))).toNatClampNeg a1) fun mq1 =>
lt ((1172 : Int32) + ((2 : Int32) * (gI mq1 78 15)) : Int32) fun xq3 =>
ckB (inb (xq3 + (1 : Int32)) 1972) <|
lt (sI mq1 79 (xq3 + (1 : Int32)).toNatClampNeg a2) fun mq4 =>
lt (sI mq4 78 15 ((gI mq4 78 15) + (1 : Int32))) fun mq6 =>
some ((), mq6)
def F_M_readAllOf_L9 (rc : Mem → Option (Bool × Mem)) : Nat → Mem → Option (Bool × Mem)
  | 0, _ => none
  | nfq5 + 1, mq4 =>
    bnd (F_M_passes ("and") mq4) fun zq9 mq7 =>
    if zq9 = true then (
    bnd (rc mq7) fun zq12 mq10 =>
    if zq12 = true then (
    bnd (F_M_emits (13 : Int32) (0 : Int32) mq10) fun _ mq13 =>
    F_M_readAllOf_L9 rc nfq5 mq13) else (
    some (false, mq10))) else (
    some (true, mq7))
def F_M_readAllOf (rc : Mem → Option (Bool × Mem)) (m0 : Mem) : Option (Bool × Mem) :=
bnd (rc m0) fun zq3 mq1 =>
if zq3 = true then (
F_M_readAllOf_L9 rc 1000000 mq1) else (
some (false, mq1))
def F_M_readCond_L9 (rc : Mem → Option (Bool × Mem)) : Nat → Mem → Option (Bool × Mem)
  | 0, _ => none
  | nfq5 + 1, mq4 =>
    bnd (F_M_passes ("or") mq4) fun zq9 mq7 =>
    if zq9 = true then (
    bnd (F_M_readAllOf rc mq7) fun zq12 mq10 =>
    if zq12 = true then (
    bnd (F_M_emits (14 : Int32) (0 : Int32) mq10) fun _ mq13 =>
    F_M_readCond_L9 rc nfq5 mq13) else (
    some (false, mq10))) else (
    some (true, mq7))
def F_M_readCond (rc : Mem → Option (Bool × Mem)) (m0 : Mem) : Option (Bool × Mem) :=
bnd (F_M_readAllOf rc m0) fun zq3 mq1 =>
if zq3 = true then (
F_M_readCond_L9 rc 1000000 mq1) else (
some (false, mq1))
def F_M_sign (a1 : Int32) (m0 : Mem) : Option (Bool × Mem) :=
bnd (F_M_blanks m0) fun _ mq1 =>
bnd (F_M_isAt a1 a1 mq1) fun zq6 mq4 =>
if zq6 = true then (
lt (sI mq4 78 9 ((gI mq4 78 9) + (1 : Int32))) fun mq7 =>
some (true, mq7)) else (
some (false, mq4))
def F_M_readPart (m0 : Mem) : Option (Bool × Mem) :=
bnd (F_M_letters m0) fun _ mq1 =>
lt (fun (xq5 : Int32) (mq4 : Mem) => ((if xq5 < 0 then (
some (false, mq4)) else (
some (true, mq4))) : Option (Bool × Mem))) fun k120_5 =>
if (gI mq1 78 9) = (gI mq1 78 11) then (
bnd (F_M_number (0 : Int32) (999 : Int32) mq1) fun xq31 mq29 =>
bnd (F_M_emits (8 : Int32) xq31 mq29) fun _ mq32 =>
k120_5 xq31 mq32) else (
bnd (F_M_isWord ("session") mq1) fun zq8 mq6 =>
lt (fun (xq10 : Int32) (mq9 : Mem) => ((bnd (F_M_emits xq10 (0 : Int32) mq9) fun _ mq11 =>
k120_5 xq10 mq11) : Option (Bool × Mem))) fun k113_10 =>
if zq8 = true then (
k113_10 (0 : Int32) mq6) else (
bnd (F_M_isWord ("day") mq6) fun zq16 mq14 =>
if zq16 = true then (
k113_10 (1 : Int32) mq14) else (
bnd (F_M_isWord ("innings") mq14) fun zq19 mq17 =>
if zq19 = true then (
k113_10 (2 : Int32) mq17) else (
bnd (F_M_isWord ("side") mq17) fun zq22 mq20 =>
if zq22 = true then (
k113_10 (3 : Int32) mq20) else (
bnd (F_M_isWord ("bat") mq20) fun zq25 mq23 =>
if zq25 = true then (
k113_10 (4 : Int32) mq23) else (
bnd (F_M_isWord ("bowl") mq23) fun zq28 mq26 =>
if zq28 = true then (
k113_10 (5 : Int32) mq26) else (
k113_10 (-1 : Int32) mq26)))))))
