def F_M_readSum_L9  : Nat → Mem → Option (Bool × Mem)
  | 0, _ => none
  | nfq5 + 1, mq4 =>
    bnd (F_M_sign (43 : Int32) mq4) fun zq9 mq7 =>
    if zq9 = true then (
    bnd (F_M_readPart mq7) fun zq12 mq10 =>
    if zq12 = true then (
    bnd (F_M_emits (9 : Int32) (0 : Int32) mq10) fun _ mq13 =>
    F_M_readSum_L9 nfq5 mq13) else (
    some (false, mq10))) else (
    some (true, mq7))
def F_M_readSum (m0 : Mem) : Option (Bool × Mem) :=
bnd (F_M_readPart m0) fun zq3 mq1 =>
if zq3 = true then (
F_M_readSum_L9 1000000 mq1) else (
some (false, mq1))
def F_M_readAtom_b (rc : Mem → Option (Bool × Mem)) (m0 : Mem) : Option (Bool × Mem) :=
bnd (F_M_sign (40 : Int32) m0) fun zq3 mq1 =>
if zq3 = true then (
if (gI mq1 78 12) = (6 : Int32) then (
some (false, mq1)) else (
lt (sI mq1 78 12 ((gI mq1 78 12) + (1 : Int32))) fun mq45 =>
bnd (F_M_readCond rc mq45) fun zq48 mq46 =>
if zq48 = true then (
lt (sI mq46 78 12 ((gI mq46 78 12) - (1 : Int32))) fun mq49 =>
bnd (F_M_sign (41 : Int32) mq49) fun zq52 mq50 =>
some (zq52, mq50)) else (
some (false, mq46)))) else (
bnd (F_M_passes ("not") mq1) fun zq6 mq4 =>
if zq6 = true then (
if (gI mq4 78 12) = (6 : Int32) then (
some (false, mq4)) else (
lt (sI mq4 78 12 ((gI mq4 78 12) + (1 : Int32))) fun mq37 =>
bnd (rc mq37) fun zq40 mq38 =>
if zq40 = true then (
lt (sI mq38 78 12 ((gI mq38 78 12) - (1 : Int32))) fun mq41 =>
bnd (F_M_emits (12 : Int32) (0 : Int32) mq41) fun _ mq42 =>
some (true, mq42)) else (
some (false, mq38)))) else (
bnd (F_M_passes ("cloud") mq4) fun zq9 mq7 =>
lt (fun (mq10 : Mem) => ((lt (fun (xq12 : Int32) (mq11 : Mem) => ((bnd (F_M_emits xq12 (0 : Int32) mq11) fun _ mq13 =>
some (true, mq13)) : Option (Bool × Mem))) fun k146_12 =>
if zq9 = true then (
k146_12 (6 : Int32) mq10) else (
k146_12 (7 : Int32) mq10)) : Option (Bool × Mem))) fun k134_10 =>
if zq9 = true then (
k134_10 mq7) else (
bnd (F_M_passes ("tide") mq7) fun zq18 mq16 =>
if zq18 = true then (
k134_10 mq16) else (
bnd (F_M_readSum mq16) fun zq21 mq19 =>
if zq21 = true then (
bnd (F_M_sign (60 : Int32) mq19) fun zq24 mq22 =>
lt (fun (mq25 : Mem) => ((bnd (F_M_readSum mq25) fun zq28 mq26 =>
if zq28 = true then (
lt (fun (xq30 : Int32) (mq29 : Mem) => ((bnd (F_M_emits xq30 (0 : Int32) mq29) fun _ mq31 =>
some (true, mq31)) : Option (Bool × Mem))) fun k202_30 =>
if zq24 = true then (
k202_30 (10 : Int32) mq26) else (
k202_30 (11 : Int32) mq26)) else (
some (false, mq26))) : Option (Bool × Mem))) fun k181_25 =>
if zq24 = true then (
k181_25 mq22) else (
bnd (F_M_sign (62 : Int32) mq22) fun zq36 mq34 =>
if zq36 = true then (
k181_25 mq34) else (
some (false, mq34)))) else (
some (false, mq19))))))
def F_M_readAtom : Nat → Mem → Option (Bool × Mem)
  | 0, _ => none
  | k + 1, m0 => F_M_readAtom_b (F_M_readAtom k) m0
def F_M_readLawLine (a1 : Int32) (m0 : Mem) : Option (Bool × Mem) :=
lt ((1136 : Int32) + ((3 : Int32) * a1) : Int32) fun xq1 =>
bnd (F_M_isWord ("hard") m0) fun zq4 mq2 =>
if zq4 = true then (
bnd (F_M_number (0 : Int32) (9 : Int32) mq2) fun xq7 mq5 =>
ckB (inb xq1 1972) <|
lt (sI mq5 79 xq1.toNatClampNeg xq7) fun mq8 =>
ckB (inb xq1 1972) <|
lt (gI mq8 79 xq1.toNatClampNeg) fun xq11 =>
if 0 ≤ xq11 then (
ckB (inb (xq1 + (1 : Int32)) 1972) <|
lt (sI mq8 79 (xq1 + (1 : Int32)).toNatClampNeg (gI mq8 78 15)) fun mq12 =>
lt (sI mq12 78 12 (0 : Int32)) fun mq14 =>
bnd (F_M_passes ("if") mq14) fun zq17 mq15 =>
lt (fun (mq18 : Mem) => ((ckB (inb (xq1 + (2 : Int32)) 1972) <|
lt (sI mq18 79 (xq1 + (2 : Int32)).toNatClampNeg (gI mq18 78 15)) fun mq19 =>
some (true, mq19)) : Option (Bool × Mem))) fun k78_18 =>
if zq17 = true then (
bnd (F_M_readCond (F_M_readAtom 8) mq15) fun zq23 mq21 =>
if zq23 = true then (
k78_18 mq21) else (
some (false, mq21))) else (
k78_18 mq15)) else (
some (false, mq8))) else (
some (false, mq2))
def F_M_readBook (m0 : Mem) : Option (Bool × Mem) :=
lt ((55 : Int32) + ((3 : Int32) * (gI m0 79 5)) : Int32) fun xq1 =>
if (gI m0 79 5) = (60 : Int32) then (
some (false, m0)) else (
bnd (F_M_number (0 : Int32) (1 : Int32) m0) fun xq4 mq2 =>
lt (fun (xq6 : Int32) (mq5 : Mem) => ((lt (fun (xq8 : Int32) (mq7 : Mem) => ((if 0 ≤ xq8 then (
ckB (inb xq1 1972) <|
lt (sI mq7 79 xq1.toNatClampNeg xq4) fun mq9 =>
ckB (inb (xq1 + (1 : Int32)) 1972) <|
lt (sI mq9 79 (xq1 + (1 : Int32)).toNatClampNeg xq6) fun mq11 =>
ckB (inb (xq1 + (2 : Int32)) 1972) <|
lt (sI mq11 79 (xq1 + (2 : Int32)).toNatClampNeg xq8) fun mq13 =>
lt (sI mq13 79 5 ((gI mq13 79 5) + (1 : Int32))) fun mq15 =>
some (true, mq15)) else (
some (false, mq7))) : Option (Bool × Mem))) fun k61_8 =>
if 0 ≤ xq6 then (
bnd (F_M_number (0 : Int32) (2 : Int32) mq5) fun xq18 mq16 =>
k61_8 xq18 mq16) else (
k61_8 (-1 : Int32) mq5)) : Option (Bool × Mem))) fun k46_6 =>
if 0 ≤ xq4 then (
bnd (F_M_number (0 : Int32) (1 : Int32) mq2) fun xq21 mq19 =>
k46_6 xq21 mq19) else (
k46_6 (-1 : Int32) mq2))
def F_M_readNumber (a1 : Int32) (a2 : Int32) (m0 : Mem) : Option (Bool × Mem) :=
bnd (F_M_number (0 : Int32) a2 m0) fun xq3 mq1 =>
ckB (inb a1 1972) <|
lt (sI mq1 79 a1.toNatClampNeg xq3) fun mq4 =>
if xq3 < 0 then (
some (false, mq4)) else (
some (true, mq4))
def F_M_isFigure (m0 : Mem) : Option (Bool × Mem) :=
bnd (F_M_blanks m0) fun _ mq1 =>
bnd (F_M_isAt (48 : Int32) (57 : Int32) mq1) fun zq6 mq4 =>
some (zq6, mq4)
def F_M_readSet_L0 (a1 : Int32) : Nat → Mem → Option (Bool × Mem)
  | 0, _ => none
  | nfq2 + 1, mq1 =>
    bnd (F_M_number (0 : Int32) (8 : Int32) mq1) fun xq6 mq4 =>
    if 0 ≤ xq6 then (
    ckB (inb a1 1972) <|
    lt (gI mq4 79 a1.toNatClampNeg) fun xq8 =>
    ckB (inb a1 1972) <|
    lt (sI mq4 79 a1.toNatClampNeg (xq8 ||| ((1 : Int32) <<< (xq6 &&& 31)))) fun mq9 =>
    bnd (F_M_isFigure mq9) fun zq13 mq11 =>
    if zq13 = true then (
    F_M_readSet_L0 a1 nfq2 mq11) else (
    some (true, mq11))) else (
    some (false, mq4))
def F_M_readSet (a1 : Int32) (m0 : Mem) : Option (Bool × Mem) :=
F_M_readSet_L0 a1 1000000 m0
def F_M_after_LjavalangStringIII (tx1 : String) (a2 : Int32) (a3 : Int32) (m0 : Mem) : Option (Int32 × Mem) :=
bnd (F_M_letters m0) fun _ mq1 =>
bnd (F_M_isWord tx1 mq1) fun zq6 mq4 =>
if zq6 = true then (
bnd (F_M_number a2 a3 mq4) fun xq9 mq7 =>
some (xq9, mq7)) else (
some ((-1 : Int32), mq4))
def F_M_readSlot (m0 : Mem) : Option (Bool × Mem) :=
bnd (F_M_number (0 : Int32) (3 : Int32) m0) fun xq3 mq1 =>
lt (fun (xq5 : Int32) (mq4 : Mem) => ((lt (fun (xq7 : Int32) (mq6 : Mem) => ((lt (fun (xq9 : Int32) (mq8 : Mem) => ((if 0 ≤ xq9 then (
lt ((23 : Int32) + ((2 : Int32) * (((4 : Int32) * xq3) + xq5)) : Int32) fun xq10 =>
ckB (inb xq10 1972) <|
lt (sI mq8 79 xq10.toNatClampNeg xq7) fun mq11 =>
lt ((23 : Int32) + ((2 : Int32) * (((4 : Int32) * xq3) + xq5)) : Int32) fun xq13 =>
ckB (inb (xq13 + (1 : Int32)) 1972) <|
lt (sI mq11 79 (xq13 + (1 : Int32)).toNatClampNeg xq9) fun mq14 =>
some (true, mq14)) else (
some (false, mq8))) : Option (Bool × Mem))) fun k57_9 =>
if 0 ≤ xq7 then (
bnd (F_M_after_LjavalangStringIII ("outs") (0 : Int32) (9 : Int32) mq6) fun xq18 mq16 =>
k57_9 xq18 mq16) else (
k57_9 (-1 : Int32) mq6)) : Option (Bool × Mem))) fun k39_7 =>
if 0 ≤ xq5 then (
bnd (F_M_after_LjavalangStringIII ("runs") (0 : Int32) (9 : Int32) mq4) fun xq21 mq19 =>
k39_7 xq21 mq19) else (
k39_7 (-1 : Int32) mq4)) : Option (Bool × Mem))) fun k21_5 =>
if 0 ≤ xq3 then (
bnd (F_M_number (0 : Int32) (3 : Int32) mq1) fun xq24 mq22 =>
k21_5 xq24 mq22) else (
k21_5 (-1 : Int32) mq1)
def F_M_readSide (m0 : Mem) : Option (Bool × Mem) :=
bnd (F_M_number (0 : Int32) (1 : Int32) m0) fun xq3 mq1 =>
lt (fun (xq5 : Int32) (mq4 : Mem) => ((lt (fun (xq7 : Int32) (mq6 : Mem) => ((if 0 ≤ xq7 then (
ckB (inb ((19 : Int32) + ((2 : Int32) * xq3)) 1972) <|
lt (sI mq6 79 ((19 : Int32) + ((2 : Int32) * xq3)).toNatClampNeg xq5) fun mq8 =>
lt (((19 : Int32) + ((2 : Int32) * xq3)) + (1 : Int32) : Int32) fun xq10 =>
ckB (inb xq10 1972) <|
lt (sI mq8 79 xq10.toNatClampNeg xq7) fun mq11 =>
some (true, mq11)) else (
some (false, mq6))) : Option (Bool × Mem))) fun k42_7 =>
if 0 ≤ xq5 then (
bnd (F_M_after_LjavalangStringIII ("bowl") (0 : Int32) (9 : Int32) mq4) fun xq15 mq13 =>
k42_7 xq15 mq13) else (
k42_7 (-1 : Int32) mq4)) : Option (Bool × Mem))) fun k24_5 =>
if 0 ≤ xq3 then (
bnd (F_M_after_LjavalangStringIII ("bat") (0 : Int32) (9 : Int32) mq1) fun xq18 mq16 =>
k24_5 xq18 mq16) else (
k24_5 (-1 : Int32) mq1)
def F_M_readSessions (m0 : Mem) : Option (Bool × Mem) :=
if (gI m0 79 10) < 0 then (
bnd (F_M_number (1 : Int32) (9 : Int32) m0) fun xq3 mq1 =>
lt (fun (mq4 : Mem) => ((if xq3 < 0 then (
some (false, mq4)) else (
some (true, mq4))) : Option (Bool × Mem))) fun k31_4 =>
if xq3 < 0 then (
k31_4 mq1) else (
lt (sI mq1 79 0 xq3) fun mq5 =>
k31_4 mq5)) else (
some (false, m0))
def F_M_readGroundLine (m0 : Mem) : Option (Bool × Mem) :=
bnd (F_M_isWord ("sessions") m0) fun zq3 mq1 =>
if zq3 = true then (
bnd (F_M_readSessions mq1) fun zq54 mq52 =>
some (zq54, mq52)) else (
bnd (F_M_isWord ("side") mq1) fun zq6 mq4 =>
if zq6 = true then (
bnd (F_M_readSide mq4) fun zq51 mq49 =>
some (zq51, mq49)) else (
bnd (F_M_isWord ("slot") mq4) fun zq9 mq7 =>
if zq9 = true then (
bnd (F_M_readSlot mq7) fun zq48 mq46 =>
some (zq48, mq46)) else (
bnd (F_M_isWord ("cloud") mq7) fun zq12 mq10 =>
if zq12 = true then (
bnd (F_M_readSet (6 : Int32) mq10) fun zq45 mq43 =>
some (zq45, mq43)) else (
bnd (F_M_isWord ("tide") mq10) fun zq15 mq13 =>
if zq15 = true then (
bnd (F_M_readSet (7 : Int32) mq13) fun zq42 mq40 =>
some (zq42, mq40)) else (
bnd (F_M_isWord ("rain") mq13) fun zq18 mq16 =>
if zq18 = true then (
bnd (F_M_readSet (8 : Int32) mq16) fun zq39 mq37 =>
some (zq39, mq37)) else (
bnd (F_M_isWord ("margin") mq16) fun zq21 mq19 =>
if zq21 = true then (
bnd (F_M_readNumber (1 : Int32) (99 : Int32) mq19) fun zq36 mq34 =>
some (zq36, mq34)) else (
bnd (F_M_isWord ("drawworth") mq19) fun zq24 mq22 =>
if zq24 = true then (
bnd (F_M_readNumber (2 : Int32) (100 : Int32) mq22) fun zq33 mq31 =>
some (zq33, mq31)) else (
bnd (F_M_isWord ("book") mq22) fun zq27 mq25 =>
if zq27 = true then (
bnd (F_M_readBook mq25) fun zq30 mq28 =>
if zq30 = true then (
some (true, mq28)) else (
some (false, mq28))) else (
some (false, mq25))))))))))
def F_M_readLine (a1 : Bool) (a2 : Int32) (m0 : Mem) : Option (Bool × Mem) :=
bnd (F_M_letters m0) fun _ mq1 =>
lt (fun (xq5 : Int32) (mq4 : Mem) => ((if xq5 ≤ a2 then (
some (false, mq4)) else (
if a1 = true then (
bnd (F_M_readGroundLine mq4) fun zq11 mq9 =>
if zq11 = true then (
some (true, mq9)) else (
some (false, mq9))) else (
bnd (F_M_readLawLine a2 mq4) fun zq8 mq6 =>
if zq8 = true then (
some (true, mq6)) else (
some (false, mq6))))) : Option (Bool × Mem))) fun k16_5 =>
if a1 = true then (
k16_5 (14 : Int32) mq1) else (
k16_5 (12 : Int32) mq1)
def F_M_readAll_L28 (a1 : Bool) (k54_9 : Int32 → Mem → Option (Int32 × Mem)) : Nat → Int32 → Mem → Option (Int32 × Mem)
  | 0, _, _ => none
  | nfq12 + 1, xq11, mq10 =>
    bnd (F_M_readLine a1 xq11 mq10) fun zq16 mq14 =>
    if zq16 = true then (
    bnd (F_M_blanks mq14) fun _ mq17 =>
    if (gI mq17 78 9) = (gI mq17 78 10) then (
    k54_9 xq11 mq17) else (
    bnd (F_M_isAt (59 : Int32) (59 : Int32) mq17) fun zq22 mq20 =>
    if zq22 = true then (
    lt (sI mq20 78 9 ((gI mq20 78 9) + (1 : Int32))) fun mq23 =>
    lt (xq11 + (1 : Int32) : Int32) fun xq24 =>
    F_M_readAll_L28 a1 k54_9 nfq12 xq24 mq23) else (
    some ((-1 : Int32), mq20)))) else (
    some ((-1 : Int32), mq14))
def F_M_readAll (a1 : Bool) (m0 : Mem) : Option (Int32 × Mem) :=
bnd (F_M_uses m0) fun _ mq1 =>
lt (sI mq1 78 15 (0 : Int32)) fun mq4 =>
bnd (F_M_blanks mq4) fun _ mq5 =>
if (gI mq5 78 9) = (gI mq5 78 10) then (
some ((0 : Int32), mq5)) else (
lt (fun (xq9 : Int32) (mq8 : Mem) => ((some (xq9 + (1 : Int32), mq8)) : Option (Int32 × Mem))) fun k54_9 =>
F_M_readAll_L28 a1 k54_9 1000000 (0 : Int32) mq5)
def F_M_ground_L92  : Nat → Int32 → Mem → Option (Int32 × Mem)
  | 0, _, _ => none
  | nfq16 + 1, xq15, mq14 =>
    if (1135 : Int32) ≤ xq15 then (
    some ((0 : Int32), mq14)) else (
    ckB (inb xq15 1135) <|
    lt (gI mq14 81 xq15.toNatClampNeg) fun xq19 =>
    ckB (inb xq15 1972) <|
    lt (sI mq14 79 xq15.toNatClampNeg xq19) fun mq20 =>
    lt (xq15 + (1 : Int32) : Int32) fun xq22 =>
    F_M_ground_L92 nfq16 xq22 mq20)
def F_M_ground_L2 (k27_1 : Mem → Option (Int32 × Mem)) : Nat → Int32 → Mem → Option (Int32 × Mem)
  | 0, _, _ => none
  | nfq32 + 1, xq31, mq30 =>
    if (1135 : Int32) ≤ xq31 then (
    k27_1 mq30) else (
    ckB (inb xq31 1972) <|
    lt (gI mq30 79 xq31.toNatClampNeg) fun xq35 =>
    ckB (inb xq31 1135) <|
    lt (sI mq30 81 xq31.toNatClampNeg xq35) fun mq36 =>
    lt (xq31 + (1 : Int32) : Int32) fun xq38 =>
    F_M_ground_L2 k27_1 nfq32 xq38 mq36)
def F_M_ground (m0 : Mem) : Option (Int32 × Mem) :=
lt (fun (mq1 : Mem) => ((bnd (F_M_readAll true mq1) fun xq4 mq2 =>
lt (fun (xq6 : Int32) (mq5 : Mem) => ((lt (sI mq5 78 13 xq6) fun mq7 =>
lt (fun (zq9 : Bool) (mq8 : Mem) => ((bnd (F_M_throwsIf zq9 (1 : Int32) mq8) fun zq12 mq10 =>
lt (fun (mq13 : Mem) => ((F_M_ground_L92 1000000 (0 : Int32) mq13) : Option (Int32 × Mem))) fun k90_13 =>
if zq12 = true then (
k90_13 mq10) else (
lt (fun (zq24 : Bool) (mq23 : Mem) => ((bnd (F_M_throwsIf zq24 (2 : Int32) mq23) fun zq27 mq25 =>
if zq27 = true then (
k90_13 mq25) else (
lt (sI mq25 79 3 ((gI mq25 79 3) + (1 : Int32))) fun mq28 =>
lt (sI mq28 78 6 (0 : Int32)) fun mq29 =>
some (gI mq29 79 3, mq29))) : Option (Int32 × Mem))) fun k83_24 =>
if (gI mq10 79 3) = (12 : Int32) then (
k83_24 true mq10) else (
k83_24 false mq10))) : Option (Int32 × Mem))) fun k59_9 =>
if 0 ≤ xq4 then (
k59_9 false mq7) else (
k59_9 true mq7)) : Option (Int32 × Mem))) fun k46_6 =>
if 0 ≤ xq4 then (
k46_6 (-1 : Int32) mq2) else (
k46_6 (gI mq2 78 11) mq2)) : Option (Int32 × Mem))) fun k27_1 =>
F_M_ground_L2 k27_1 1000000 (0 : Int32) m0
def F_M_habit (a1 : Bool) (m0 : Mem) : Option (Bool × Mem) :=
lt (sI m0 78 0 (0 : Int32)) fun mq1 =>
if a1 = true then (
bnd (F_M_bookOf (3 : Int32) mq1) fun xq13 mq11 =>
bnd (F_M_bookOf (0 : Int32) mq11) fun xq16 mq14 =>
bnd (F_M_bookOf (5 : Int32) mq14) fun xq19 mq17 =>
if ((2 : Int32) * xq13) = (xq16 - xq19) then (
some (true, mq17)) else (
some (false, mq17))) else (
bnd (F_M_bookOf (0 : Int32) mq1) fun xq4 mq2 =>
if xq4 ≤ 0 then (
some (false, mq2)) else (
bnd (F_M_bookOf (1 : Int32) mq2) fun xq7 mq5 =>
bnd (F_M_bookOf (0 : Int32) mq5) fun xq10 mq8 =>
if ((10 : Int32) * xq7) < ((9 : Int32) * xq10) then (
some (false, mq8)) else (
some (true, mq8))))
def F_M_hardest_L39 (a1 : Int32) (a2 : Int32) : Nat → Int32 → Int32 → Mem → Option (Int32 × Mem)
  | 0, _, _, _ => none
  | nfq13 + 1, xq11, xq12, mq10 =>
    bnd (F_M_size mq10) fun xq17 mq15 =>
    if xq17 ≤ xq12 then (
    some (xq11, mq15)) else (
    bnd (F_M_levelOf xq12 a1 a2 mq15) fun xq20 mq18 =>
    bnd (F_M_levelOf xq11 a1 a2 mq18) fun xq23 mq21 =>
    lt (fun (xq25 : Int32) (mq24 : Mem) => ((lt (xq12 + (1 : Int32) : Int32) fun xq26 =>
    F_M_hardest_L39 a1 a2 nfq13 xq25 xq26 mq24) : Option (Int32 × Mem))) fun k72_25 =>
    if xq20 ≤ xq23 then (
    k72_25 xq11 mq21) else (
    k72_25 xq12 mq21))
def F_M_hardest (a1 : Int32) (a2 : Int32) (m0 : Mem) : Option (Int32 × Mem) :=
lt (sI m0 78 0 (0 : Int32)) fun mq1 =>
bnd (F_M_noInnings a1 mq1) fun zq4 mq2 =>
lt (fun (zq6 : Bool) (mq5 : Mem) => ((bnd (F_M_throwsIf zq6 (1 : Int32) mq5) fun zq9 mq7 =>
if zq9 = true then (
some ((0 : Int32), mq7)) else (
F_M_hardest_L39 a1 a2 1000000 (0 : Int32) (1 : Int32) mq7)) : Option (Int32 × Mem))) fun k25_6 =>
lt (fun (mq27 : Mem) => ((k25_6 true mq27) : Option (Int32 × Mem))) fun k20_27 =>
if zq4 = true then (
k20_27 mq2) else (
bnd (F_M_noSide a2 mq2) fun zq30 mq28 =>
if zq30 = true then (
k20_27 mq28) else (
k25_6 false mq28))
def F_M_here (a1 : Int32) (m0 : Mem) : Option (Int64 × Mem) :=
lt (sI m0 78 0 (0 : Int32)) fun mq1 =>
bnd (F_M_firstSide mq1) fun xq4 mq2 =>
lt (fun (zq6 : Bool) (mq5 : Mem) => ((bnd (F_M_throwsIf zq6 (1 : Int32) mq5) fun zq9 mq7 =>
if zq9 = true then (
some ((0 : Int64), mq7)) else (
bnd (F_M_in a1 (0 : Int32) (3 : Int32) mq7) fun zq12 mq10 =>
lt (fun (zq14 : Bool) (mq13 : Mem) => ((bnd (F_M_throwsIf zq14 (2 : Int32) mq13) fun zq17 mq15 =>
if zq17 = true then (
some ((0 : Int64), mq15)) else (
bnd (F_M_countsNow mq15) fun _ mq18 =>
bnd (F_M_played mq18) fun xq23 mq21 =>
bnd (F_M_isOver mq21) fun zq26 mq24 =>
lt (fun (xq28 : Int32) (mq27 : Mem) => ((bnd (F_M_waysOf a1 xq23 xq28 mq27) fun yq31 mq29 =>
some (yq31, mq29)) : Option (Int64 × Mem))) fun k74_28 =>
if zq26 = true then (
k74_28 (0 : Int32) mq24) else (
bnd (F_M_batter mq24) fun xq34 mq32 =>
k74_28 xq34 mq32))) : Option (Int64 × Mem))) fun k40_14 =>
if zq12 = true then (
k40_14 false mq10) else (
k40_14 true mq10))) : Option (Int64 × Mem))) fun k18_6 =>
if 0 ≤ xq4 then (
k18_6 false mq2) else (
k18_6 true mq2)
def F_M_hold (a1 : Int32) (m0 : Mem) : Option (Int32 × Mem) :=
lt (sI m0 78 0 (0 : Int32)) fun mq1 =>
bnd (F_M_noSlot a1 mq1) fun zq4 mq2 =>
bnd (F_M_throwsIf zq4 (1 : Int32) mq2) fun zq7 mq5 =>
if zq7 = true then (
some ((0 : Int32), mq5)) else (
bnd (F_M_canHold mq5) fun zq10 mq8 =>
lt (fun (zq12 : Bool) (mq11 : Mem) => ((bnd (F_M_throwsIf zq12 (2 : Int32) mq11) fun zq15 mq13 =>
if zq15 = true then (
some ((0 : Int32), mq13)) else (
bnd (F_M_remembers mq13) fun _ mq16 =>
bnd (F_M_plays a1 true mq16) fun xq21 mq19 =>
some (xq21, mq19))) : Option (Int32 × Mem))) fun k30_12 =>
if zq10 = true then (
k30_12 false mq8) else (
k30_12 true mq8))
def F_M_holds (a1 : Int32) (a2 : Bool) (a3 : Int32) (a4 : Int32) (m0 : Mem) : Option (Bool × Mem) :=
lt (sI m0 78 0 (0 : Int32)) fun mq1 =>
bnd (F_M_noPlayed a1 mq1) fun zq4 mq2 =>
bnd (F_M_throwsIf zq4 (1 : Int32) mq2) fun zq7 mq5 =>
if zq7 = true then (
some (false, mq5)) else (
bnd (F_M_noState a3 a4 mq5) fun zq10 mq8 =>
bnd (F_M_throwsIf zq10 (2 : Int32) mq8) fun zq13 mq11 =>
if zq13 = true then (
some (false, mq11)) else (
bnd (F_M_size mq11) fun xq16 mq14 =>
if a1 = xq16 then (
some (false, mq14)) else (
bnd (F_M_countsFrom a1 a3 mq14) fun _ mq17 =>
bnd (F_M_kindOf (3 : Int32) a2 mq17) fun xq22 mq20 =>
bnd (F_M_isChosen a1 xq22 a4 a3 mq20) fun zq25 mq23 =>
some (zq25, mq23))))
def F_M_image_L7 (k32_2 : Mem → Option (Unit × Mem)) : Nat → Int32 → Mem → Option (Unit × Mem)
  | 0, _, _ => none
  | nfq6 + 1, xq5, mq4 =>
    if (1135 : Int32) ≤ xq5 then (
    k32_2 mq4) else (
    ckB (inb xq5 1972) <|
    lt (gI mq4 79 xq5.toNatClampNeg) fun xq9 =>
    ckB (inb xq5 1135) <|
    lt (sI mq4 80 xq5.toNatClampNeg xq9) fun mq10 =>
    lt (xq5 + (1 : Int32) : Int32) fun xq12 =>
    F_M_image_L7 k32_2 nfq6 xq12 mq10)
def F_M_image (m0 : Mem) : Option (Unit × Mem) :=
lt (sI m0 78 0 (0 : Int32)) fun mq1 =>
lt (fun (mq2 : Mem) => ((lt (sZ mq2 78 5 true) fun mq3 =>
some ((), mq3)) : Option (Unit × Mem))) fun k32_2 =>
F_M_image_L7 k32_2 1000000 (0 : Int32) mq1
def F_M_law_L52 (k85_13 : Mem → Option (Int32 × Mem)) : Nat → Int32 → Mem → Option (Int32 × Mem)
  | 0, _, _ => none
  | nfq18 + 1, xq17, mq16 =>
    if (837 : Int32) ≤ xq17 then (
    k85_13 mq16) else (
    ckB (inb ((1135 : Int32) + xq17) 1972) <|
    lt (gI mq16 79 ((1135 : Int32) + xq17).toNatClampNeg) fun xq21 =>
    ckB (inb ((298 : Int32) + xq17) 1972) <|
    lt (sI mq16 79 ((298 : Int32) + xq17).toNatClampNeg xq21) fun mq22 =>
    lt (xq17 + (1 : Int32) : Int32) fun xq24 =>
    F_M_law_L52 k85_13 nfq18 xq24 mq22)
def F_M_law (m0 : Mem) : Option (Int32 × Mem) :=
bnd (F_M_readAll false m0) fun xq3 mq1 =>
lt (fun (xq5 : Int32) (mq4 : Mem) => ((lt (sI mq4 78 13 xq5) fun mq6 =>
lt (fun (zq8 : Bool) (mq7 : Mem) => ((bnd (F_M_throwsIf zq8 (1 : Int32) mq7) fun zq11 mq9 =>
if zq11 = true then (
some ((0 : Int32), mq9)) else (
lt (sI mq9 79 1135 xq3) fun mq12 =>
lt (fun (mq13 : Mem) => ((lt (sI mq13 79 4 (1 : Int32)) fun mq14 =>
lt (sI mq14 78 6 (0 : Int32)) fun mq15 =>
some (xq3, mq15)) : Option (Int32 × Mem))) fun k85_13 =>
F_M_law_L52 k85_13 1000000 (0 : Int32) mq12)) : Option (Int32 × Mem))) fun k32_8 =>
if 0 ≤ xq3 then (
k32_8 false mq6) else (
k32_8 true mq6)) : Option (Int32 × Mem))) fun k19_5 =>
if 0 ≤ xq3 then (
k19_5 (-1 : Int32) mq1) else (
k19_5 (gI mq1 78 11) mq1)
def F_M_noSession (a1 : Int32) (m0 : Mem) : Option (Bool × Mem) :=
bnd (F_M_size m0) fun xq3 mq1 =>
bnd (F_M_in a1 (0 : Int32) (xq3 - (1 : Int32)) mq1) fun zq6 mq4 =>
if zq6 = true then (
some (false, mq4)) else (
some (true, mq4))
def F_M_level (a1 : Int32) (a2 : Int32) (a3 : Int32) (m0 : Mem) : Option (Int32 × Mem) :=
lt (sI m0 78 0 (0 : Int32)) fun mq1 =>
bnd (F_M_noSession a1 mq1) fun zq4 mq2 =>
lt (fun (zq6 : Bool) (mq5 : Mem) => ((bnd (F_M_throwsIf zq6 (1 : Int32) mq5) fun zq9 mq7 =>
if zq9 = true then (
some ((0 : Int32), mq7)) else (
bnd (F_M_levelOf a1 a2 a3 mq7) fun xq12 mq10 =>
some (xq12, mq10))) : Option (Int32 × Mem))) fun k33_6 =>
lt (fun (mq13 : Mem) => ((k33_6 true mq13) : Option (Int32 × Mem))) fun k28_13 =>
if zq4 = true then (
k28_13 mq2) else (
bnd (F_M_noInnings a2 mq2) fun zq16 mq14 =>
if zq16 = true then (
k28_13 mq14) else (
bnd (F_M_noSide a3 mq14) fun zq19 mq17 =>
if zq19 = true then (
k28_13 mq17) else (
k33_6 false mq17)))
def F_M_line_L69 (a1 : Int32) (a2 : Int32) (a3 : Bool) (a4 : Int32) (a5 : Int32) (k115_20 : Int32 → Mem → Option (Int32 × Mem)) : Nat → Int32 → Mem → Option (Int32 × Mem)
  | 0, _, _ => none
  | nfq23 + 1, xq22, mq21 =>
    if (100 : Int32) < xq22 then (
    some ((-1 : Int32), mq21)) else (
    lt (sI mq21 78 21 xq22) fun mq25 =>
    bnd (F_M_layers (0 : Int32) a1 (abI a4) mq25) fun _ mq26 =>
    bnd (F_M_laysLevels a1 mq26) fun _ mq29 =>
    bnd (F_M_kindOf a2 a3 mq29) fun xq34 mq32 =>
    bnd (F_M_isChosen a1 xq34 a5 a4 mq32) fun zq37 mq35 =>
    if zq37 = true then (
    lt (xq22 + (1 : Int32) : Int32) fun xq38 =>
    F_M_line_L69 a1 a2 a3 a4 a5 k115_20 nfq23 xq38 mq35) else (
    k115_20 xq22 mq35))
def F_M_line (a1 : Int32) (a2 : Int32) (a3 : Bool) (a4 : Int32) (a5 : Int32) (m0 : Mem) : Option (Int32 × Mem) :=
lt (sI m0 78 0 (0 : Int32)) fun mq1 =>
bnd (F_M_noPlayed a1 mq1) fun zq4 mq2 =>
lt (fun (zq6 : Bool) (mq5 : Mem) => ((bnd (F_M_throwsIf zq6 (1 : Int32) mq5) fun zq9 mq7 =>
if zq9 = true then (
some ((0 : Int32), mq7)) else (
bnd (F_M_noState a4 a5 mq7) fun zq12 mq10 =>
bnd (F_M_throwsIf zq12 (2 : Int32) mq10) fun zq15 mq13 =>
if zq15 = true then (
some ((0 : Int32), mq13)) else (
if a2 = (3 : Int32) then (
some ((-1 : Int32), mq13)) else (
bnd (F_M_size mq13) fun xq18 mq16 =>
if a1 = xq18 then (
some ((-1 : Int32), mq16)) else (
lt (fun (xq20 : Int32) (mq19 : Mem) => ((if xq20 = 0 then (
some ((-1 : Int32), mq19)) else (
some (xq20, mq19))) : Option (Int32 × Mem))) fun k115_20 =>
F_M_line_L69 a1 a2 a3 a4 a5 k115_20 1000000 (0 : Int32) mq16))))) : Option (Int32 × Mem))) fun k26_6 =>
lt (fun (mq39 : Mem) => ((k26_6 true mq39) : Option (Int32 × Mem))) fun k21_39 =>
if zq4 = true then (
k21_39 mq2) else (
bnd (F_M_noInnings a2 mq2) fun zq42 mq40 =>
if zq42 = true then (
k21_39 mq40) else (
k26_6 false mq40))
def F_M_log (a1 : Int32) (a2 : Int32) (m0 : Mem) : Option (Int32 × Mem) :=
lt (sI m0 78 0 (0 : Int32)) fun mq1 =>
bnd (F_M_in a2 (0 : Int32) (6 : Int32) mq1) fun zq4 mq2 =>
lt (fun (zq6 : Bool) (mq5 : Mem) => ((bnd (F_M_throwsIf zq6 (1 : Int32) mq5) fun zq9 mq7 =>
if zq9 = true then (
some ((0 : Int32), mq7)) else (
bnd (F_M_played mq7) fun xq12 mq10 =>
bnd (F_M_in a1 (0 : Int32) (xq12 - (1 : Int32)) mq10) fun zq15 mq13 =>
if zq15 = true then (
bnd (F_M_ofLog a1 a2 mq13) fun xq18 mq16 =>
some (xq18, mq16)) else (
some ((-99 : Int32), mq13)))) : Option (Int32 × Mem))) fun k21_6 =>
if zq4 = true then (
k21_6 false mq2) else (
k21_6 true mq2)
def F_M_match (a1 : Int32) (m0 : Mem) : Option (Int32 × Mem) :=
lt (sI m0 78 0 (0 : Int32)) fun mq1 =>
bnd (F_M_in a1 (0 : Int32) (10 : Int32) mq1) fun zq4 mq2 =>
lt (fun (zq6 : Bool) (mq5 : Mem) => ((bnd (F_M_throwsIf zq6 (1 : Int32) mq5) fun zq9 mq7 =>
if zq9 = true then (
some ((0 : Int32), mq7)) else (
if a1 = 0 then (
bnd (F_M_firstSide mq7) fun xq12 mq10 =>
some (xq12, mq10)) else (
if a1 = 1 then (
some (gI mq7 79 11, mq7)) else (
if a1 = 2 then (
some (gI mq7 79 13, mq7)) else (
if a1 = 3 then (
some (gI mq7 79 15, mq7)) else (
if a1 = 4 then (
some (gI mq7 79 16, mq7)) else (
if a1 = 5 then (
bnd (F_M_isOn mq7) fun zq15 mq13 =>
if zq15 = true then (
bnd (F_M_batter mq13) fun xq18 mq16 =>
some (xq18, mq16)) else (
some ((-1 : Int32), mq13))) else (
if a1 = 6 then (
bnd (F_M_played mq7) fun xq21 mq19 =>
some (xq21, mq19)) else (
if a1 = 7 then (
some (gI mq7 79 12, mq7)) else (
if a1 = 8 then (
some (gI mq7 79 18, mq7)) else (
if a1 = 9 then (
bnd (F_M_canFollow mq7) fun zq24 mq22 =>
if zq24 = true then (
some ((1 : Int32), mq22)) else (
some ((0 : Int32), mq22))) else (
some (gI mq7 79 14, mq7))))))))))))) : Option (Int32 × Mem))) fun k21_6 =>
if zq4 = true then (
k21_6 false mq2) else (
k21_6 true mq2)
def F_M_draw (a1 : Int32) (m0 : Mem) : Option (Int32 × Mem) :=
lt (((1103515245 : Int32) * (gI m0 79 9)) + (12345 : Int32) : Int32) fun xq1 =>
lt (sI m0 79 9 xq1) fun mq2 =>
lt (((gI mq2 79 9) >>> ((16 : Int32) &&& 31)) &&& (32767 : Int32) : Int32) fun xq3 =>
ckB (!decide (a1 = 0)) <|
some (xq3 - xq3 / a1 * a1, mq2)
def F_M_play (m0 : Mem) : Option (Int32 × Mem) :=
lt (sI m0 78 0 (0 : Int32)) fun mq1 =>
bnd (F_M_isOn mq1) fun zq4 mq2 =>
lt (fun (zq6 : Bool) (mq5 : Mem) => ((bnd (F_M_throwsIf zq6 (1 : Int32) mq5) fun zq9 mq7 =>
if zq9 = true then (
some ((0 : Int32), mq7)) else (
bnd (F_M_remembers mq7) fun _ mq10 =>
bnd (F_M_draw (4 : Int32) mq10) fun xq15 mq13 =>
bnd (F_M_plays xq15 false mq13) fun xq18 mq16 =>
some (xq15, mq16))) : Option (Int32 × Mem))) fun k18_6 =>
if zq4 = true then (
k18_6 false mq2) else (
k18_6 true mq2)
def F_M_seed (a1 : Int32) (m0 : Mem) : Option (Int32 × Mem) :=
lt (sI m0 78 0 (0 : Int32)) fun mq1 =>
lt (gI mq1 79 9 : Int32) fun xq2 =>
lt (sI mq1 79 9 a1) fun mq3 =>
some (xq2, mq3)
def F_M_session (a1 : Int32) (a2 : Int32) (m0 : Mem) : Option (Int32 × Mem) :=
lt (sI m0 78 0 (0 : Int32)) fun mq1 =>
bnd (F_M_noSession a1 mq1) fun zq4 mq2 =>
bnd (F_M_throwsIf zq4 (1 : Int32) mq2) fun zq7 mq5 =>
if zq7 = true then (
some ((0 : Int32), mq5)) else (
bnd (F_M_in a2 (0 : Int32) (3 : Int32) mq5) fun zq10 mq8 =>
lt (fun (zq12 : Bool) (mq11 : Mem) => ((bnd (F_M_throwsIf zq12 (2 : Int32) mq11) fun zq15 mq13 =>
if zq15 = true then (
some ((0 : Int32), mq13)) else (
if a2 = 0 then (
some (a1 / (3 : Int32), mq13)) else (
ckB (inb (((6 : Int32) + a2) - (1 : Int32)) 1972) <|
lt (gI mq13 79 (((6 : Int32) + a2) - (1 : Int32)).toNatClampNeg) fun xq17 =>
some ((xq17 >>> (a1 &&& 31)) &&& (1 : Int32), mq13)))) : Option (Int32 × Mem))) fun k33_12 =>
if zq10 = true then (
k33_12 false mq8) else (
k33_12 true mq8))
def F_M_share (a1 : Int32) (a2 : Int32) (m0 : Mem) : Option (Int32 × Mem) :=
lt (sI m0 78 0 (0 : Int32)) fun mq1 =>
bnd (F_M_in a1 (0 : Int32) (5 : Int32) mq1) fun zq4 mq2 =>
lt (fun (zq6 : Bool) (mq5 : Mem) => ((bnd (F_M_throwsIf zq6 (1 : Int32) mq5) fun zq9 mq7 =>
if zq9 = true then (
some ((0 : Int32), mq7)) else (
bnd (F_M_bookOf a2 mq7) fun xq12 mq10 =>
if xq12 = 0 then (
some ((0 : Int32), mq10)) else (
bnd (F_M_bookOf a1 mq10) fun xq15 mq13 =>
bnd (F_M_bookOf a2 mq13) fun xq18 mq16 =>
ckB (!decide (xq18 = 0)) <|
some (((10000 : Int32) * xq15) / xq18, mq16)))) : Option (Int32 × Mem))) fun k29_6 =>
lt (fun (mq20 : Mem) => ((k29_6 true mq20) : Option (Int32 × Mem))) fun k24_20 =>
if zq4 = true then (
bnd (F_M_in a2 (0 : Int32) (5 : Int32) mq2) fun zq23 mq21 =>
if zq23 = true then (
k29_6 false mq21) else (
k24_20 mq21)) else (
k24_20 mq2)
def F_M_side (a1 : Int32) (a2 : Bool) (m0 : Mem) : Option (Int32 × Mem) :=
lt (sI m0 78 0 (0 : Int32)) fun mq1 =>
bnd (F_M_noSide a1 mq1) fun zq4 mq2 =>
bnd (F_M_throwsIf zq4 (1 : Int32) mq2) fun zq7 mq5 =>
if zq7 = true then (
some ((0 : Int32), mq5)) else (
lt (fun (zq9 : Bool) (mq8 : Mem) => ((lt (((19 : Int32) + ((2 : Int32) * a1)) + (b2i zq9) : Int32) fun xq10 =>
ckB (inb xq10 1972) <|
lt (gI mq8 79 xq10.toNatClampNeg) fun xq12 =>
some (xq12, mq8)) : Option (Int32 × Mem))) fun k40_9 =>
if a2 = true then (
k40_9 true mq5) else (
k40_9 false mq5))
def F_M_signs (a1 : Int32) (a2 : Int32) (a3 : Bool) (m0 : Mem) : Option (Int32 × Mem) :=
bnd (F_M_readSigns m0) fun zq3 mq1 =>
lt (fun (zq5 : Bool) (mq4 : Mem) => ((bnd (F_M_throwsIf zq5 (1 : Int32) mq4) fun zq8 mq6 =>
if zq8 = true then (
some ((0 : Int32), mq6)) else (
bnd (F_M_mornings a1 a2 (-1 : Int32) (0 : Int32) a3 mq6) fun xq11 mq9 =>
some (xq11, mq9))) : Option (Int32 × Mem))) fun k35_5 =>
lt (fun (mq12 : Mem) => ((k35_5 true mq12) : Option (Int32 × Mem))) fun k30_12 =>
if zq3 = true then (
bnd (F_M_in a1 (0 : Int32) (2 : Int32) mq1) fun zq15 mq13 =>
if zq15 = true then (
bnd (F_M_in a2 (0 : Int32) (3 : Int32) mq13) fun zq18 mq16 =>
if zq18 = true then (
k35_5 false mq16) else (
k30_12 mq16)) else (
k30_12 mq13)) else (
k30_12 mq1)
def F_M_slot (a1 : Int32) (a2 : Int32) (a3 : Bool) (m0 : Mem) : Option (Int32 × Mem) :=
lt (sI m0 78 0 (0 : Int32)) fun mq1 =>
bnd (F_M_in a1 (0 : Int32) (3 : Int32) mq1) fun zq4 mq2 =>
lt (fun (zq6 : Bool) (mq5 : Mem) => ((bnd (F_M_throwsIf zq6 (1 : Int32) mq5) fun zq9 mq7 =>
if zq9 = true then (
some ((0 : Int32), mq7)) else (
lt (fun (zq11 : Bool) (mq10 : Mem) => ((bnd (F_M_ofSlot a1 a2 (b2i zq11) mq10) fun xq14 mq12 =>
some (xq14, mq12)) : Option (Int32 × Mem))) fun k50_11 =>
if a3 = true then (
k50_11 true mq7) else (
k50_11 false mq7))) : Option (Int32 × Mem))) fun k27_6 =>
lt (fun (mq15 : Mem) => ((k27_6 true mq15) : Option (Int32 × Mem))) fun k22_15 =>
if zq4 = true then (
bnd (F_M_noSlot a2 mq2) fun zq18 mq16 =>
if zq18 = true then (
k22_15 mq16) else (
k27_6 false mq16)) else (
k22_15 mq2)
def F_M_streak_L36 (a1 : Int32) : Nat → Int32 → Int32 → Int32 → Mem → Option (Int32 × Mem)
  | 0, _, _, _, _ => none
  | nfq14 + 1, xq11, xq12, xq13, mq10 =>
    if (gI mq10 79 5) ≤ xq13 then (
    some (xq11, mq10)) else (
    bnd (F_M_isSuch xq13 ((3 : Int32) + a1) mq10) fun zq18 mq16 =>
    lt (fun (xq20 : Int32) (mq19 : Mem) => ((lt (mxI xq11 xq20 : Int32) fun xq21 =>
    lt (xq13 + (1 : Int32) : Int32) fun xq22 =>
    F_M_streak_L36 a1 nfq14 xq21 xq20 xq22 mq19) : Option (Int32 × Mem))) fun k66_20 =>
    if zq18 = true then (
    k66_20 (xq12 + (1 : Int32)) mq16) else (
    k66_20 (0 : Int32) mq16))
def F_M_streak (a1 : Int32) (m0 : Mem) : Option (Int32 × Mem) :=
lt (sI m0 78 0 (0 : Int32)) fun mq1 =>
bnd (F_M_in a1 (0 : Int32) (2 : Int32) mq1) fun zq4 mq2 =>
lt (fun (zq6 : Bool) (mq5 : Mem) => ((bnd (F_M_throwsIf zq6 (1 : Int32) mq5) fun zq9 mq7 =>
if zq9 = true then (
some ((0 : Int32), mq7)) else (
F_M_streak_L36 a1 1000000 (0 : Int32) (0 : Int32) (0 : Int32) mq7)) : Option (Int32 × Mem))) fun k20_6 =>
if zq4 = true then (
k20_6 false mq2) else (
k20_6 true mq2)
def F_M_swing_L177 (xq29 : Int32) : Nat → Int32 → Mem → Option (Int32 × Mem)
  | 0, _, _ => none
  | nfq32 + 1, xq31, mq30 =>
    if (298 : Int32) ≤ xq31 then (
    some (xq29, mq30)) else (
    ckB (inb xq31 298) <|
    lt (gI mq30 90 xq31.toNatClampNeg) fun xq35 =>
    ckB (inb xq31 1972) <|
    lt (sI mq30 79 xq31.toNatClampNeg xq35) fun mq36 =>
    lt (xq31 + (1 : Int32) : Int32) fun xq38 =>
    F_M_swing_L177 xq29 nfq32 xq38 mq36)
def F_M_swing_L134 (k167_28 : Mem → Option (Int32 × Mem)) : Nat → Int32 → Mem → Option (Int32 × Mem)
  | 0, _, _ => none
  | nfq41 + 1, xq40, mq39 =>
    if (gI mq39 78 10) ≤ xq40 then (
    k167_28 mq39) else (
    bnd (F_M_isOver mq39) fun zq45 mq43 =>
    if zq45 = true then (
    k167_28 mq43) else (
    ckB (inb xq40 400) <|
    lt (gI mq43 83 xq40.toNatClampNeg) fun xq47 =>
    bnd (F_M_plays xq47 false mq43) fun xq50 mq48 =>
    lt (xq40 + (1 : Int32) : Int32) fun xq51 =>
    F_M_swing_L134 k167_28 nfq41 xq51 mq48))
def F_M_swing_L107 (k132_27 : Mem → Option (Int32 × Mem)) : Nat → Int32 → Mem → Option (Int32 × Mem)
  | 0, _, _ => none
  | nfq54 + 1, xq53, mq52 =>
    if (298 : Int32) ≤ xq53 then (
    k132_27 mq52) else (
    ckB (inb xq53 1972) <|
    lt (gI mq52 79 xq53.toNatClampNeg) fun xq57 =>
    ckB (inb xq53 298) <|
    lt (sI mq52 90 xq53.toNatClampNeg xq57) fun mq58 =>
    lt (xq53 + (1 : Int32) : Int32) fun xq60 =>
    F_M_swing_L107 k132_27 nfq54 xq60 mq58)
def F_M_swing_L50 (k86_21 : Bool → Mem → Option (Int32 × Mem)) : Nat → Bool → Int32 → Mem → Option (Int32 × Mem)
  | 0, _, _, _ => none
  | nfq64 + 1, zq62, xq63, mq61 =>
    if (gI mq61 78 10) ≤ xq63 then (
    k86_21 zq62 mq61) else (
    if zq62 = true then (
    ckB (inb xq63 400) <|
    lt (gI mq61 83 xq63.toNatClampNeg) fun xq67 =>
    bnd (F_M_noSlot xq67 mq61) fun zq70 mq68 =>
    lt (fun (zq72 : Bool) (mq71 : Mem) => ((lt (xq63 + (1 : Int32) : Int32) fun xq73 =>
    F_M_swing_L50 k86_21 nfq64 zq72 xq73 mq71) : Option (Int32 × Mem))) fun k79_72 =>
    if zq70 = true then (
    k79_72 false mq68) else (
    k79_72 true mq68)) else (
    k86_21 zq62 mq61))
def F_M_swing (m0 : Mem) : Option (Int32 × Mem) :=
bnd (F_M_uses m0) fun _ mq1 =>
bnd (F_M_isOn mq1) fun zq6 mq4 =>
lt (fun (zq8 : Bool) (mq7 : Mem) => ((bnd (F_M_throwsIf zq8 (1 : Int32) mq7) fun zq11 mq9 =>
if zq11 = true then (
some ((0 : Int32), mq9)) else (
bnd (F_M_size mq9) fun xq14 mq12 =>
bnd (F_M_played mq12) fun xq17 mq15 =>
lt (fun (zq19 : Bool) (mq18 : Mem) => ((lt (fun (zq21 : Bool) (mq20 : Mem) => ((lt (fun (zq23 : Bool) (mq22 : Mem) => ((bnd (F_M_throwsIf zq23 (2 : Int32) mq22) fun zq26 mq24 =>
if zq26 = true then (
some ((0 : Int32), mq24)) else (
lt (fun (mq27 : Mem) => ((lt (fun (mq28 : Mem) => ((lt (gI mq28 79 18 : Int32) fun xq29 =>
F_M_swing_L177 xq29 1000000 (0 : Int32) mq28) : Option (Int32 × Mem))) fun k167_28 =>
F_M_swing_L134 k167_28 1000000 (0 : Int32) mq27) : Option (Int32 × Mem))) fun k132_27 =>
F_M_swing_L107 k132_27 1000000 (0 : Int32) mq24)) : Option (Int32 × Mem))) fun k96_23 =>
if zq21 = true then (
k96_23 false mq20) else (
k96_23 true mq20)) : Option (Int32 × Mem))) fun k86_21 =>
F_M_swing_L50 k86_21 1000000 zq19 (0 : Int32) mq18) : Option (Int32 × Mem))) fun k47_19 =>
if (gI mq9 78 10) = (xq14 - xq17) then (
k47_19 true mq15) else (
k47_19 false mq15))) : Option (Int32 × Mem))) fun k17_8 =>
if zq6 = true then (
k17_8 false mq4) else (
k17_8 true mq4)
def F_M_table_L57 (a1 : Int32) (a4 : Bool) (xq12 : Int32) : Nat → Int32 → Int32 → Mem → Option (Int32 × Mem)
  | 0, _, _, _ => none
  | nfq16 + 1, xq14, xq15, mq13 =>
    if (4 : Int32) ≤ xq15 then (
    some (xq14, mq13)) else (
    bnd (F_M_isRain a1 mq13) fun zq20 mq18 =>
    if zq20 = true then (
    some (xq14, mq18)) else (
    lt (fun (zq22 : Bool) (mq21 : Mem) => ((bnd (F_M_ofSlot xq12 xq15 (b2i zq22) mq21) fun xq25 mq23 =>
    lt (xq14 + xq25 : Int32) fun xq26 =>
    lt (xq15 + (1 : Int32) : Int32) fun xq27 =>
    F_M_table_L57 a1 a4 xq12 nfq16 xq26 xq27 mq23) : Option (Int32 × Mem))) fun k88_22 =>
    if a4 = true then (
    k88_22 true mq18) else (
    k88_22 false mq18)))
def F_M_table (a1 : Int32) (a2 : Int32) (a3 : Int32) (a4 : Bool) (m0 : Mem) : Option (Int32 × Mem) :=
lt (sI m0 78 0 (0 : Int32)) fun mq1 =>
bnd (F_M_noSession a1 mq1) fun zq4 mq2 =>
lt (fun (zq6 : Bool) (mq5 : Mem) => ((bnd (F_M_throwsIf zq6 (1 : Int32) mq5) fun zq9 mq7 =>
if zq9 = true then (
some ((0 : Int32), mq7)) else (
bnd (F_M_levelOf a1 a2 a3 mq7) fun xq12 mq10 =>
F_M_table_L57 a1 a4 xq12 1000000 (0 : Int32) (0 : Int32) mq10)) : Option (Int32 × Mem))) fun k33_6 =>
lt (fun (mq28 : Mem) => ((k33_6 true mq28) : Option (Int32 × Mem))) fun k28_28 =>
if zq4 = true then (
k28_28 mq2) else (
bnd (F_M_noInnings a2 mq2) fun zq31 mq29 =>
if zq31 = true then (
k28_28 mq29) else (
bnd (F_M_noSide a3 mq29) fun zq34 mq32 =>
if zq34 = true then (
k28_28 mq32) else (
k33_6 false mq32)))
def F_M_target (a1 : Bool) (m0 : Mem) : Option (Int32 × Mem) :=
lt (sI m0 78 0 (0 : Int32)) fun mq1 =>
bnd (F_M_canHold mq1) fun zq4 mq2 =>
lt (fun (zq6 : Bool) (mq5 : Mem) => ((bnd (F_M_throwsIf zq6 (1 : Int32) mq5) fun zq9 mq7 =>
if zq9 = true then (
some ((0 : Int32), mq7)) else (
bnd (F_M_batter mq7) fun xq12 mq10 =>
bnd (F_M_leadOf xq12 mq10) fun xq15 mq13 =>
lt ((1 : Int32) - xq15 : Int32) fun xq16 =>
bnd (F_M_size mq13) fun xq19 mq17 =>
bnd (F_M_played mq17) fun xq22 mq20 =>
lt (xq19 - xq22 : Int32) fun xq23 =>
if a1 = true then (
ckB (!decide (xq23 = 0)) <|
some (((xq16 + xq23) - (1 : Int32)) / xq23, mq20)) else (
some (xq16, mq20)))) : Option (Int32 × Mem))) fun k18_6 =>
if zq4 = true then (
k18_6 false mq2) else (
k18_6 true mq2)
def F_M_thrown (m0 : Mem) : Option (Int32 × Mem) :=
some (gI m0 78 0, m0)
def F_M_toss (a1 : Int32) (m0 : Mem) : Option (Int32 × Mem) :=
lt (sI m0 78 0 (0 : Int32)) fun mq1 =>
bnd (F_M_noSide a1 mq1) fun zq4 mq2 =>
bnd (F_M_throwsIf zq4 (1 : Int32) mq2) fun zq7 mq5 =>
if zq7 = true then (
some ((0 : Int32), mq5)) else (
bnd (F_M_firstSide mq5) fun xq10 mq8 =>
lt (fun (zq12 : Bool) (mq11 : Mem) => ((bnd (F_M_throwsIf zq12 (2 : Int32) mq11) fun zq15 mq13 =>
if zq15 = true then (
some ((0 : Int32), mq13)) else (
bnd (F_M_remembers mq13) fun _ mq16 =>
lt (sI mq16 79 10 a1) fun mq19 =>
lt (sI mq19 79 14 (1 : Int32)) fun mq20 =>
bnd (F_M_levelOf (0 : Int32) (0 : Int32) a1 mq20) fun xq23 mq21 =>
some (xq23, mq21))) : Option (Int32 × Mem))) fun k30_12 =>
if xq10 < 0 then (
k30_12 false mq8) else (
k30_12 true mq8))
def F_M_turning_L34 (a1 : Bool) : Nat → Int32 → Int64 → Int32 → Mem → Option (Int32 × Mem)
  | 0, _, _, _, _ => none
  | nfq14 + 1, xq11, yq12, xq13, mq10 =>
    if (4 : Int32) ≤ xq13 then (
    some (xq11, mq10)) else (
    bnd (F_M_countsAfter xq13 mq10) fun _ mq16 =>
    lt (fun (yq20 : Int64) (mq19 : Mem) => ((lt (fun (xq22 : Int32) (yq23 : Int64) (mq21 : Mem) => ((lt (xq13 + (1 : Int32) : Int32) fun xq24 =>
    F_M_turning_L34 a1 nfq14 xq22 yq23 xq24 mq21) : Option (Int32 × Mem))) fun k96_23 =>
    lt (fun (mq25 : Mem) => ((k96_23 xq13 yq20 mq25) : Option (Int32 × Mem))) fun k90_25 =>
    if xq11 < 0 then (
    k90_25 mq19) else (
    if yq12 < yq20 then (
    k90_25 mq19) else (
    k96_23 xq11 yq12 mq19))) : Option (Int32 × Mem))) fun k74_20 =>
    if a1 = true then (
    bnd (F_M_played mq16) fun xq34 mq32 =>
    bnd (F_M_got (xq34 + (1 : Int32)) mq32) fun yq37 mq35 =>
    k74_20 (-yq37) mq35) else (
    bnd (F_M_played mq16) fun xq28 mq26 =>
    bnd (F_M_got (xq28 + (1 : Int32)) mq26) fun yq31 mq29 =>
    k74_20 yq31 mq29))
def F_M_turning (a1 : Bool) (m0 : Mem) : Option (Int32 × Mem) :=
lt (sI m0 78 0 (0 : Int32)) fun mq1 =>
bnd (F_M_isOn mq1) fun zq4 mq2 =>
lt (fun (zq6 : Bool) (mq5 : Mem) => ((bnd (F_M_throwsIf zq6 (1 : Int32) mq5) fun zq9 mq7 =>
if zq9 = true then (
some ((0 : Int32), mq7)) else (
F_M_turning_L34 a1 1000000 (-1 : Int32) (0 : Int64) (0 : Int32) mq7)) : Option (Int32 × Mem))) fun k18_6 =>
if zq4 = true then (
k18_6 false mq2) else (
k18_6 true mq2)
def F_M_turnover_L55 (a1 : Int32) (a2 : Int32) : Nat → Int32 → Mem → Option (Int32 × Mem)
  | 0, _, _ => none
  | nfq22 + 1, xq21, mq20 =>
    if xq21 < 0 then (
    some (xq21, mq20)) else (
    bnd (F_M_isChosen a1 (4 : Int32) a2 (-xq21) mq20) fun zq26 mq24 =>
    if zq26 = true then (
    lt (xq21 + (-1 : Int32) : Int32) fun xq27 =>
    F_M_turnover_L55 a1 a2 nfq22 xq27 mq24) else (
    some (xq21, mq24)))
def F_M_turnover (a1 : Int32) (a2 : Int32) (m0 : Mem) : Option (Int32 × Mem) :=
lt (sI m0 78 0 (0 : Int32)) fun mq1 =>
bnd (F_M_noPlayed a1 mq1) fun zq4 mq2 =>
bnd (F_M_throwsIf zq4 (1 : Int32) mq2) fun zq7 mq5 =>
if zq7 = true then (
some ((0 : Int32), mq5)) else (
bnd (F_M_noState (0 : Int32) a2 mq5) fun zq10 mq8 =>
bnd (F_M_throwsIf zq10 (2 : Int32) mq8) fun zq13 mq11 =>
if zq13 = true then (
some ((0 : Int32), mq11)) else (
bnd (F_M_size mq11) fun xq16 mq14 =>
if a1 = xq16 then (
some ((81 : Int32), mq14)) else (
bnd (F_M_countsFrom a1 (81 : Int32) mq14) fun _ mq17 =>
F_M_turnover_L55 a1 a2 1000000 (81 : Int32) mq17)))
def F_M_undo_L26  : Nat → Int32 → Mem → Option (Bool × Mem)
  | 0, _, _ => none
  | nfq5 + 1, xq4, mq3 =>
    if (298 : Int32) ≤ xq4 then (
    some (true, mq3)) else (
    ckB (inb (((298 : Int32) * (gI mq3 78 6)) + xq4) 3576) <|
    lt (gI mq3 82 (((298 : Int32) * (gI mq3 78 6)) + xq4).toNatClampNeg) fun xq8 =>
    ckB (inb xq4 1972) <|
    lt (sI mq3 79 xq4.toNatClampNeg xq8) fun mq9 =>
    lt (xq4 + (1 : Int32) : Int32) fun xq11 =>
    F_M_undo_L26 nfq5 xq11 mq9)
def F_M_undo (m0 : Mem) : Option (Bool × Mem) :=
lt (sI m0 78 0 (0 : Int32)) fun mq1 =>
if (gI mq1 78 6) = 0 then (
some (false, mq1)) else (
lt (sI mq1 78 6 ((gI mq1 78 6) - (1 : Int32))) fun mq2 =>
F_M_undo_L26 1000000 (0 : Int32) mq2)
def F_M_well_L41  : Nat → Int32 → Int32 → Mem → Option (Int32 × Mem)
  | 0, _, _, _ => none
  | nfq6 + 1, xq4, xq5, mq3 =>
    if (gI mq3 79 5) ≤ xq5 then (
    some (xq4, mq3)) else (
    bnd (F_M_ofBook xq5 (0 : Int32) mq3) fun xq10 mq8 =>
    ckB (inb xq10 2) <|
    lt (gL mq8 89 xq10.toNatClampNeg) fun yq12 =>
    lt (fun (zq14 : Bool) (mq13 : Mem) => ((lt (xq4 + (b2i zq14) : Int32) fun xq15 =>
    lt (xq5 + (1 : Int32) : Int32) fun xq16 =>
    F_M_well_L41 nfq6 xq15 xq16 mq13) : Option (Int32 × Mem))) fun k109_14 =>
    lt (fun (mq17 : Mem) => ((k109_14 true mq17) : Option (Int32 × Mem))) fun k104_17 =>
    if yq12 = (0 : Int64) then (
    k104_17 mq8) else (
    lt (fun (zq19 : Bool) (mq18 : Mem) => ((bnd (F_M_ofBook xq5 (1 : Int32) mq18) fun xq22 mq20 =>
    bnd (F_M_ofBook xq5 (0 : Int32) mq20) fun xq25 mq23 =>
    lt (fun (zq27 : Bool) (mq26 : Mem) => ((if (b2i zq19) = (b2i zq27) then (
    k104_17 mq26) else (
    k109_14 false mq26)) : Option (Int32 × Mem))) fun k101_27 =>
    if xq22 = xq25 then (
    k101_27 true mq23) else (
    k101_27 false mq23)) : Option (Int32 × Mem))) fun k81_19 =>
    if yq12 ≤ (0 : Int64) then (
    k81_19 false mq8) else (
    k81_19 true mq8)))
def F_M_well_L7 (k37_2 : Mem → Option (Int32 × Mem)) : Nat → Int32 → Mem → Option (Int32 × Mem)
  | 0, _, _ => none
  | nfq30 + 1, xq29, mq28 =>
    if (2 : Int32) ≤ xq29 then (
    k37_2 mq28) else (
    bnd (F_M_tossWorth xq29 true mq28) fun yq34 mq32 =>
    bnd (F_M_tossWorth xq29 false mq32) fun yq37 mq35 =>
    ckB (inb xq29 2) <|
    lt (sL mq35 89 xq29.toNatClampNeg (yq34 - yq37)) fun mq38 =>
    lt (xq29 + (1 : Int32) : Int32) fun xq40 =>
    F_M_well_L7 k37_2 nfq30 xq40 mq38)
def F_M_well (m0 : Mem) : Option (Int32 × Mem) :=
lt (sI m0 78 0 (0 : Int32)) fun mq1 =>
lt (fun (mq2 : Mem) => ((F_M_well_L41 1000000 (0 : Int32) (0 : Int32) mq2) : Option (Int32 × Mem))) fun k37_2 =>
F_M_well_L7 k37_2 1000000 (0 : Int32) mq1
def F_M_when_L55 (a1 : Int32) (a2 : Int32) (k78_21 : Int32 → Mem → Option (Int32 × Mem)) : Nat → Int32 → Mem → Option (Int32 × Mem)
  | 0, _, _ => none
  | nfq24 + 1, xq23, mq22 =>
    if (81 : Int32) < xq23 then (
    k78_21 xq23 mq22) else (
    bnd (F_M_isChosen a1 (2 : Int32) a2 xq23 mq22) fun zq28 mq26 =>
    if zq28 = true then (
    k78_21 xq23 mq26) else (
    lt (xq23 + (1 : Int32) : Int32) fun xq29 =>
    F_M_when_L55 a1 a2 k78_21 nfq24 xq29 mq26))
def F_M_when (a1 : Int32) (a2 : Int32) (m0 : Mem) : Option (Int32 × Mem) :=
lt (sI m0 78 0 (0 : Int32)) fun mq1 =>
bnd (F_M_noPlayed a1 mq1) fun zq4 mq2 =>
bnd (F_M_throwsIf zq4 (1 : Int32) mq2) fun zq7 mq5 =>
if zq7 = true then (
some ((0 : Int32), mq5)) else (
bnd (F_M_noState (0 : Int32) a2 mq5) fun zq10 mq8 =>
bnd (F_M_throwsIf zq10 (2 : Int32) mq8) fun zq13 mq11 =>
if zq13 = true then (
some ((0 : Int32), mq11)) else (
bnd (F_M_size mq11) fun xq16 mq14 =>
if a1 = xq16 then (
some ((-99 : Int32), mq14)) else (
bnd (F_M_countsFrom a1 (81 : Int32) mq14) fun _ mq17 =>
lt (fun (xq21 : Int32) (mq20 : Mem) => ((if xq21 ≤ (81 : Int32) then (
some (xq21, mq20)) else (
some ((-99 : Int32), mq20))) : Option (Int32 × Mem))) fun k78_21 =>
F_M_when_L55 a1 a2 k78_21 1000000 (-81 : Int32) mq17)))
def F_M_wins (a1 : Int32) (a2 : Int32) (a3 : Bool) (a4 : Int32) (a5 : Int32) (a6 : Int32) (m0 : Mem) : Option (Int64 × Mem) :=
lt (sI m0 78 0 (0 : Int32)) fun mq1 =>
bnd (F_M_noPlayed a1 mq1) fun zq4 mq2 =>
lt (fun (zq6 : Bool) (mq5 : Mem) => ((bnd (F_M_throwsIf zq6 (1 : Int32) mq5) fun zq9 mq7 =>
if zq9 = true then (
some ((0 : Int64), mq7)) else (
bnd (F_M_noState a4 a5 mq7) fun zq12 mq10 =>
bnd (F_M_throwsIf zq12 (2 : Int32) mq10) fun zq15 mq13 =>
if zq15 = true then (
some ((0 : Int64), mq13)) else (
bnd (F_M_in a6 (0 : Int32) (2 : Int32) mq13) fun zq18 mq16 =>
lt (fun (zq20 : Bool) (mq19 : Mem) => ((bnd (F_M_throwsIf zq20 (3 : Int32) mq19) fun zq23 mq21 =>
if zq23 = true then (
some ((0 : Int64), mq21)) else (
bnd (F_M_countsFrom a1 a4 mq21) fun _ mq24 =>
lt (sI mq24 78 23 (0 : Int32)) fun mq27 =>
lt (sI mq27 78 24 (0 : Int32)) fun mq28 =>
bnd (F_M_size mq28) fun xq31 mq29 =>
lt (fun (mq32 : Mem) => ((bnd (F_M_waysOf a6 a1 (0 : Int32) mq32) fun yq35 mq33 =>
some (yq35, mq33)) : Option (Int64 × Mem))) fun k113_32 =>
if xq31 ≤ a1 then (
k113_32 mq29) else (
bnd (F_M_kindOf a2 a3 mq29) fun xq38 mq36 =>
bnd (F_M_takes a1 xq38 a5 a4 mq36) fun _ mq39 =>
k113_32 mq39))) : Option (Int64 × Mem))) fun k65_20 =>
if zq18 = true then (
k65_20 false mq16) else (
k65_20 true mq16)))) : Option (Int64 × Mem))) fun k26_6 =>
lt (fun (mq42 : Mem) => ((k26_6 true mq42) : Option (Int64 × Mem))) fun k21_42 =>
if zq4 = true then (
k21_42 mq2) else (
bnd (F_M_noInnings a2 mq2) fun zq45 mq43 =>
if zq45 = true then (
k21_42 mq43) else (
k26_6 false mq43))
def F_M_worth (a1 : Int32) (a2 : Int32) (m0 : Mem) : Option (Int64 × Mem) :=
lt (sI m0 78 0 (0 : Int32)) fun mq1 =>
bnd (F_M_noSide a1 mq1) fun zq4 mq2 =>
bnd (F_M_throwsIf zq4 (1 : Int32) mq2) fun zq7 mq5 =>
if zq7 = true then (
some ((0 : Int64), mq5)) else (
bnd (F_M_in a2 (0 : Int32) (3 : Int32) mq5) fun zq10 mq8 =>
lt (fun (zq12 : Bool) (mq11 : Mem) => ((bnd (F_M_throwsIf zq12 (2 : Int32) mq11) fun zq15 mq13 =>
if zq15 = true then (
some ((0 : Int64), mq13)) else (
if a2 = 0 then (
bnd (F_M_tossWorth a1 true mq13) fun yq18 mq16 =>
some (yq18, mq16)) else (
if a2 = 1 then (
bnd (F_M_tossWorth a1 false mq13) fun yq21 mq19 =>
some (yq21, mq19)) else (
if a2 = 2 then (
bnd (F_M_tossWorth a1 true mq13) fun yq24 mq22 =>
bnd (F_M_tossWorth a1 false mq22) fun yq27 mq25 =>
some (abL (yq24 - yq27), mq25)) else (
bnd (F_M_leftTo a1 mq13) fun yq30 mq28 =>
some (yq30, mq28)))))) : Option (Int64 × Mem))) fun k32_12 =>
if zq10 = true then (
k32_12 false mq8) else (
k32_12 true mq8))
