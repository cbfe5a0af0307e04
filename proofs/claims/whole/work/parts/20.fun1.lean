def F_GT_keep (a1 : Int32) (a2 : Int32) (a3 : Int32) (a4 : Int32) (a5 : Int32) (m0 : Mem) : Option (Unit × Mem) :=
lt ((gI m0 46 8) * (5 : Int32) : Int32) fun xq1 =>
if xq1 < 0 then (
some ((), m0)) else (
if (70 : Int32) < (xq1 + (5 : Int32)) then (
some ((), m0)) else (
ckB (inb xq1 70) <|
lt (sI m0 51 xq1.toNatClampNeg a1) fun mq2 =>
ckB (inb (xq1 + (1 : Int32)) 70) <|
lt (sI mq2 51 (xq1 + (1 : Int32)).toNatClampNeg a2) fun mq4 =>
ckB (inb (xq1 + (2 : Int32)) 70) <|
lt (sI mq4 51 (xq1 + (2 : Int32)).toNatClampNeg a3) fun mq6 =>
ckB (inb (xq1 + (3 : Int32)) 70) <|
lt (sI mq6 51 (xq1 + (3 : Int32)).toNatClampNeg a4) fun mq8 =>
ckB (inb (xq1 + (4 : Int32)) 70) <|
lt (sI mq8 51 (xq1 + (4 : Int32)).toNatClampNeg a5) fun mq10 =>
lt (sI mq10 46 8 ((gI mq10 46 8) + (1 : Int32))) fun mq12 =>
some ((), mq12)))
def F_GT_readBook (m0 : Mem) : Option (Unit × Mem) :=
bnd (F_Tx_numberG (0 : Int32) (1 : Int32) m0) fun xq3 mq1 =>
bnd (F_Tx_numberG (0 : Int32) (1 : Int32) mq1) fun xq6 mq4 =>
bnd (F_Tx_numberG (0 : Int32) (2 : Int32) mq4) fun xq9 mq7 =>
lt (sI mq7 46 9 ((gI mq7 46 9) + (1 : Int32))) fun mq10 =>
bnd (F_GT_keep (8 : Int32) xq3 xq6 xq9 (0 : Int32) mq10) fun _ mq11 =>
some ((), mq11)
def F_Tx_isAtNumberG (m0 : Mem) : Option (Bool × Mem) :=
bnd (F_Tx_isAtG (1 : Int32) m0) fun zq3 mq1 =>
some (zq3, mq1)
def F_GT_readBits_L12  : Nat → Int32 → Int32 → Mem → Option (Int32 × Mem)
  | 0, _, _, _ => none
  | nfq8 + 1, xq6, xq7, mq5 =>
    if (400 : Int32) ≤ xq7 then (
    some (xq6, mq5)) else (
    bnd (F_Tx_isAtNumberG mq5) fun zq12 mq10 =>
    if zq12 = true then (
    bnd (F_Tx_numberG (0 : Int32) (8 : Int32) mq10) fun xq15 mq13 =>
    lt (xq6 ||| ((1 : Int32) <<< (xq15 &&& 31)) : Int32) fun xq16 =>
    lt (xq7 + (1 : Int32) : Int32) fun xq17 =>
    F_GT_readBits_L12 nfq8 xq16 xq17 mq13) else (
    some (xq6, mq10)))
def F_GT_readBits (m0 : Mem) : Option (Int32 × Mem) :=
bnd (F_Tx_numberG (0 : Int32) (8 : Int32) m0) fun xq3 mq1 =>
lt ((1 : Int32) <<< (xq3 &&& 31) : Int32) fun xq4 =>
F_GT_readBits_L12 1000000 xq4 (0 : Int32) mq1
def F_Tx_mustTakeG (tx1 : String) (m0 : Mem) : Option (Unit × Mem) :=
bnd (F_Tx_takesWordG tx1 m0) fun zq3 mq1 =>
if zq3 = true then (
some ((), mq1)) else (
bnd (F_Tx_setWrongG mq1) fun _ mq4 =>
some ((), mq4))
def F_GT_readSlot (m0 : Mem) : Option (Unit × Mem) :=
bnd (F_Tx_numberG (0 : Int32) (3 : Int32) m0) fun xq3 mq1 =>
bnd (F_Tx_numberG (0 : Int32) (3 : Int32) mq1) fun xq6 mq4 =>
bnd (F_Tx_mustTakeG ("runs") mq4) fun _ mq7 =>
bnd (F_Tx_numberG (0 : Int32) (9 : Int32) mq7) fun xq12 mq10 =>
bnd (F_Tx_mustTakeG ("outs") mq10) fun _ mq13 =>
bnd (F_Tx_numberG (0 : Int32) (9 : Int32) mq13) fun xq18 mq16 =>
bnd (F_GT_keep (2 : Int32) xq3 xq6 xq12 xq18 mq16) fun _ mq19 =>
some ((), mq19)
def F_GT_readSide (m0 : Mem) : Option (Unit × Mem) :=
bnd (F_Tx_numberG (0 : Int32) (1 : Int32) m0) fun xq3 mq1 =>
bnd (F_Tx_mustTakeG ("bat") mq1) fun _ mq4 =>
bnd (F_Tx_numberG (0 : Int32) (9 : Int32) mq4) fun xq9 mq7 =>
bnd (F_Tx_mustTakeG ("bowl") mq7) fun _ mq10 =>
bnd (F_Tx_numberG (0 : Int32) (9 : Int32) mq10) fun xq15 mq13 =>
bnd (F_GT_keep (1 : Int32) xq3 xq9 xq15 (0 : Int32) mq13) fun _ mq16 =>
some ((), mq16)
def F_GT_readLine (m0 : Mem) : Option (Unit × Mem) :=
lt (fun (mq1 : Mem) => ((bnd (F_Tx_takesWordG ("side") mq1) fun zq4 mq2 =>
if zq4 = true then (
bnd (F_GT_readSide mq2) fun _ mq66 =>
some ((), mq66)) else (
bnd (F_Tx_takesWordG ("slot") mq2) fun zq7 mq5 =>
if zq7 = true then (
bnd (F_GT_readSlot mq5) fun _ mq63 =>
some ((), mq63)) else (
bnd (F_Tx_takesWordG ("cloud") mq5) fun zq10 mq8 =>
if zq10 = true then (
bnd (F_GT_readBits mq8) fun xq59 mq57 =>
bnd (F_GT_keep (3 : Int32) xq59 (0 : Int32) (0 : Int32) (0 : Int32) mq57) fun _ mq60 =>
some ((), mq60)) else (
bnd (F_Tx_takesWordG ("tide") mq8) fun zq13 mq11 =>
if zq13 = true then (
bnd (F_GT_readBits mq11) fun xq53 mq51 =>
bnd (F_GT_keep (4 : Int32) xq53 (0 : Int32) (0 : Int32) (0 : Int32) mq51) fun _ mq54 =>
some ((), mq54)) else (
bnd (F_Tx_takesWordG ("rain") mq11) fun zq16 mq14 =>
if zq16 = true then (
bnd (F_GT_readBits mq14) fun xq47 mq45 =>
bnd (F_GT_keep (5 : Int32) xq47 (0 : Int32) (0 : Int32) (0 : Int32) mq45) fun _ mq48 =>
some ((), mq48)) else (
bnd (F_Tx_takesWordG ("margin") mq14) fun zq19 mq17 =>
if zq19 = true then (
bnd (F_Tx_numberG (0 : Int32) (99 : Int32) mq17) fun xq41 mq39 =>
bnd (F_GT_keep (6 : Int32) xq41 (0 : Int32) (0 : Int32) (0 : Int32) mq39) fun _ mq42 =>
some ((), mq42)) else (
bnd (F_Tx_takesWordG ("drawworth") mq17) fun zq22 mq20 =>
if zq22 = true then (
bnd (F_Tx_numberG (0 : Int32) (100 : Int32) mq20) fun xq35 mq33 =>
bnd (F_GT_keep (7 : Int32) xq35 (0 : Int32) (0 : Int32) (0 : Int32) mq33) fun _ mq36 =>
some ((), mq36)) else (
lt (fun (mq23 : Mem) => ((bnd (F_Tx_setWrongG mq23) fun _ mq24 =>
some ((), mq24)) : Option (Unit × Mem))) fun k219_23 =>
if (60 : Int32) ≤ (gI mq20 46 9) then (
k219_23 mq20) else (
bnd (F_Tx_takesWordG ("book") mq20) fun zq29 mq27 =>
if zq29 = true then (
bnd (F_GT_readBook mq27) fun _ mq30 =>
some ((), mq30)) else (
k219_23 mq27)))))))))) : Option (Unit × Mem))) fun k34_1 =>
if (gZ m0 46 10) = true then (
bnd (F_Tx_takesWordG ("sessions") m0) fun zq71 mq69 =>
if zq71 = true then (
bnd (F_Tx_numberG (1 : Int32) (9 : Int32) mq69) fun xq74 mq72 =>
bnd (F_GT_keep (0 : Int32) xq74 (0 : Int32) (0 : Int32) (0 : Int32) mq72) fun _ mq75 =>
some ((), mq75)) else (
k34_1 mq69)) else (
k34_1 m0)
def F_Tx_takesSignG (a1 : Int32) (m0 : Mem) : Option (Bool × Mem) :=
bnd (F_Tx_isAtG (2 : Int32) m0) fun zq3 mq1 =>
if zq3 = true then (
ckB (inb (gI mq1 46 5) 401) <|
lt (gI mq1 49 (gI mq1 46 5).toNatClampNeg) fun xq5 =>
bnd (F_Tx_byteAtG xq5 mq1) fun xq8 mq6 =>
if xq8 = a1 then (
lt (sI mq6 46 5 ((gI mq6 46 5) + (1 : Int32))) fun mq9 =>
some (true, mq9)) else (
some (false, mq6))) else (
some (false, mq1))
def F_Tx_readLinesG_L40 (a3 : Int32) (k78_10 : Int32 → Mem → Option (Int32 × Mem)) (k91_14 : Mem → Option (Int32 × Mem)) : Nat → Int32 → Mem → Option (Int32 × Mem)
  | 0, _, _ => none
  | nfq20 + 1, xq19, mq18 =>
    if a3 < xq19 then (
    k91_14 mq18) else (
    bnd (F_GT_readLine mq18) fun _ mq22 =>
    if (gI mq22 46 6) = (-1 : Int32) then (
    bnd (F_Tx_isAtG (3 : Int32) mq22) fun zq27 mq25 =>
    if zq27 = true then (
    some (xq19, mq25)) else (
    bnd (F_Tx_takesSignG (59 : Int32) mq25) fun zq30 mq28 =>
    if zq30 = true then (
    lt (xq19 + (1 : Int32) : Int32) fun xq31 =>
    F_Tx_readLinesG_L40 a3 k78_10 k91_14 nfq20 xq31 mq28) else (
    k78_10 xq19 mq28))) else (
    some (xq19, mq22)))
def F_Tx_readLinesG (a2 : Int32) (a3 : Int32) (m0 : Mem) : Option (Int32 × Mem) :=
bnd (F_Tx_cutG (mnI a2 (mnI (400 : Int32) (400 : Int32))) m0) fun _ mq1 =>
lt (sI mq1 46 5 (0 : Int32)) fun mq4 =>
lt (sI mq4 46 6 (-1 : Int32)) fun mq5 =>
bnd (F_Tx_isAtG (3 : Int32) mq5) fun zq8 mq6 =>
if zq8 = true then (
some ((0 : Int32), mq6)) else (
lt (fun (xq10 : Int32) (mq9 : Mem) => ((bnd (F_Tx_setWrongG mq9) fun _ mq11 =>
some (xq10, mq11)) : Option (Int32 × Mem))) fun k78_10 =>
lt (fun (mq14 : Mem) => ((bnd (F_Tx_setWrongG mq14) fun _ mq15 =>
some (a3, mq15)) : Option (Int32 × Mem))) fun k91_14 =>
F_Tx_readLinesG_L40 a3 k78_10 k91_14 1000000 (1 : Int32) mq6)
def F_GT_readGround (a2 : Int32) (a3 : Bool) (a4 : Int32) (m0 : Mem) : Option (Int32 × Mem) :=
lt (sI m0 46 8 (0 : Int32)) fun mq1 =>
lt (sI mq1 46 9 a4) fun mq2 =>
lt (sZ mq2 46 10 a3) fun mq3 =>
bnd (F_Tx_readLinesG a2 (14 : Int32) mq3) fun xq6 mq4 =>
some (gI mq4 46 6, mq4)
def F_Gr_setSide (a1 : Int32) (a2 : Int32) (a3 : Int32) (m0 : Mem) : Option (Unit × Mem) :=
if a1 < 0 then (
some ((), m0)) else (
if (2 : Int32) ≤ a1 then (
some ((), m0)) else (
ckB (inb a1 2) <|
lt (sI m0 4 a1.toNatClampNeg a2) fun mq1 =>
ckB (inb a1 2) <|
lt (sI mq1 5 a1.toNatClampNeg a3) fun mq3 =>
some ((), mq3)))
def F_Gr_setSlot (a1 : Int32) (a2 : Int32) (a3 : Int32) (a4 : Int32) (m0 : Mem) : Option (Unit × Mem) :=
lt ((a1 * (4 : Int32)) + a2 : Int32) fun xq1 =>
if xq1 < 0 then (
some ((), m0)) else (
if (16 : Int32) ≤ xq1 then (
some ((), m0)) else (
ckB (inb xq1 16) <|
lt (sI m0 6 xq1.toNatClampNeg a3) fun mq2 =>
ckB (inb xq1 16) <|
lt (sI mq2 7 xq1.toNatClampNeg a4) fun mq4 =>
some ((), mq4)))
def F_Bk_add (a1 : Int32) (a2 : Int32) (a3 : Int32) (m0 : Mem) : Option (Unit × Mem) :=
if (gI m0 12 0) < 0 then (
some ((), m0)) else (
if (60 : Int32) ≤ (gI m0 12 0) then (
some ((), m0)) else (
ckB (inb ((gI m0 12 0) * (3 : Int32)) 180) <|
lt (sI m0 13 ((gI m0 12 0) * (3 : Int32)).toNatClampNeg a1) fun mq1 =>
ckB (inb (((gI mq1 12 0) * (3 : Int32)) + (1 : Int32)) 180) <|
lt (sI mq1 13 (((gI mq1 12 0) * (3 : Int32)) + (1 : Int32)).toNatClampNeg a2) fun mq3 =>
ckB (inb (((gI mq3 12 0) * (3 : Int32)) + (2 : Int32)) 180) <|
lt (sI mq3 13 (((gI mq3 12 0) * (3 : Int32)) + (2 : Int32)).toNatClampNeg a3) fun mq5 =>
lt (sI mq5 12 0 ((gI mq5 12 0) + (1 : Int32))) fun mq7 =>
some ((), mq7)))
def F_GT_tellLine (a2 : Int32) (m0 : Mem) : Option (Unit × Mem) :=
if a2 < 0 then (
some ((), m0)) else (
if (a2 + (5 : Int32)) ≤ (70 : Int32) then (
ckB (inb (a2 + (1 : Int32)) 70) <|
lt (gI m0 51 (a2 + (1 : Int32)).toNatClampNeg) fun xq2 =>
ckB (inb (a2 + (2 : Int32)) 70) <|
lt (gI m0 51 (a2 + (2 : Int32)).toNatClampNeg) fun xq4 =>
ckB (inb (a2 + (3 : Int32)) 70) <|
lt (gI m0 51 (a2 + (3 : Int32)).toNatClampNeg) fun xq6 =>
ckB (inb a2 70) <|
lt (gI m0 51 a2.toNatClampNeg) fun xq8 =>
if xq8 = 0 then (
lt (sI m0 3 0 xq2) fun mq9 =>
some ((), mq9)) else (
if xq8 = 1 then (
bnd (F_Gr_setSide xq2 xq4 xq6 m0) fun _ mq10 =>
some ((), mq10)) else (
if xq8 = 2 then (
ckB (inb (a2 + (4 : Int32)) 70) <|
lt (gI m0 51 (a2 + (4 : Int32)).toNatClampNeg) fun xq14 =>
bnd (F_Gr_setSlot xq2 xq4 xq6 xq14 m0) fun _ mq15 =>
some ((), mq15)) else (
if xq8 = 3 then (
lt (sI m0 3 1 ((gI m0 3 1) ||| xq2)) fun mq18 =>
some ((), mq18)) else (
if xq8 = 4 then (
lt (sI m0 3 2 ((gI m0 3 2) ||| xq2)) fun mq19 =>
some ((), mq19)) else (
if xq8 = 5 then (
lt (sI m0 3 3 ((gI m0 3 3) ||| xq2)) fun mq20 =>
some ((), mq20)) else (
if xq8 = 6 then (
lt (sI m0 3 4 xq2) fun mq21 =>
some ((), mq21)) else (
if xq8 = 7 then (
lt (sI m0 3 5 xq2) fun mq22 =>
some ((), mq22)) else (
bnd (F_Bk_add xq2 xq4 xq6 m0) fun _ mq23 =>
some ((), mq23)))))))))) else (
some ((), m0)))
def F_GT_tell_L2  : Nat → Int32 → Mem → Option (Unit × Mem)
  | 0, _, _ => none
  | nfq3 + 1, xq2, mq1 =>
    if (gI mq1 46 8) ≤ xq2 then (
    some ((), mq1)) else (
    if (14 : Int32) ≤ xq2 then (
    some ((), mq1)) else (
    bnd (F_GT_tellLine (xq2 * (5 : Int32)) mq1) fun _ mq5 =>
    lt (xq2 + (1 : Int32) : Int32) fun xq8 =>
    F_GT_tell_L2 nfq3 xq8 mq5))
def F_GT_tell (m0 : Mem) : Option (Unit × Mem) :=
F_GT_tell_L2 1000000 (0 : Int32) m0
def F_T_ground (m0 : Mem) : Option ((Nat ⊕ Int32) × Mem) :=
bnd (F_T_useTape m0) fun xq3 mq1 =>
lt (fun (zq5 : Bool) (mq4 : Mem) => ((bnd (F_GT_readGround xq3 zq5 (gI mq4 12 0) mq4) fun xq8 mq6 =>
lt (sI mq6 0 2 xq8) fun mq9 =>
if (gI mq9 0 2) = (-1 : Int32) then (
if (gI mq9 3 6) < (12 : Int32) then (
bnd (F_GT_tell mq9) fun _ mq10 =>
lt (sI mq10 3 6 ((gI mq10 3 6) + (1 : Int32))) fun mq13 =>
bnd (F_T_startAfresh mq13) fun _ mq14 =>
some (.inr (gI mq14 3 6), mq14)) else (
some (.inl 3, mq9))) else (
some (.inl 1, mq9))) : Option ((Nat ⊕ Int32) × Mem))) fun k29_5 =>
if (gI mq1 16 0) = (-1 : Int32) then (
k29_5 true mq1) else (
k29_5 false mq1)
def F_T_habit (a1 : Bool) (m0 : Mem) : Option (Bool × Mem) :=
bnd (F_Bk_tally (0 : Int32) m0) fun xq3 mq1 =>
if a1 = true then (
bnd (F_Bk_tally (3 : Int32) mq1) fun xq9 mq7 =>
bnd (F_Bk_tally (5 : Int32) mq7) fun xq12 mq10 =>
if xq9 = ((xq3 - xq12) - xq9) then (
some (true, mq10)) else (
some (false, mq10))) else (
if xq3 ≤ 0 then (
some (false, mq1)) else (
bnd (F_Bk_tally (1 : Int32) mq1) fun xq6 mq4 =>
if (xq6 * (10 : Int32)) < (xq3 * (9 : Int32)) then (
some (false, mq4)) else (
some (true, mq4))))
def F_T_hardest_L20 (a1 : Int32) (a2 : Int32) : Nat → Int32 → Int32 → Int32 → Mem → Option ((Nat ⊕ Int32) × Mem)
  | 0, _, _, _, _ => none
  | nfq11 + 1, xq8, xq9, xq10, mq7 =>
    if (gI mq7 3 0) ≤ xq10 then (
    some (.inr xq8, mq7)) else (
    bnd (F_Gr_levelOf xq10 a1 a2 mq7) fun xq15 mq13 =>
    lt (fun (xq17 : Int32) (xq18 : Int32) (mq16 : Mem) => ((lt (xq10 + (1 : Int32) : Int32) fun xq19 =>
    F_T_hardest_L20 a1 a2 nfq11 xq17 xq18 xq19 mq16) : Option ((Nat ⊕ Int32) × Mem))) fun k59_18 =>
    if xq15 ≤ xq9 then (
    k59_18 xq8 xq9 mq13) else (
    k59_18 xq10 xq15 mq13))
def F_T_hardest (a1 : Int32) (a2 : Int32) (m0 : Mem) : Option ((Nat ⊕ Int32) × Mem) :=
bndX (F_T_mustBeBelow a1 (4 : Int32) m0) fun _ mq1 =>
bndX (F_T_mustBeBelow a2 (2 : Int32) mq1) fun _ mq4 =>
F_T_hardest_L20 a1 a2 1000000 (0 : Int32) (-1 : Int32) (0 : Int32) mq4
def F_T_here (a1 : Int32) (m0 : Mem) : Option ((Nat ⊕ Int64) × Mem) :=
bndX (F_T_oddsFromHere a1 false m0) fun yq3 mq1 =>
some (.inr yq3, mq1)
def F_T_mustBeChase (m0 : Mem) : Option ((Nat ⊕ Unit) × Mem) :=
bnd (F_Ma_isOn m0) fun zq3 mq1 =>
lt (fun (mq4 : Mem) => ((some (.inl 0, mq4)) : Option ((Nat ⊕ Unit) × Mem))) fun k21_4 =>
if zq3 = true then (
if (gI mq1 16 1) = (3 : Int32) then (
some (.inr (), mq1)) else (
k21_4 mq1)) else (
k21_4 mq1)
def F_T_hold (a1 : Int32) (m0 : Mem) : Option ((Nat ⊕ Int32) × Mem) :=
bndX (F_T_mustBeBelow a1 (4 : Int32) m0) fun _ mq1 =>
bndX (F_T_mustBeChase mq1) fun _ mq4 =>
bnd (F_Pa_remember mq4) fun _ mq7 =>
bnd (F_Ma_batting mq7) fun xq12 mq10 =>
bnd (F_Ma_playSession a1 true mq10) fun _ mq13 =>
bnd (F_Ma_leadOf xq12 mq13) fun xq18 mq16 =>
some (.inr xq18, mq16)
def F_T_holds (a1 : Int32) (a2 : Bool) (a3 : Int32) (a4 : Int32) (m0 : Mem) : Option ((Nat ⊕ Bool) × Mem) :=
bndX (F_T_mustBeState a1 (3 : Int32) a3 a4 m0) fun _ mq1 =>
bnd (F_Od_ready (0 : Int32) (gI mq1 3 5) false mq1) fun _ mq4 =>
bnd (F_Od_kindOf (3 : Int32) a2 mq4) fun xq9 mq7 =>
bnd (F_Od_choosesTold a1 xq9 a3 a4 mq7) fun zq12 mq10 =>
some (.inr zq12, mq10)
def F_Lw_copyFrom_2_L18  : Nat → Int32 → Mem → Option (Unit × Mem)
  | 0, _, _ => none
  | nfq5 + 1, xq4, mq3 =>
    if (400 : Int32) ≤ xq4 then (
    some ((), mq3)) else (
    ckB (inb xq4 400) <|
    lt (gI mq3 9 xq4.toNatClampNeg) fun xq8 =>
    ckB (inb xq4 400) <|
    lt (sI mq3 70 xq4.toNatClampNeg xq8) fun mq9 =>
    lt (xq4 + (1 : Int32) : Int32) fun xq11 =>
    F_Lw_copyFrom_2_L18 nfq5 xq11 mq9)
def F_Lw_copyFrom_2 (m0 : Mem) : Option (Unit × Mem) :=
lt (sI m0 69 0 (gI m0 8 0)) fun mq1 =>
lt (sI mq1 69 1 (gI mq1 8 1)) fun mq2 =>
F_Lw_copyFrom_2_L18 1000000 (0 : Int32) mq2
def F_Bk_copyFrom_2_L10  : Nat → Int32 → Mem → Option (Unit × Mem)
  | 0, _, _ => none
  | nfq4 + 1, xq3, mq2 =>
    if (180 : Int32) ≤ xq3 then (
    some ((), mq2)) else (
    ckB (inb xq3 180) <|
    lt (gI mq2 13 xq3.toNatClampNeg) fun xq7 =>
    ckB (inb xq3 180) <|
    lt (sI mq2 74 xq3.toNatClampNeg xq7) fun mq8 =>
    lt (xq3 + (1 : Int32) : Int32) fun xq10 =>
    F_Bk_copyFrom_2_L10 nfq4 xq10 mq8)
def F_Bk_copyFrom_2 (m0 : Mem) : Option (Unit × Mem) :=
lt (sI m0 73 0 (gI m0 12 0)) fun mq1 =>
F_Bk_copyFrom_2_L10 1000000 (0 : Int32) mq1
def F_Gr_copyFrom_2_L95 (k131_9 : Mem → Option (Unit × Mem)) : Nat → Int32 → Mem → Option (Unit × Mem)
  | 0, _, _ => none
  | nfq18 + 1, xq17, mq16 =>
    if (16 : Int32) ≤ xq17 then (
    k131_9 mq16) else (
    ckB (inb xq17 16) <|
    lt (gI mq16 6 xq17.toNatClampNeg) fun xq21 =>
    ckB (inb xq17 16) <|
    lt (sI mq16 67 xq17.toNatClampNeg xq21) fun mq22 =>
    ckB (inb xq17 16) <|
    lt (gI mq22 7 xq17.toNatClampNeg) fun xq25 =>
    ckB (inb xq17 16) <|
    lt (sI mq22 68 xq17.toNatClampNeg xq25) fun mq26 =>
    lt (xq17 + (1 : Int32) : Int32) fun xq28 =>
    F_Gr_copyFrom_2_L95 k131_9 nfq18 xq28 mq26)
def F_Gr_copyFrom_2_L58 (k93_8 : Mem → Option (Unit × Mem)) : Nat → Int32 → Mem → Option (Unit × Mem)
  | 0, _, _ => none
  | nfq31 + 1, xq30, mq29 =>
    if (2 : Int32) ≤ xq30 then (
    k93_8 mq29) else (
    ckB (inb xq30 2) <|
    lt (gI mq29 4 xq30.toNatClampNeg) fun xq34 =>
    ckB (inb xq30 2) <|
    lt (sI mq29 65 xq30.toNatClampNeg xq34) fun mq35 =>
    ckB (inb xq30 2) <|
    lt (gI mq35 5 xq30.toNatClampNeg) fun xq38 =>
    ckB (inb xq30 2) <|
    lt (sI mq35 66 xq30.toNatClampNeg xq38) fun mq39 =>
    lt (xq30 + (1 : Int32) : Int32) fun xq41 =>
    F_Gr_copyFrom_2_L58 k93_8 nfq31 xq41 mq39)
def F_Gr_copyFrom_2 (m0 : Mem) : Option (Unit × Mem) :=
lt (sI m0 64 0 (gI m0 3 0)) fun mq1 =>
lt (sI mq1 64 1 (gI mq1 3 1)) fun mq2 =>
lt (sI mq2 64 2 (gI mq2 3 2)) fun mq3 =>
lt (sI mq3 64 3 (gI mq3 3 3)) fun mq4 =>
lt (sI mq4 64 4 (gI mq4 3 4)) fun mq5 =>
lt (sI mq5 64 5 (gI mq5 3 5)) fun mq6 =>
lt (sI mq6 64 6 (gI mq6 3 6)) fun mq7 =>
lt (fun (mq8 : Mem) => ((lt (fun (mq9 : Mem) => ((bnd (F_Lw_copyFrom_2 mq9) fun _ mq10 =>
bnd (F_Bk_copyFrom_2 mq10) fun _ mq13 =>
some ((), mq13)) : Option (Unit × Mem))) fun k131_9 =>
F_Gr_copyFrom_2_L95 k131_9 1000000 (0 : Int32) mq8) : Option (Unit × Mem))) fun k93_8 =>
F_Gr_copyFrom_2_L58 k93_8 1000000 (0 : Int32) mq7
def F_Ma_copyFrom_3_L82  : Nat → Int32 → Mem → Option (Unit × Mem)
  | 0, _, _ => none
  | nfq13 + 1, xq12, mq11 =>
    if (63 : Int32) ≤ xq12 then (
    some ((), mq11)) else (
    ckB (inb xq12 63) <|
    lt (gI mq11 17 xq12.toNatClampNeg) fun xq16 =>
    ckB (inb xq12 63) <|
    lt (sI mq11 77 xq12.toNatClampNeg xq16) fun mq17 =>
    lt (xq12 + (1 : Int32) : Int32) fun xq19 =>
    F_Ma_copyFrom_3_L82 nfq13 xq19 mq17)
def F_Ma_copyFrom_3 (m0 : Mem) : Option (Unit × Mem) :=
lt (sI m0 76 0 (gI m0 16 0)) fun mq1 =>
lt (sI mq1 76 1 (gI mq1 16 1)) fun mq2 =>
lt (sI mq2 76 2 (gI mq2 16 2)) fun mq3 =>
lt (sI mq3 76 3 (gI mq3 16 3)) fun mq4 =>
lt (sI mq4 76 4 (gI mq4 16 4)) fun mq5 =>
lt (sZ mq5 76 5 (gZ mq5 16 5)) fun mq6 =>
lt (sZ mq6 76 6 (gZ mq6 16 6)) fun mq7 =>
lt (sI mq7 76 7 (gI mq7 16 7)) fun mq8 =>
lt (sI mq8 76 8 (gI mq8 16 8)) fun mq9 =>
lt (sI mq9 76 9 (gI mq9 16 9)) fun mq10 =>
F_Ma_copyFrom_3_L82 1000000 (0 : Int32) mq10
def F_T_image (m0 : Mem) : Option (Unit × Mem) :=
bnd (F_Gr_copyFrom_2 m0) fun _ mq1 =>
bnd (F_Ma_copyFrom_3 mq1) fun _ mq4 =>
lt (sZ mq4 0 13 true) fun mq7 =>
some ((), mq7)
def F_Tx_addThingL (a1 : Int32) (a2 : Int32) (a3 : Int32) (m0 : Mem) : Option (Unit × Mem) :=
if (gI m0 52 4) < 0 then (
some ((), m0)) else (
if (400 : Int32) < (gI m0 52 4) then (
some ((), m0)) else (
ckB (inb (gI m0 52 4) 401) <|
lt (sI m0 54 (gI m0 52 4).toNatClampNeg a1) fun mq1 =>
ckB (inb (gI mq1 52 4) 401) <|
lt (sI mq1 55 (gI mq1 52 4).toNatClampNeg a2) fun mq3 =>
ckB (inb (gI mq3 52 4) 401) <|
lt (sI mq3 56 (gI mq3 52 4).toNatClampNeg a3) fun mq5 =>
lt (sI mq5 52 4 ((gI mq5 52 4) + (1 : Int32))) fun mq7 =>
some ((), mq7)))
def F_Tx_cutL_L34 (a2 : Int32) (xq19 : Int32) (k75_21 : Int32 → Mem → Option (Unit × Mem)) : Nat → Int32 → Mem → Option (Unit × Mem)
  | 0, _, _ => none
  | nfq30 + 1, xq29, mq28 =>
    if xq19 = (2 : Int32) then (
    k75_21 xq29 mq28) else (
    if a2 ≤ xq29 then (
    k75_21 xq29 mq28) else (
    ckB (inb xq29 400) <|
    lt (gI mq28 1 xq29.toNatClampNeg) fun xq33 =>
    bnd (F_Tx_kindOf xq33 mq28) fun xq36 mq34 =>
    if xq36 = xq19 then (
    ckB (inb xq29 400) <|
    lt (gI mq34 1 xq29.toNatClampNeg) fun xq38 =>
    ckB (inb xq29 400) <|
    lt (sI mq34 53 xq29.toNatClampNeg xq38) fun mq39 =>
    lt (xq29 + (1 : Int32) : Int32) fun xq41 =>
    F_Tx_cutL_L34 a2 xq19 k75_21 nfq30 xq41 mq39) else (
    k75_21 xq29 mq34)))
def F_Tx_cutL_L7 (a2 : Int32) (k98_2 : Mem → Option (Unit × Mem)) : Nat → Int32 → Mem → Option (Unit × Mem)
  | 0, _, _ => none
  | nfq8 + 1, xq7, mq6 =>
    if a2 ≤ xq7 then (
    k98_2 mq6) else (
    ckB (inb xq7 400) <|
    lt (gI mq6 1 xq7.toNatClampNeg) fun xq11 =>
    ckB (inb xq7 400) <|
    lt (sI mq6 53 xq7.toNatClampNeg xq11) fun mq12 =>
    lt (xq7 + (1 : Int32) : Int32) fun xq14 =>
    ckB (inb xq7 400) <|
    lt (gI mq12 1 xq7.toNatClampNeg) fun xq16 =>
    bnd (F_Tx_kindOf xq16 mq12) fun xq19 mq17 =>
    lt (fun (xq21 : Int32) (mq20 : Mem) => ((ckB (inb xq7 400) <|
    lt (gI mq20 1 xq7.toNatClampNeg) fun xq23 =>
    lt (fun (mq24 : Mem) => ((F_Tx_cutL_L7 a2 k98_2 nfq8 xq21 mq24) : Option (Unit × Mem))) fun k92_24 =>
    if xq23 = (32 : Int32) then (
    k92_24 mq20) else (
    bnd (F_Tx_addThingL xq19 xq7 xq21 mq20) fun _ mq25 =>
    k92_24 mq25)) : Option (Unit × Mem))) fun k75_21 =>
    F_Tx_cutL_L34 a2 xq19 k75_21 1000000 xq14 mq17)
def F_Tx_cutL (a2 : Int32) (m0 : Mem) : Option (Unit × Mem) :=
lt (sI m0 52 4 (0 : Int32)) fun mq1 =>
lt (fun (mq2 : Mem) => ((bnd (F_Tx_addThingL (3 : Int32) (mxI (0 : Int32) a2) (mxI (0 : Int32) a2) mq2) fun _ mq3 =>
some ((), mq3)) : Option (Unit × Mem))) fun k98_2 =>
F_Tx_cutL_L7 a2 k98_2 1000000 (0 : Int32) mq1
def F_Tx_isAtL (a1 : Int32) (m0 : Mem) : Option (Bool × Mem) :=
if (gI m0 52 6) = (-1 : Int32) then (
if (gI m0 52 5) < 0 then (
some (false, m0)) else (
if (gI m0 52 4) ≤ (gI m0 52 5) then (
some (false, m0)) else (
if (400 : Int32) < (gI m0 52 5) then (
some (false, m0)) else (
ckB (inb (gI m0 52 5) 401) <|
lt (gI m0 54 (gI m0 52 5).toNatClampNeg) fun xq2 =>
if xq2 = a1 then (
some (true, m0)) else (
some (false, m0)))))) else (
some (false, m0))
def F_Tx_setWrongL (m0 : Mem) : Option (Unit × Mem) :=
if (gI m0 52 6) = (-1 : Int32) then (
if (gI m0 52 5) < 0 then (
some ((), m0)) else (
if (400 : Int32) < (gI m0 52 5) then (
some ((), m0)) else (
ckB (inb (gI m0 52 5) 401) <|
lt (gI m0 55 (gI m0 52 5).toNatClampNeg) fun xq2 =>
lt (sI m0 52 6 xq2) fun mq3 =>
some ((), mq3)))) else (
some ((), m0))
def F_Tx_byteAtL (a1 : Int32) (m0 : Mem) : Option (Int32 × Mem) :=
if a1 < 0 then (
some ((-1 : Int32), m0)) else (
if a1 < (400 : Int32) then (
ckB (inb a1 400) <|
lt (gI m0 53 a1.toNatClampNeg) fun xq2 =>
some (xq2, m0)) else (
some ((-1 : Int32), m0)))
def F_Tx_takesWordL_L38 (tx1 : String) (k77_8 : Mem → Option (Bool × Mem)) : Nat → Int32 → Mem → Option (Bool × Mem)
  | 0, _, _ => none
  | nfq12 + 1, xq11, mq10 =>
    if (nI tx1.length) ≤ xq11 then (
    k77_8 mq10) else (
    ckB (inb (gI mq10 52 5) 401) <|
    lt (gI mq10 55 (gI mq10 52 5).toNatClampNeg) fun xq15 =>
    bnd (F_Tx_byteAtL (xq15 + xq11) mq10) fun xq18 mq16 =>
    ckB (inb xq11 tx1.length) <|
    if xq18 = (txB tx1 xq11.toNatClampNeg) then (
    lt (xq11 + (1 : Int32) : Int32) fun xq20 =>
    F_Tx_takesWordL_L38 tx1 k77_8 nfq12 xq20 mq16) else (
    some (false, mq16)))
def F_Tx_takesWordL (tx1 : String) (m0 : Mem) : Option (Bool × Mem) :=
bnd (F_Tx_isAtL (0 : Int32) m0) fun zq3 mq1 =>
if zq3 = true then (
ckB (inb (gI mq1 52 5) 401) <|
lt (gI mq1 56 (gI mq1 52 5).toNatClampNeg) fun xq5 =>
ckB (inb (gI mq1 52 5) 401) <|
lt (gI mq1 55 (gI mq1 52 5).toNatClampNeg) fun xq7 =>
if (xq5 - xq7) = (nI tx1.length) then (
lt (fun (mq8 : Mem) => ((lt (sI mq8 52 5 ((gI mq8 52 5) + (1 : Int32))) fun mq9 =>
some (true, mq9)) : Option (Bool × Mem))) fun k77_8 =>
F_Tx_takesWordL_L38 tx1 k77_8 1000000 (0 : Int32) mq1) else (
some (false, mq1))) else (
some (false, mq1))
def F_Tx_mustTakeL (tx1 : String) (m0 : Mem) : Option (Unit × Mem) :=
bnd (F_Tx_takesWordL tx1 m0) fun zq3 mq1 =>
if zq3 = true then (
some ((), mq1)) else (
bnd (F_Tx_setWrongL mq1) fun _ mq4 =>
some ((), mq4))
def F_Tx_numberL_L27 (k78_7 : Int32 → Mem → Option (Int32 × Mem)) : Nat → Int32 → Int32 → Mem → Option (Int32 × Mem)
  | 0, _, _, _ => none
  | nfq20 + 1, xq18, xq19, mq17 =>
    ckB (inb (gI mq17 52 5) 401) <|
    lt (gI mq17 56 (gI mq17 52 5).toNatClampNeg) fun xq23 =>
    if xq23 ≤ xq19 then (
    k78_7 xq18 mq17) else (
    ckB (inb (gI mq17 52 5) 401) <|
    lt (gI mq17 55 (gI mq17 52 5).toNatClampNeg) fun xq25 =>
    if (xq25 + (3 : Int32)) ≤ xq19 then (
    k78_7 xq18 mq17) else (
    bnd (F_Tx_byteAtL xq19 mq17) fun xq28 mq26 =>
    lt (((xq18 * (10 : Int32)) + xq28) - (48 : Int32) : Int32) fun xq29 =>
    lt (xq19 + (1 : Int32) : Int32) fun xq30 =>
    F_Tx_numberL_L27 k78_7 nfq20 xq29 xq30 mq26))
def F_Tx_numberL (a1 : Int32) (a2 : Int32) (m0 : Mem) : Option (Int32 × Mem) :=
bnd (F_Tx_isAtL (1 : Int32) m0) fun zq3 mq1 =>
if zq3 = true then (
ckB (inb (gI mq1 52 5) 401) <|
lt (gI mq1 55 (gI mq1 52 5).toNatClampNeg) fun xq5 =>
lt (fun (xq7 : Int32) (mq6 : Mem) => ((ckB (inb (gI mq6 52 5) 401) <|
lt (gI mq6 56 (gI mq6 52 5).toNatClampNeg) fun xq9 =>
ckB (inb (gI mq6 52 5) 401) <|
lt (gI mq6 55 (gI mq6 52 5).toNatClampNeg) fun xq11 =>
lt (fun (mq12 : Mem) => ((bnd (F_Tx_setWrongL mq12) fun _ mq13 =>
some (a1, mq13)) : Option (Int32 × Mem))) fun k111_12 =>
if (3 : Int32) < (xq9 - xq11) then (
k111_12 mq6) else (
if xq7 < a1 then (
k111_12 mq6) else (
if xq7 ≤ a2 then (
lt (sI mq6 52 5 ((gI mq6 52 5) + (1 : Int32))) fun mq16 =>
some (xq7, mq16)) else (
k111_12 mq6)))) : Option (Int32 × Mem))) fun k78_7 =>
F_Tx_numberL_L27 k78_7 1000000 (0 : Int32) xq5 mq1) else (
bnd (F_Tx_setWrongL mq1) fun _ mq31 =>
some (a1, mq31))
def F_Lw_add (a1 : Int32) (m0 : Mem) : Option (Unit × Mem) :=
if (gI m0 57 1) < 0 then (
some ((), m0)) else (
if (400 : Int32) ≤ (gI m0 57 1) then (
some ((), m0)) else (
ckB (inb (gI m0 57 1) 400) <|
lt (sI m0 58 (gI m0 57 1).toNatClampNeg a1) fun mq1 =>
lt (sI mq1 57 1 ((gI mq1 57 1) + (1 : Int32))) fun mq3 =>
some ((), mq3)))
def F_LT_readAll_L7 (rc : Int32 → Mem → Option (Unit × Mem)) (a1 : Int32) : Nat → Int32 → Mem → Option (Unit × Mem)
  | 0, _, _ => none
  | nfq6 + 1, xq5, mq4 =>
    if (400 : Int32) ≤ xq5 then (
    some ((), mq4)) else (
    bnd (F_Tx_takesWordL ("and") mq4) fun zq10 mq8 =>
    if zq10 = true then (
    bnd (rc a1 mq8) fun _ mq11 =>
    bnd (F_Lw_add (1101 : Int32) mq11) fun _ mq14 =>
    lt (xq5 + (1 : Int32) : Int32) fun xq17 =>
    F_LT_readAll_L7 rc a1 nfq6 xq17 mq14) else (
    some ((), mq8)))
def F_LT_readAll (rc : Int32 → Mem → Option (Unit × Mem)) (a1 : Int32) (m0 : Mem) : Option (Unit × Mem) :=
bnd (rc a1 m0) fun _ mq1 =>
F_LT_readAll_L7 rc a1 1000000 (0 : Int32) mq1
def F_LT_readAny_L7 (rc : Int32 → Mem → Option (Unit × Mem)) (a1 : Int32) : Nat → Int32 → Mem → Option (Unit × Mem)
  | 0, _, _ => none
  | nfq6 + 1, xq5, mq4 =>
    if (400 : Int32) ≤ xq5 then (
    some ((), mq4)) else (
    bnd (F_Tx_takesWordL ("or") mq4) fun zq10 mq8 =>
    if zq10 = true then (
    bnd (F_LT_readAll rc a1 mq8) fun _ mq11 =>
    bnd (F_Lw_add (1102 : Int32) mq11) fun _ mq14 =>
    lt (xq5 + (1 : Int32) : Int32) fun xq17 =>
    F_LT_readAny_L7 rc a1 nfq6 xq17 mq14) else (
    some ((), mq8)))
def F_LT_readAny (rc : Int32 → Mem → Option (Unit × Mem)) (a1 : Int32) (m0 : Mem) : Option (Unit × Mem) :=
bnd (F_LT_readAll rc a1 m0) fun _ mq1 =>
F_LT_readAny_L7 rc a1 1000000 (0 : Int32) mq1
def F_Tx_isAtNumberL (m0 : Mem) : Option (Bool × Mem) :=
bnd (F_Tx_isAtL (1 : Int32) m0) fun zq3 mq1 =>
some (zq3, mq1)
def F_Tx_takesSignL (a1 : Int32) (m0 : Mem) : Option (Bool × Mem) :=
bnd (F_Tx_isAtL (2 : Int32) m0) fun zq3 mq1 =>
if zq3 = true then (
ckB (inb (gI mq1 52 5) 401) <|
lt (gI mq1 55 (gI mq1 52 5).toNatClampNeg) fun xq5 =>
bnd (F_Tx_byteAtL xq5 mq1) fun xq8 mq6 =>
if xq8 = a1 then (
lt (sI mq6 52 5 ((gI mq6 52 5) + (1 : Int32))) fun mq9 =>
some (true, mq9)) else (
some (false, mq6))) else (
some (false, mq1))
def F_LT_readSum_L4  : Nat → Bool → Int32 → Mem → Option (Unit × Mem)
  | 0, _, _, _ => none
  | nfq4 + 1, zq2, xq3, mq1 =>
    if (400 : Int32) ≤ xq3 then (
    some ((), mq1)) else (
    if zq2 = true then (
    bnd (F_Tx_isAtNumberL mq1) fun zq8 mq6 =>
    lt (fun (mq9 : Mem) => ((lt (fun (mq10 : Mem) => ((bnd (F_Tx_takesSignL (43 : Int32) mq10) fun zq13 mq11 =>
    lt (xq3 + (1 : Int32) : Int32) fun xq14 =>
    F_LT_readSum_L4 nfq4 zq13 xq14 mq11) : Option (Unit × Mem))) fun k190_10 =>
    if xq3 ≤ 0 then (
    k190_10 mq9) else (
    bnd (F_Lw_add (1105 : Int32) mq9) fun _ mq15 =>
    k190_10 mq15)) : Option (Unit × Mem))) fun k176_9 =>
    if zq8 = true then (
    bnd (F_Tx_numberL (0 : Int32) (999 : Int32) mq6) fun xq59 mq57 =>
    bnd (F_Lw_add xq59 mq57) fun _ mq60 =>
    k176_9 mq60) else (
    bnd (F_Tx_takesWordL ("session") mq6) fun zq20 mq18 =>
    if zq20 = true then (
    bnd (F_Lw_add (1000 : Int32) mq18) fun _ mq54 =>
    k176_9 mq54) else (
    bnd (F_Tx_takesWordL ("day") mq18) fun zq23 mq21 =>
    if zq23 = true then (
    bnd (F_Lw_add (1001 : Int32) mq21) fun _ mq51 =>
    k176_9 mq51) else (
    bnd (F_Tx_takesWordL ("innings") mq21) fun zq26 mq24 =>
    if zq26 = true then (
    bnd (F_Lw_add (1002 : Int32) mq24) fun _ mq48 =>
    k176_9 mq48) else (
    bnd (F_Tx_takesWordL ("side") mq24) fun zq29 mq27 =>
    if zq29 = true then (
    bnd (F_Lw_add (1003 : Int32) mq27) fun _ mq45 =>
    k176_9 mq45) else (
    bnd (F_Tx_takesWordL ("bat") mq27) fun zq32 mq30 =>
    if zq32 = true then (
    bnd (F_Lw_add (1004 : Int32) mq30) fun _ mq42 =>
    k176_9 mq42) else (
    bnd (F_Tx_takesWordL ("bowl") mq30) fun zq35 mq33 =>
    if zq35 = true then (
    bnd (F_Lw_add (1005 : Int32) mq33) fun _ mq39 =>
    k176_9 mq39) else (
    bnd (F_Tx_setWrongL mq33) fun _ mq36 =>
    k176_9 mq36)))))))) else (
    some ((), mq1)))
def F_LT_readSum (m0 : Mem) : Option (Unit × Mem) :=
F_LT_readSum_L4 1000000 true (0 : Int32) m0
def F_LT_readAtom_b (rc : Int32 → Mem → Option (Unit × Mem)) (a1 : Int32) (m0 : Mem) : Option (Unit × Mem) :=
lt (fun (mq1 : Mem) => ((lt (fun (mq2 : Mem) => ((bnd (F_Tx_takesWordL ("cloud") mq2) fun zq5 mq3 =>
if zq5 = true then (
bnd (F_Lw_add (1006 : Int32) mq3) fun _ mq33 =>
some ((), mq33)) else (
bnd (F_Tx_takesWordL ("tide") mq3) fun zq8 mq6 =>
if zq8 = true then (
bnd (F_Lw_add (1007 : Int32) mq6) fun _ mq30 =>
some ((), mq30)) else (
bnd (F_LT_readSum mq6) fun _ mq9 =>
bnd (F_Tx_takesSignL (60 : Int32) mq9) fun zq14 mq12 =>
lt (fun (mq15 : Mem) => ((bnd (F_LT_readSum mq15) fun _ mq16 =>
lt (fun (xq20 : Int32) (mq19 : Mem) => ((bnd (F_Lw_add xq20 mq19) fun _ mq21 =>
some ((), mq21)) : Option (Unit × Mem))) fun k166_20 =>
if zq14 = true then (
k166_20 (1103 : Int32) mq16) else (
k166_20 (1104 : Int32) mq16)) : Option (Unit × Mem))) fun k145_15 =>
if zq14 = true then (
k145_15 mq12) else (
bnd (F_Tx_takesSignL (62 : Int32) mq12) fun zq26 mq24 =>
if zq26 = true then (
k145_15 mq24) else (
bnd (F_Tx_setWrongL mq24) fun _ mq27 =>
k145_15 mq27))))) : Option (Unit × Mem))) fun k73_2 =>
if (6 : Int32) ≤ a1 then (
k73_2 mq1) else (
bnd (F_Tx_takesSignL (40 : Int32) mq1) fun zq38 mq36 =>
if zq38 = true then (
bnd (F_LT_readAny rc (a1 + (1 : Int32)) mq36) fun _ mq39 =>
bnd (F_Tx_takesSignL (41 : Int32) mq39) fun zq44 mq42 =>
if zq44 = true then (
some ((), mq42)) else (
bnd (F_Tx_setWrongL mq42) fun _ mq45 =>
some ((), mq45))) else (
k73_2 mq36))) : Option (Unit × Mem))) fun k35_1 =>
if (6 : Int32) ≤ a1 then (
k35_1 m0) else (
bnd (F_Tx_takesWordL ("not") m0) fun zq50 mq48 =>
if zq50 = true then (
bnd (rc (a1 + (1 : Int32)) mq48) fun _ mq51 =>
bnd (F_Lw_add (1100 : Int32) mq51) fun _ mq54 =>
some ((), mq54)) else (
k35_1 mq48))
def F_LT_readAtom : Nat → Int32 → Mem → Option (Unit × Mem)
  | 0, _, _ => none
  | k + 1, a1, m0 => F_LT_readAtom_b (F_LT_readAtom k) a1 m0
def F_LT_readLine (m0 : Mem) : Option (Unit × Mem) :=
bnd (F_Tx_mustTakeL ("hard") m0) fun _ mq1 =>
bnd (F_Tx_numberL (0 : Int32) (9 : Int32) mq1) fun xq6 mq4 =>
bnd (F_Tx_takesWordL ("if") mq4) fun zq9 mq7 =>
lt (fun (mq10 : Mem) => ((bnd (F_Lw_add ((2000 : Int32) + xq6) mq10) fun _ mq11 =>
some ((), mq11)) : Option (Unit × Mem))) fun k39_10 =>
if zq9 = true then (
bnd (F_LT_readAny (F_LT_readAtom 8) (0 : Int32) mq7) fun _ mq17 =>
k39_10 mq17) else (
bnd (F_Lw_add (1 : Int32) mq7) fun _ mq14 =>
k39_10 mq14)
def F_Tx_readLinesL_L40 (a3 : Int32) (k78_10 : Int32 → Mem → Option (Int32 × Mem)) (k91_14 : Mem → Option (Int32 × Mem)) : Nat → Int32 → Mem → Option (Int32 × Mem)
  | 0, _, _ => none
  | nfq20 + 1, xq19, mq18 =>
    if a3 < xq19 then (
    k91_14 mq18) else (
    bnd (F_LT_readLine mq18) fun _ mq22 =>
    if (gI mq22 52 6) = (-1 : Int32) then (
    bnd (F_Tx_isAtL (3 : Int32) mq22) fun zq27 mq25 =>
    if zq27 = true then (
    some (xq19, mq25)) else (
    bnd (F_Tx_takesSignL (59 : Int32) mq25) fun zq30 mq28 =>
    if zq30 = true then (
    lt (xq19 + (1 : Int32) : Int32) fun xq31 =>
    F_Tx_readLinesL_L40 a3 k78_10 k91_14 nfq20 xq31 mq28) else (
    k78_10 xq19 mq28))) else (
    some (xq19, mq22)))
def F_Tx_readLinesL (a2 : Int32) (a3 : Int32) (m0 : Mem) : Option (Int32 × Mem) :=
bnd (F_Tx_cutL (mnI a2 (mnI (400 : Int32) (400 : Int32))) m0) fun _ mq1 =>
lt (sI mq1 52 5 (0 : Int32)) fun mq4 =>
lt (sI mq4 52 6 (-1 : Int32)) fun mq5 =>
bnd (F_Tx_isAtL (3 : Int32) mq5) fun zq8 mq6 =>
if zq8 = true then (
some ((0 : Int32), mq6)) else (
lt (fun (xq10 : Int32) (mq9 : Mem) => ((bnd (F_Tx_setWrongL mq9) fun _ mq11 =>
some (xq10, mq11)) : Option (Int32 × Mem))) fun k78_10 =>
lt (fun (mq14 : Mem) => ((bnd (F_Tx_setWrongL mq14) fun _ mq15 =>
some (a3, mq15)) : Option (Int32 × Mem))) fun k91_14 =>
F_Tx_readLinesL_L40 a3 k78_10 k91_14 1000000 (1 : Int32) mq6)
def F_LT_readLaw (a2 : Int32) (m0 : Mem) : Option (Int32 × Mem) :=
lt (sI m0 57 1 (0 : Int32)) fun mq1 =>
bnd (F_Tx_readLinesL a2 (12 : Int32) mq1) fun xq4 mq2 =>
lt (sI mq2 57 0 xq4) fun mq5 =>
some (gI mq5 52 6, mq5)
def F_Lw_copyFrom_3_L18  : Nat → Int32 → Mem → Option (Unit × Mem)
  | 0, _, _ => none
  | nfq5 + 1, xq4, mq3 =>
    if (400 : Int32) ≤ xq4 then (
    some ((), mq3)) else (
    ckB (inb xq4 400) <|
    lt (gI mq3 58 xq4.toNatClampNeg) fun xq8 =>
    ckB (inb xq4 400) <|
    lt (sI mq3 9 xq4.toNatClampNeg xq8) fun mq9 =>
    lt (xq4 + (1 : Int32) : Int32) fun xq11 =>
    F_Lw_copyFrom_3_L18 nfq5 xq11 mq9)
def F_Lw_copyFrom_3 (m0 : Mem) : Option (Unit × Mem) :=
lt (sI m0 8 0 (gI m0 57 0)) fun mq1 =>
lt (sI mq1 8 1 (gI mq1 57 1)) fun mq2 =>
F_Lw_copyFrom_3_L18 1000000 (0 : Int32) mq2
def F_T_law (m0 : Mem) : Option ((Nat ⊕ Int32) × Mem) :=
bnd (F_T_useTape m0) fun xq3 mq1 =>
bnd (F_LT_readLaw xq3 mq1) fun xq6 mq4 =>
lt (sI mq4 0 2 xq6) fun mq7 =>
if (gI mq7 0 2) = (-1 : Int32) then (
bnd (F_Lw_copyFrom_3 mq7) fun _ mq8 =>
bnd (F_T_startAfresh mq8) fun _ mq11 =>
some (.inr (gI mq11 8 0), mq11)) else (
some (.inl 1, mq7))
def F_T_level (a1 : Int32) (a2 : Int32) (a3 : Int32) (m0 : Mem) : Option ((Nat ⊕ Int32) × Mem) :=
bndX (F_T_mustBeBelow a1 (gI m0 3 0) m0) fun _ mq1 =>
bndX (F_T_mustBeBelow a2 (4 : Int32) mq1) fun _ mq4 =>
bndX (F_T_mustBeBelow a3 (2 : Int32) mq4) fun _ mq7 =>
bnd (F_Gr_levelOf a1 a2 a3 mq7) fun xq12 mq10 =>
some (.inr xq12, mq10)
def F_T_line_L27 (a1 : Int32) (a4 : Int32) (a5 : Int32) (xq6 : Int32) (k62_8 : Int32 → Mem → Option ((Nat ⊕ Int32) × Mem)) : Nat → Int32 → Mem → Option ((Nat ⊕ Int32) × Mem)
  | 0, _, _ => none
  | nfq11 + 1, xq10, mq9 =>
    if (100 : Int32) < xq10 then (
    some (.inr (-1 : Int32), mq9)) else (
    bnd (F_Od_ready (0 : Int32) xq10 false mq9) fun _ mq13 =>
    bnd (F_Od_choosesTold a1 xq6 a4 a5 mq13) fun zq18 mq16 =>
    if zq18 = true then (
    lt (xq10 + (1 : Int32) : Int32) fun xq19 =>
    F_T_line_L27 a1 a4 a5 xq6 k62_8 nfq11 xq19 mq16) else (
    k62_8 xq10 mq16))
def F_T_line (a1 : Int32) (a2 : Int32) (a3 : Bool) (a4 : Int32) (a5 : Int32) (m0 : Mem) : Option ((Nat ⊕ Int32) × Mem) :=
bndX (F_T_mustBeState a1 a2 a4 a5 m0) fun _ mq1 =>
if a2 = (3 : Int32) then (
some (.inr (-1 : Int32), mq1)) else (
bnd (F_Od_kindOf a2 a3 mq1) fun xq6 mq4 =>
lt (fun (xq8 : Int32) (mq7 : Mem) => ((if xq8 = 0 then (
some (.inr (-1 : Int32), mq7)) else (
some (.inr xq8, mq7))) : Option ((Nat ⊕ Int32) × Mem))) fun k62_8 =>
F_T_line_L27 a1 a4 a5 xq6 k62_8 1000000 (0 : Int32) mq4)
def F_T_log (a1 : Int32) (a2 : Int32) (m0 : Mem) : Option ((Nat ⊕ Int32) × Mem) :=
lt (fun (mq1 : Mem) => ((some (.inl 4, mq1)) : Option ((Nat ⊕ Int32) × Mem))) fun k10_1 =>
if a2 < 0 then (
k10_1 m0) else (
if a2 < (7 : Int32) then (
bnd (F_Ma_logged a1 a2 m0) fun xq4 mq2 =>
some (.inr xq4, mq2)) else (
k10_1 m0))
def F_Ma_runsOf (a1 : Int32) (m0 : Mem) : Option (Int32 × Mem) :=
if a1 = 0 then (
some (gI m0 16 8, m0)) else (
some (gI m0 16 9, m0))
def F_T_match (a1 : Int32) (m0 : Mem) : Option ((Nat ⊕ Int32) × Mem) :=
if a1 = 0 then (
some (.inr (gI m0 16 0), m0)) else (
if a1 = 1 then (
some (.inr (gI m0 16 1), m0)) else (
if a1 = 2 then (
some (.inr (gI m0 16 2), m0)) else (
if a1 = 3 then (
bnd (F_Ma_runsOf (0 : Int32) m0) fun xq3 mq1 =>
some (.inr xq3, mq1)) else (
if a1 = 4 then (
bnd (F_Ma_runsOf (1 : Int32) m0) fun xq6 mq4 =>
some (.inr xq6, mq4)) else (
if a1 = 5 then (
bnd (F_Ma_isOn m0) fun zq9 mq7 =>
if zq9 = true then (
bnd (F_Ma_batting mq7) fun xq12 mq10 =>
some (.inr xq12, mq10)) else (
some (.inr (-1 : Int32), mq7))) else (
if a1 = 6 then (
some (.inr (gI m0 16 3), m0)) else (
if a1 = 7 then (
if (gZ m0 16 5) = true then (
some (.inr (1 : Int32), m0)) else (
some (.inr (0 : Int32), m0))) else (
if a1 = 8 then (
some (.inr (gI m0 16 4), m0)) else (
if a1 = 9 then (
bnd (F_Ma_mayFollow (gI m0 3 4) m0) fun zq15 mq13 =>
if zq15 = true then (
some (.inr (1 : Int32), mq13)) else (
some (.inr (0 : Int32), mq13))) else (
if a1 = 10 then (
if (gZ m0 16 6) = true then (
some (.inr (1 : Int32), m0)) else (
some (.inr (0 : Int32), m0))) else (
some (.inl 4, m0))))))))))))
def F_Ma_drawSlot (m0 : Mem) : Option (Int32 × Mem) :=
lt (((1103515245 : Int32) * (gI m0 16 7)) + (12345 : Int32) : Int32) fun xq1 =>
lt (sI m0 16 7 xq1) fun mq2 =>
lt (((gI mq2 16 7).toUInt32 >>> ((16 : Int32).toUInt32 &&& Int32.toUInt32 31)).toInt32 : Int32) fun xq3 =>
lt ((xq3 &&& (32767 : Int32)) - (xq3 &&& (32767 : Int32)) / (4 : Int32) * (4 : Int32) : Int32) fun xq4 =>
some (xq4, mq2)
def F_T_play (m0 : Mem) : Option ((Nat ⊕ Int32) × Mem) :=
bndX (F_T_mustBeOn m0) fun _ mq1 =>
bnd (F_Pa_remember mq1) fun _ mq4 =>
bnd (F_Ma_drawSlot mq4) fun xq9 mq7 =>
bnd (F_Ma_playSession xq9 false mq7) fun _ mq10 =>
some (.inr xq9, mq10)
def F_T_seed (a1 : Int32) (m0 : Mem) : Option (Int32 × Mem) :=
lt (gI m0 16 7 : Int32) fun xq1 =>
lt (sI m0 16 7 a1) fun mq2 =>
some (xq1, mq2)
def F_T_session (a1 : Int32) (a2 : Int32) (m0 : Mem) : Option ((Nat ⊕ Int32) × Mem) :=
bndX (F_T_mustBeBelow a1 (gI m0 3 0) m0) fun _ mq1 =>
if a2 = 0 then (
some (.inr (a1 / (3 : Int32)), mq1)) else (
if a2 = 1 then (
bnd (F_T_bitOf (gI mq1 3 1) a1 mq1) fun xq6 mq4 =>
some (.inr xq6, mq4)) else (
if a2 = 2 then (
bnd (F_T_bitOf (gI mq1 3 2) a1 mq1) fun xq9 mq7 =>
some (.inr xq9, mq7)) else (
if a2 = 3 then (
bnd (F_T_bitOf (gI mq1 3 3) a1 mq1) fun xq12 mq10 =>
some (.inr xq12, mq10)) else (
some (.inl 4, mq1)))))
def F_T_share (a1 : Int32) (a2 : Int32) (m0 : Mem) : Option ((Nat ⊕ Int32) × Mem) :=
lt (fun (mq1 : Mem) => ((some (.inl 4, mq1)) : Option ((Nat ⊕ Int32) × Mem))) fun k18_1 =>
if a1 < 0 then (
k18_1 m0) else (
if (5 : Int32) < a1 then (
k18_1 m0) else (
if a2 < 0 then (
k18_1 m0) else (
if a2 ≤ (5 : Int32) then (
bnd (F_Bk_tally a2 m0) fun xq4 mq2 =>
if 0 < xq4 then (
bnd (F_Bk_tally a1 mq2) fun xq7 mq5 =>
ckB (!decide (xq4 = 0)) <|
some (.inr ((xq7 * (10000 : Int32)) / xq4), mq5)) else (
some (.inr (0 : Int32), mq2))) else (
k18_1 m0))))
def F_T_side (a1 : Int32) (a2 : Bool) (m0 : Mem) : Option ((Nat ⊕ Int32) × Mem) :=
bndX (F_T_mustBeBelow a1 (2 : Int32) m0) fun _ mq1 =>
if a2 = true then (
bnd (F_Gr_bowlOf a1 mq1) fun xq9 mq7 =>
some (.inr xq9, mq7)) else (
bnd (F_Gr_batOf a1 mq1) fun xq6 mq4 =>
some (.inr xq6, mq4))
def F_Mo_swungWith (a1 : Int32) (m0 : Mem) : Option (Int32 × Mem) :=
if a1 < 0 then (
some ((0 : Int32), m0)) else (
if a1 < (16 : Int32) then (
ckB (inb a1 16) <|
lt (gI m0 62 a1.toNatClampNeg) fun xq2 =>
some (xq2, m0)) else (
some ((0 : Int32), m0)))
def F_Mo_stillWith (a1 : Int32) (m0 : Mem) : Option (Int32 × Mem) :=
if a1 < 0 then (
some ((0 : Int32), m0)) else (
if a1 < (16 : Int32) then (
ckB (inb a1 16) <|
lt (gI m0 63 a1.toNatClampNeg) fun xq2 =>
some (xq2, m0)) else (
some ((0 : Int32), m0)))
def F_T_signs (a1 : Int32) (a2 : Int32) (a3 : Bool) (m0 : Mem) : Option ((Nat ⊕ Int32) × Mem) :=
bnd (F_T_useTape m0) fun xq3 mq1 =>
bnd (F_T_tapeIsMornings xq3 mq1) fun zq6 mq4 =>
lt (fun (mq7 : Mem) => ((some (.inl 1, mq7)) : Option ((Nat ⊕ Int32) × Mem))) fun k33_7 =>
if zq6 = true then (
if a1 < 0 then (
k33_7 mq4) else (
if (2 : Int32) < a1 then (
k33_7 mq4) else (
if a2 < 0 then (
k33_7 mq4) else (
if a2 ≤ (3 : Int32) then (
bnd (F_Mo_sort xq3 a1 a1 mq4) fun _ mq8 =>
bnd (F_Mo_swungWith a2 mq8) fun xq13 mq11 =>
lt (fun (xq15 : Int32) (mq14 : Mem) => ((some (.inr (xq13 + xq15), mq14)) : Option ((Nat ⊕ Int32) × Mem))) fun k83_15 =>
if a3 = true then (
k83_15 (0 : Int32) mq11) else (
bnd (F_Mo_stillWith a2 mq11) fun xq18 mq16 =>
k83_15 xq18 mq16)) else (
k33_7 mq4))))) else (
k33_7 mq4)
def F_T_slot (a1 : Int32) (a2 : Int32) (a3 : Bool) (m0 : Mem) : Option ((Nat ⊕ Int32) × Mem) :=
bndX (F_T_mustBeBelow a1 (4 : Int32) m0) fun _ mq1 =>
bndX (F_T_mustBeBelow a2 (4 : Int32) mq1) fun _ mq4 =>
if a3 = true then (
bnd (F_Gr_outsOf a1 a2 mq4) fun xq12 mq10 =>
some (.inr xq12, mq10)) else (
bnd (F_Gr_runsOf a1 a2 mq4) fun xq9 mq7 =>
some (.inr xq9, mq7))
def F_Bk_longestRun_L7 (a1 : Int32) : Nat → Int32 → Int32 → Int32 → Mem → Option (Int32 × Mem)
  | 0, _, _, _, _ => none
  | nfq5 + 1, xq2, xq3, xq4, mq1 =>
    if (gI mq1 12 0) ≤ xq4 then (
    some (xq2, mq1)) else (
    bnd (F_Bk_isSo xq4 a1 mq1) fun zq9 mq7 =>
    lt (fun (xq11 : Int32) (mq10 : Mem) => ((lt (mxI xq2 xq11 : Int32) fun xq12 =>
    lt (xq4 + (1 : Int32) : Int32) fun xq13 =>
    F_Bk_longestRun_L7 a1 nfq5 xq12 xq11 xq13 mq10) : Option (Int32 × Mem))) fun k33_11 =>
    if zq9 = true then (
    k33_11 (xq3 + (1 : Int32)) mq7) else (
    k33_11 (0 : Int32) mq7))
def F_Bk_longestRun (a1 : Int32) (m0 : Mem) : Option (Int32 × Mem) :=
F_Bk_longestRun_L7 a1 1000000 (0 : Int32) (0 : Int32) (0 : Int32) m0
def F_T_streak (a1 : Int32) (m0 : Mem) : Option ((Nat ⊕ Int32) × Mem) :=
lt (fun (mq1 : Mem) => ((some (.inl 4, mq1)) : Option ((Nat ⊕ Int32) × Mem))) fun k9_1 =>
if a1 < 0 then (
k9_1 m0) else (
if a1 ≤ (2 : Int32) then (
bnd (F_Bk_longestRun (a1 + (3 : Int32)) m0) fun xq4 mq2 =>
some (.inr xq4, mq2)) else (
k9_1 m0))
def F_Ma_copyFrom_4_L82  : Nat → Int32 → Mem → Option (Unit × Mem)
  | 0, _, _ => none
  | nfq13 + 1, xq12, mq11 =>
    if (63 : Int32) ≤ xq12 then (
    some ((), mq11)) else (
    ckB (inb xq12 63) <|
    lt (gI mq11 17 xq12.toNatClampNeg) fun xq16 =>
    ckB (inb xq12 63) <|
    lt (sI mq11 19 xq12.toNatClampNeg xq16) fun mq17 =>
    lt (xq12 + (1 : Int32) : Int32) fun xq19 =>
    F_Ma_copyFrom_4_L82 nfq13 xq19 mq17)
def F_Ma_copyFrom_4 (m0 : Mem) : Option (Unit × Mem) :=
lt (sI m0 18 0 (gI m0 16 0)) fun mq1 =>
lt (sI mq1 18 1 (gI mq1 16 1)) fun mq2 =>
lt (sI mq2 18 2 (gI mq2 16 2)) fun mq3 =>
lt (sI mq3 18 3 (gI mq3 16 3)) fun mq4 =>
lt (sI mq4 18 4 (gI mq4 16 4)) fun mq5 =>
lt (sZ mq5 18 5 (gZ mq5 16 5)) fun mq6 =>
lt (sZ mq6 18 6 (gZ mq6 16 6)) fun mq7 =>
lt (sI mq7 18 7 (gI mq7 16 7)) fun mq8 =>
lt (sI mq8 18 8 (gI mq8 16 8)) fun mq9 =>
lt (sI mq9 18 9 (gI mq9 16 9)) fun mq10 =>
F_Ma_copyFrom_4_L82 1000000 (0 : Int32) mq10
def F_Ma_isOn_2 (m0 : Mem) : Option (Bool × Mem) :=
if (gI m0 18 0) = (-1 : Int32) then (
some (false, m0)) else (
if (gI m0 18 4) = (-1 : Int32) then (
some (true, m0)) else (
some (false, m0)))
def F_Ma_kind_2 (m0 : Mem) : Option (Int32 × Mem) :=
bnd (F_Od_kindOf (gI m0 18 1) (gZ m0 18 5) m0) fun xq3 mq1 =>
some (xq3, mq1)
def F_Ma_batting_2 (m0 : Mem) : Option (Int32 × Mem) :=
bnd (F_Ma_kind_2 m0) fun xq3 mq1 =>
bnd (F_Od_firstBats xq3 mq1) fun zq6 mq4 =>
if zq6 = true then (
some (gI mq4 18 0, mq4)) else (
some ((1 : Int32) - (gI mq4 18 0), mq4))
def F_Ma_setLog_2 (a1 : Int32) (a2 : Int32) (m0 : Mem) : Option (Unit × Mem) :=
lt (((gI m0 18 3) * (7 : Int32)) + a1 : Int32) fun xq1 =>
if xq1 < 0 then (
some ((), m0)) else (
if (63 : Int32) ≤ xq1 then (
some ((), m0)) else (
ckB (inb xq1 63) <|
lt (sI m0 19 xq1.toNatClampNeg a2) fun mq2 =>
some ((), mq2)))
def F_Ma_leadOf_2 (a1 : Int32) (m0 : Mem) : Option (Int32 × Mem) :=
if a1 = 0 then (
some ((gI m0 18 8) - (gI m0 18 9), m0)) else (
some ((gI m0 18 9) - (gI m0 18 8), m0))
def F_Ma_judge_2 (a1 : Int32) (m0 : Mem) : Option (Unit × Mem) :=
bnd (F_Ma_batting_2 m0) fun xq3 mq1 =>
lt (fun (mq4 : Mem) => ((lt (fun (mq5 : Mem) => ((if (gI mq5 18 3) < a1 then (
some ((), mq5)) else (
lt (sI mq5 18 4 (2 : Int32)) fun mq6 =>
some ((), mq6))) : Option (Unit × Mem))) fun k68_5 =>
if (gI mq4 18 1) = (3 : Int32) then (
if (gI mq4 18 2) = (10 : Int32) then (
bnd (F_Ma_leadOf_2 xq3 mq4) fun xq9 mq7 =>
lt (fun (xq11 : Int32) (mq10 : Mem) => ((lt (sI mq10 18 4 xq11) fun mq12 =>
some ((), mq12)) : Option (Unit × Mem))) fun k62_11 =>
if xq9 = 0 then (
k62_11 (2 : Int32) mq7) else (
k62_11 ((1 : Int32) - xq3) mq7)) else (
k68_5 mq4)) else (
k68_5 mq4)) : Option (Unit × Mem))) fun k29_4 =>
if (gI mq1 18 1) = (3 : Int32) then (
bnd (F_Ma_leadOf_2 xq3 mq1) fun xq15 mq13 =>
if xq15 ≤ 0 then (
k29_4 mq13) else (
lt (sI mq13 18 4 xq3) fun mq16 =>
some ((), mq16))) else (
k29_4 mq1)
def F_Ma_beginNext_2 (m0 : Mem) : Option (Unit × Mem) :=
lt (sI m0 18 1 ((gI m0 18 1) + (1 : Int32))) fun mq1 =>
lt (sI mq1 18 2 (0 : Int32)) fun mq2 =>
lt (sZ mq2 18 6 true) fun mq3 =>
some ((), mq3)
def F_Ma_playSession_2 (a2 : Int32) (a3 : Bool) (m0 : Mem) : Option (Unit × Mem) :=
bnd (F_Ma_batting_2 m0) fun xq3 mq1 =>
bnd (F_Gr_levelOf (gI mq1 18 3) (gI mq1 18 1) xq3 mq1) fun xq6 mq4 =>
lt (fun (xq8 : Int32) (mq7 : Mem) => ((bnd (F_Gr_outsIn (gI mq7 18 3) xq6 a2 mq7) fun xq11 mq9 =>
lt (fun (xq13 : Int32) (mq12 : Mem) => ((lt (fun (mq14 : Mem) => ((lt (sI mq14 18 2 (mnI (10 : Int32) ((gI mq14 18 2) + xq13))) fun mq15 =>
lt (sZ mq15 18 6 false) fun mq16 =>
bnd (F_Ma_setLog_2 (0 : Int32) (gI mq16 18 1) mq16) fun _ mq17 =>
bnd (F_Ma_setLog_2 (1 : Int32) xq3 mq17) fun _ mq20 =>
bnd (F_Ma_setLog_2 (2 : Int32) xq6 mq20) fun _ mq23 =>
bnd (F_Ma_setLog_2 (3 : Int32) a2 mq23) fun _ mq26 =>
bnd (F_Ma_leadOf_2 xq3 mq26) fun xq31 mq29 =>
bnd (F_Ma_setLog_2 (4 : Int32) xq31 mq29) fun _ mq32 =>
bnd (F_Ma_setLog_2 (5 : Int32) (gI mq32 18 2) mq32) fun _ mq35 =>
bnd (F_Ma_setLog_2 (6 : Int32) xq8 mq35) fun _ mq38 =>
lt (sI mq38 18 3 ((gI mq38 18 3) + (1 : Int32))) fun mq41 =>
lt (fun (mq42 : Mem) => ((bnd (F_Ma_judge_2 (gI mq42 3 0) mq42) fun _ mq43 =>
some ((), mq43)) : Option (Unit × Mem))) fun k209_42 =>
if (gI mq41 18 2) = (10 : Int32) then (
if (gI mq41 18 1) = (3 : Int32) then (
k209_42 mq41) else (
bnd (F_Ma_beginNext_2 mq41) fun _ mq46 =>
k209_42 mq46)) else (
k209_42 mq41)) : Option (Unit × Mem))) fun k100_14 =>
if xq3 = 0 then (
lt (sI mq12 18 8 ((gI mq12 18 8) + xq8)) fun mq50 =>
k100_14 mq50) else (
lt (sI mq12 18 9 ((gI mq12 18 9) + xq8)) fun mq49 =>
k100_14 mq49)) : Option (Unit × Mem))) fun k70_13 =>
if a3 = true then (
lt (mxI (0 : Int32) (xq11 - (1 : Int32)) : Int32) fun xq51 =>
k70_13 xq51 mq9) else (
k70_13 xq11 mq9)) : Option (Unit × Mem))) fun k41_8 =>
if a3 = true then (
k41_8 (0 : Int32) mq4) else (
bnd (F_Gr_runsIn (gI mq4 18 3) xq6 a2 mq4) fun xq54 mq52 =>
k41_8 xq54 mq52)
def F_T_swing_L61 (xq3 : Int32) (k107_14 : Mem → Option ((Nat ⊕ Int32) × Mem)) : Nat → Int32 → Mem → Option ((Nat ⊕ Int32) × Mem)
  | 0, _, _ => none
  | nfq17 + 1, xq16, mq15 =>
    if xq3 ≤ xq16 then (
    k107_14 mq15) else (
    if (400 : Int32) ≤ xq16 then (
    k107_14 mq15) else (
    bnd (F_Ma_isOn_2 mq15) fun zq21 mq19 =>
    lt (fun (mq22 : Mem) => ((lt (xq16 + (1 : Int32) : Int32) fun xq23 =>
    F_T_swing_L61 xq3 k107_14 nfq17 xq23 mq22) : Option ((Nat ⊕ Int32) × Mem))) fun k101_22 =>
    if zq21 = true then (
    ckB (inb xq16 400) <|
    lt (gI mq19 1 xq16.toNatClampNeg) fun xq25 =>
    bnd (F_Ma_playSession_2 xq25 false mq19) fun _ mq26 =>
    k101_22 mq26) else (
    k101_22 mq19)))
def F_T_swing (m0 : Mem) : Option ((Nat ⊕ Int32) × Mem) :=
bnd (F_T_useTape m0) fun xq3 mq1 =>
bndX (F_T_mustBeOn mq1) fun _ mq4 =>
lt (fun (mq7 : Mem) => ((some (.inl 1, mq7)) : Option ((Nat ⊕ Int32) × Mem))) fun k37_7 =>
if xq3 = ((gI mq4 3 0) - (gI mq4 16 3)) then (
bnd (F_T_tapeIsBelow xq3 (4 : Int32) mq4) fun zq10 mq8 =>
if zq10 = true then (
bnd (F_Ma_copyFrom_4 mq8) fun _ mq11 =>
lt (fun (mq14 : Mem) => ((some (.inr (gI mq14 18 4), mq14)) : Option ((Nat ⊕ Int32) × Mem))) fun k107_14 =>
F_T_swing_L61 xq3 k107_14 1000000 (0 : Int32) mq11) else (
k37_7 mq8)) else (
k37_7 mq4)
def F_T_table_L42 (a1 : Int32) (a4 : Bool) (xq12 : Int32) : Nat → Int32 → Int32 → Mem → Option ((Nat ⊕ Int32) × Mem)
  | 0, _, _, _ => none
  | nfq16 + 1, xq14, xq15, mq13 =>
    if (4 : Int32) ≤ xq15 then (
    some (.inr xq14, mq13)) else (
    lt (fun (xq19 : Int32) (mq18 : Mem) => ((lt (xq14 + xq19 : Int32) fun xq20 =>
    lt (xq15 + (1 : Int32) : Int32) fun xq21 =>
    F_T_table_L42 a1 a4 xq12 nfq16 xq20 xq21 mq18) : Option ((Nat ⊕ Int32) × Mem))) fun k82_19 =>
    if a4 = true then (
    bnd (F_Gr_outsIn a1 xq12 xq15 mq13) fun xq27 mq25 =>
    k82_19 xq27 mq25) else (
    bnd (F_Gr_runsIn a1 xq12 xq15 mq13) fun xq24 mq22 =>
    k82_19 xq24 mq22))
def F_T_table (a1 : Int32) (a2 : Int32) (a3 : Int32) (a4 : Bool) (m0 : Mem) : Option ((Nat ⊕ Int32) × Mem) :=
bndX (F_T_mustBeBelow a1 (gI m0 3 0) m0) fun _ mq1 =>
bndX (F_T_mustBeBelow a2 (4 : Int32) mq1) fun _ mq4 =>
bndX (F_T_mustBeBelow a3 (2 : Int32) mq4) fun _ mq7 =>
bnd (F_Gr_levelOf a1 a2 a3 mq7) fun xq12 mq10 =>
F_T_table_L42 a1 a4 xq12 1000000 (0 : Int32) (0 : Int32) mq10
def F_T_target (a1 : Bool) (m0 : Mem) : Option ((Nat ⊕ Int32) × Mem) :=
bndX (F_T_mustBeChase m0) fun _ mq1 =>
bnd (F_Ma_batting mq1) fun xq6 mq4 =>
bnd (F_Ma_leadOf xq6 mq4) fun xq9 mq7 =>
lt ((1 : Int32) - xq9 : Int32) fun xq10 =>
lt ((gI mq7 3 0) - (gI mq7 16 3) : Int32) fun xq11 =>
if a1 = true then (
if 0 < xq11 then (
ckB (!decide (xq11 = 0)) <|
some (.inr (((xq10 + xq11) - (1 : Int32)) / xq11), mq7)) else (
some (.inr xq10, mq7))) else (
some (.inr xq10, mq7))
def F_Ma_begin (a1 : Int32) (m0 : Mem) : Option (Unit × Mem) :=
lt (sI m0 16 0 a1) fun mq1 =>
lt (sZ mq1 16 6 true) fun mq2 =>
some ((), mq2)
def F_T_toss (a1 : Int32) (m0 : Mem) : Option ((Nat ⊕ Int32) × Mem) :=
bndX (F_T_mustBeBelow a1 (2 : Int32) m0) fun _ mq1 =>
if (gI mq1 16 0) = (-1 : Int32) then (
bnd (F_Pa_remember mq1) fun _ mq4 =>
bnd (F_Ma_begin a1 mq4) fun _ mq7 =>
bnd (F_Gr_levelOf (0 : Int32) (0 : Int32) a1 mq7) fun xq12 mq10 =>
some (.inr xq12, mq10)) else (
some (.inl 0, mq1))
def F_T_turning_L35 (a1 : Bool) (zq8 : Bool) : Nat → Int32 → Int64 → Int32 → Mem → Option ((Nat ⊕ Int32) × Mem)
  | 0, _, _, _, _ => none
  | nfq13 + 1, xq10, yq11, xq12, mq9 =>
    if (4 : Int32) ≤ xq12 then (
    some (.inr xq10, mq9)) else (
    bnd (F_T_waysAfter xq12 mq9) fun yq17 mq15 =>
    bnd (F_Od_valueOf yq17 ((gI mq15 16 3) + (1 : Int32)) zq8 (gI mq15 3 5) mq15) fun yq20 mq18 =>
    lt (fun (xq22 : Int32) (yq23 : Int64) (mq21 : Mem) => ((lt (xq12 + (1 : Int32) : Int32) fun xq24 =>
    F_T_turning_L35 a1 zq8 nfq13 xq22 yq23 xq24 mq21) : Option ((Nat ⊕ Int32) × Mem))) fun k112_23 =>
    lt (fun (mq25 : Mem) => ((k112_23 xq12 yq20 mq25) : Option ((Nat ⊕ Int32) × Mem))) fun k105_25 =>
    if xq12 = 0 then (
    k105_25 mq18) else (
    if a1 = true then (
    if yq11 ≤ yq20 then (
    k112_23 xq10 yq11 mq18) else (
    k105_25 mq18)) else (
    if yq20 ≤ yq11 then (
    k112_23 xq10 yq11 mq18) else (
    k105_25 mq18))))
def F_T_turning (a1 : Bool) (m0 : Mem) : Option ((Nat ⊕ Int32) × Mem) :=
bndX (F_T_mustBeOn m0) fun _ mq1 =>
bnd (F_Ma_batting mq1) fun xq6 mq4 =>
lt (fun (zq8 : Bool) (mq7 : Mem) => ((F_T_turning_L35 a1 zq8 1000000 (0 : Int32) (0 : Int64) (0 : Int32) mq7) : Option ((Nat ⊕ Int32) × Mem))) fun k26_8 =>
if xq6 = (gI mq4 16 0) then (
k26_8 true mq4) else (
k26_8 false mq4)
def F_T_turnover_L27 (a1 : Int32) (a2 : Int32) : Nat → Int32 → Mem → Option ((Nat ⊕ Int32) × Mem)
  | 0, _, _ => none
  | nfq9 + 1, xq8, mq7 =>
    if xq8 < 0 then (
    some (.inr (-1 : Int32), mq7)) else (
    bnd (F_Od_kindOf (3 : Int32) false mq7) fun xq13 mq11 =>
    bnd (F_Od_choosesTold a1 xq13 (-xq8) a2 mq11) fun zq16 mq14 =>
    if zq16 = true then (
    lt (xq8 + (-1 : Int32) : Int32) fun xq17 =>
    F_T_turnover_L27 a1 a2 nfq9 xq17 mq14) else (
    some (.inr xq8, mq14)))
def F_T_turnover (a1 : Int32) (a2 : Int32) (m0 : Mem) : Option ((Nat ⊕ Int32) × Mem) :=
bndX (F_T_mustBeState a1 (3 : Int32) (0 : Int32) a2 m0) fun _ mq1 =>
bnd (F_Od_ready (0 : Int32) (gI mq1 3 5) false mq1) fun _ mq4 =>
F_T_turnover_L27 a1 a2 1000000 (81 : Int32) mq4
def F_Ma_copyFrom_5_L82 (o1 : Nat) : Nat → Int32 → Mem → Option (Unit × Mem)
  | 0, _, _ => none
  | nfq13 + 1, xq12, mq11 =>
    if (63 : Int32) ≤ xq12 then (
    some ((), mq11)) else (
    ckB (inb xq12 63) <|
    lt (gI mq11 (o1 + 1) xq12.toNatClampNeg) fun xq16 =>
    ckB (inb xq12 63) <|
    lt (sI mq11 17 xq12.toNatClampNeg xq16) fun mq17 =>
    lt (xq12 + (1 : Int32) : Int32) fun xq19 =>
    F_Ma_copyFrom_5_L82 o1 nfq13 xq19 mq17)
def F_Ma_copyFrom_5 (o1 : Nat) (m0 : Mem) : Option (Unit × Mem) :=
lt (sI m0 16 0 (gI m0 o1 0)) fun mq1 =>
lt (sI mq1 16 1 (gI mq1 o1 1)) fun mq2 =>
lt (sI mq2 16 2 (gI mq2 o1 2)) fun mq3 =>
lt (sI mq3 16 3 (gI mq3 o1 3)) fun mq4 =>
lt (sI mq4 16 4 (gI mq4 o1 4)) fun mq5 =>
lt (sZ mq5 16 5 (gZ mq5 o1 5)) fun mq6 =>
lt (sZ mq6 16 6 (gZ mq6 o1 6)) fun mq7 =>
lt (sI mq7 16 7 (gI mq7 o1 7)) fun mq8 =>
lt (sI mq8 16 8 (gI mq8 o1 8)) fun mq9 =>
lt (sI mq9 16 9 (gI mq9 o1 9)) fun mq10 =>
F_Ma_copyFrom_5_L82 o1 1000000 (0 : Int32) mq10
def F_Pa_giveBack (m0 : Mem) : Option (Bool × Mem) :=
lt ((((gI m0 20 1) + (12 : Int32)) - (1 : Int32)) - (((gI m0 20 1) + (12 : Int32)) - (1 : Int32)) / (12 : Int32) * (12 : Int32) : Int32) fun xq1 =>
bnd (F_Pa_roomAt xq1 m0) fun qq4 mq2 =>
oMat qq4 (
if (gI mq2 20 0) ≤ 0 then (
some (false, mq2)) else (
some (false, mq2))) fun oq5 =>
if (gI mq2 20 0) ≤ 0 then (
some (false, mq2)) else (
bnd (F_Ma_copyFrom_5 oq5 mq2) fun _ mq6 =>
lt ((((gI mq6 20 1) + (12 : Int32)) - (1 : Int32)) - (((gI mq6 20 1) + (12 : Int32)) - (1 : Int32)) / (12 : Int32) * (12 : Int32) : Int32) fun xq9 =>
lt (sI mq6 20 1 xq9) fun mq10 =>
lt (sI mq10 20 0 ((gI mq10 20 0) - (1 : Int32))) fun mq11 =>
some (true, mq11))
def F_T_undo (m0 : Mem) : Option (Bool × Mem) :=
bnd (F_Pa_giveBack m0) fun zq3 mq1 =>
some (zq3, mq1)
def F_T_betterToBat (a1 : Int32) (m0 : Mem) : Option (Int32 × Mem) :=
bnd (F_T_tossValue a1 a1 m0) fun yq3 mq1 =>
bnd (F_T_tossValue a1 ((1 : Int32) - a1) mq1) fun yq6 mq4 =>
some (lcI yq3 yq6, mq4)
def F_T_well_L17 (xq3 : Int32) (xq6 : Int32) : Nat → Int32 → Int32 → Mem → Option (Int32 × Mem)
  | 0, _, _, _ => none
  | nfq10 + 1, xq8, xq9, mq7 =>
    if (gI mq7 12 0) ≤ xq9 then (
    some (xq8, mq7)) else (
    bnd (F_Bk_cell xq9 (0 : Int32) mq7) fun xq14 mq12 =>
    lt (fun (xq16 : Int32) (mq15 : Mem) => ((bnd (F_Bk_cell xq9 (1 : Int32) mq15) fun xq19 mq17 =>
    lt (fun (zq21 : Bool) (mq20 : Mem) => ((lt (fun (xq23 : Int32) (mq22 : Mem) => ((lt (xq9 + (1 : Int32) : Int32) fun xq24 =>
    F_T_well_L17 xq3 xq6 nfq10 xq23 xq24 mq22) : Option (Int32 × Mem))) fun k107_23 =>
    lt (fun (mq25 : Mem) => ((lt (xq8 + (1 : Int32) : Int32) fun xq26 =>
    k107_23 xq26 mq25) : Option (Int32 × Mem))) fun k104_25 =>
    if xq16 = 0 then (
    k104_25 mq20) else (
    lt (fun (zq28 : Bool) (mq27 : Mem) => ((if (b2i zq28) = (b2i zq21) then (
    k104_25 mq27) else (
    k107_23 xq8 mq27)) : Option (Int32 × Mem))) fun k99_28 =>
    if xq16 ≤ 0 then (
    k99_28 false mq20) else (
    k99_28 true mq20))) : Option (Int32 × Mem))) fun k82_21 =>
    if xq19 = xq14 then (
    k82_21 true mq17) else (
    k82_21 false mq17)) : Option (Int32 × Mem))) fun k57_16 =>
    if xq14 = 0 then (
    k57_16 xq3 mq12) else (
    k57_16 xq6 mq12))
def F_T_well (m0 : Mem) : Option (Int32 × Mem) :=
bnd (F_T_betterToBat (0 : Int32) m0) fun xq3 mq1 =>
bnd (F_T_betterToBat (1 : Int32) mq1) fun xq6 mq4 =>
F_T_well_L17 xq3 xq6 1000000 (0 : Int32) (0 : Int32) mq4
def F_T_when_L27 (a1 : Int32) (a2 : Int32) : Nat → Int32 → Mem → Option ((Nat ⊕ Int32) × Mem)
  | 0, _, _ => none
  | nfq9 + 1, xq8, mq7 =>
    if (81 : Int32) < xq8 then (
    some (.inr (-99 : Int32), mq7)) else (
    bnd (F_Od_kindOf (2 : Int32) false mq7) fun xq13 mq11 =>
    bnd (F_Od_choosesTold a1 xq13 xq8 a2 mq11) fun zq16 mq14 =>
    if zq16 = true then (
    some (.inr xq8, mq14)) else (
    lt (xq8 + (1 : Int32) : Int32) fun xq17 =>
    F_T_when_L27 a1 a2 nfq9 xq17 mq14))
def F_T_when (a1 : Int32) (a2 : Int32) (m0 : Mem) : Option ((Nat ⊕ Int32) × Mem) :=
bndX (F_T_mustBeState a1 (2 : Int32) (0 : Int32) a2 m0) fun _ mq1 =>
bnd (F_Od_ready (0 : Int32) (gI mq1 3 5) false mq1) fun _ mq4 =>
F_T_when_L27 a1 a2 1000000 (-81 : Int32) mq4
def F_T_wins (a1 : Int32) (a2 : Int32) (a3 : Bool) (a4 : Int32) (a5 : Int32) (a6 : Int32) (m0 : Mem) : Option ((Nat ⊕ Int64) × Mem) :=
bndX (F_T_mustBeState a1 a2 a4 a5 m0) fun _ mq1 =>
lt (fun (mq4 : Mem) => ((some (.inl 4, mq4)) : Option ((Nat ⊕ Int64) × Mem))) fun k21_4 =>
if a6 < 0 then (
k21_4 mq1) else (
if a6 ≤ (2 : Int32) then (
bnd (F_Od_ready (0 : Int32) (gI mq1 3 5) false mq1) fun _ mq5 =>
bnd (F_Od_kindOf a2 a3 mq5) fun xq10 mq8 =>
bnd (F_T_winsOf a1 xq10 a4 a5 a6 mq8) fun yq13 mq11 =>
some (.inr yq13, mq11)) else (
k21_4 mq1))
def F_T_worth (a1 : Int32) (a2 : Int32) (m0 : Mem) : Option ((Nat ⊕ Int64) × Mem) :=
bndX (F_T_mustBeBelow a1 (2 : Int32) m0) fun _ mq1 =>
if a2 = 0 then (
bnd (F_T_tossValue a1 a1 mq1) fun yq6 mq4 =>
some (.inr yq6, mq4)) else (
if a2 = 1 then (
bnd (F_T_tossValue a1 ((1 : Int32) - a1) mq1) fun yq9 mq7 =>
some (.inr yq9, mq7)) else (
if a2 = 2 then (
bnd (F_T_tossValue a1 (0 : Int32) mq1) fun yq12 mq10 =>
bnd (F_T_tossValue a1 (1 : Int32) mq10) fun yq15 mq13 =>
some (.inr (abL (yq12 - yq15)), mq13)) else (
if a2 = 3 then (
bnd (F_T_leftValue a1 mq1) fun yq18 mq16 =>
some (.inr yq18, mq16)) else (
some (.inl 4, mq1)))))
def F_M_in (a0 : Int32) (a1 : Int32) (a2 : Int32) (m0 : Mem) : Option (Bool × Mem) :=
if a0 < a1 then (
some (false, m0)) else (
if a2 < a0 then (
some (false, m0)) else (
some (true, m0)))
def F_M_noSlot (a0 : Int32) (m0 : Mem) : Option (Bool × Mem) :=
bnd (F_M_in a0 (0 : Int32) (3 : Int32) m0) fun zq3 mq1 =>
if zq3 = true then (
some (false, mq1)) else (
some (true, mq1))
def F_M_throwsIf (a1 : Bool) (a2 : Int32) (m0 : Mem) : Option (Bool × Mem) :=
if a1 = true then (
lt (sI m0 78 0 a2) fun mq1 =>
some (a1, mq1)) else (
some (a1, m0))
def F_M_firstSide (m0 : Mem) : Option (Int32 × Mem) :=
some (gI m0 79 10, m0)
def F_M_isOver (m0 : Mem) : Option (Bool × Mem) :=
if (gI m0 79 18) < 0 then (
some (false, m0)) else (
some (true, m0))
def F_M_isOn (m0 : Mem) : Option (Bool × Mem) :=
bnd (F_M_firstSide m0) fun xq3 mq1 =>
if xq3 < 0 then (
some (false, mq1)) else (
bnd (F_M_isOver mq1) fun zq6 mq4 =>
if zq6 = true then (
some (false, mq4)) else (
some (true, mq4)))
def F_M_played (m0 : Mem) : Option (Int32 × Mem) :=
some (gI m0 79 17, m0)
def F_M_isFollowed (m0 : Mem) : Option (Bool × Mem) :=
if (gI m0 79 12) = (1 : Int32) then (
some (true, m0)) else (
some (false, m0))
def F_M_batting (a0 : Int32) (a1 : Int32) (a2 : Bool) (m0 : Mem) : Option (Int32 × Mem) :=
lt (fun (zq2 : Bool) (mq1 : Mem) => ((if (b2i zq2) = (b2i a2) then (
some ((1 : Int32) - a0, mq1)) else (
some (a0, mq1))) : Option (Int32 × Mem))) fun k14_2 =>
lt (fun (mq3 : Mem) => ((k14_2 true mq3) : Option (Int32 × Mem))) fun k9_3 =>
if a1 = 0 then (
k9_3 m0) else (
if a1 = (2 : Int32) then (
k9_3 m0) else (
k14_2 false m0))
def F_M_batter (m0 : Mem) : Option (Int32 × Mem) :=
bnd (F_M_firstSide m0) fun xq3 mq1 =>
bnd (F_M_isFollowed mq1) fun zq6 mq4 =>
bnd (F_M_batting xq3 (gI mq1 79 11) zq6 mq4) fun xq9 mq7 =>
some (xq9, mq7)
def F_M_leadOf (a1 : Int32) (m0 : Mem) : Option (Int32 × Mem) :=
ckB (inb ((15 : Int32) + a1) 1972) <|
lt (gI m0 79 ((15 : Int32) + a1).toNatClampNeg) fun xq2 =>
ckB (inb ((16 : Int32) - a1) 1972) <|
lt (gI m0 79 ((16 : Int32) - a1).toNatClampNeg) fun xq4 =>
some (xq2 - xq4, m0)
def F_M_mostRuns_L4  : Nat → Int32 → Int32 → Mem → Option (Int32 × Mem)
  | 0, _, _, _ => none
  | nfq4 + 1, xq2, xq3, mq1 =>
    if (16 : Int32) ≤ xq3 then (
    some (xq2, mq1)) else (
    ckB (inb ((23 : Int32) + ((2 : Int32) * xq3)) 1972) <|
    lt (gI mq1 79 ((23 : Int32) + ((2 : Int32) * xq3)).toNatClampNeg) fun xq7 =>
    lt (mxI xq2 xq7 : Int32) fun xq8 =>
    lt (xq3 + (1 : Int32) : Int32) fun xq9 =>
    F_M_mostRuns_L4 nfq4 xq8 xq9 mq1)
def F_M_mostRuns (m0 : Mem) : Option (Int32 × Mem) :=
F_M_mostRuns_L4 1000000 (0 : Int32) (0 : Int32) m0
def F_M_size (m0 : Mem) : Option (Int32 × Mem) :=
some (gI m0 79 0, m0)
