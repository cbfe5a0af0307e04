def F_T_mustBeBelow (a1 : Int32) (a2 : Int32) (m0 : Mem) : Option ((Nat ⊕ Unit) × Mem) :=
lt (fun (mq1 : Mem) => ((some (.inl 2, mq1)) : Option ((Nat ⊕ Unit) × Mem))) fun k9_1 =>
if a1 < 0 then (
k9_1 m0) else (
if a1 < a2 then (
some (.inr (), m0)) else (
k9_1 m0))
def F_Ma_isOn (m0 : Mem) : Option (Bool × Mem) :=
if (gI m0 16 0) = (-1 : Int32) then (
some (false, m0)) else (
if (gI m0 16 4) = (-1 : Int32) then (
some (true, m0)) else (
some (false, m0)))
def F_T_mustBeOn (m0 : Mem) : Option ((Nat ⊕ Unit) × Mem) :=
bnd (F_Ma_isOn m0) fun zq3 mq1 =>
if zq3 = true then (
some (.inr (), mq1)) else (
some (.inl 0, mq1))
def F_Od_ready (a1 : Int32) (a2 : Int32) (a3 : Bool) (m0 : Mem) : Option (Unit × Mem) :=
lt (fun (mq1 : Mem) => ((lt (sL mq1 2 2 ((gL mq1 2 2) + (1 : Int64))) fun mq2 =>
lt (sZ mq2 2 3 false) fun mq3 =>
lt (sI mq3 2 4 a1) fun mq4 =>
lt (sI mq4 2 5 a2) fun mq5 =>
lt (sZ mq5 2 6 a3) fun mq6 =>
some ((), mq6)) : Option (Unit × Mem))) fun k31_1 =>
if (gZ m0 2 3) = true then (
k31_1 m0) else (
if (gI m0 2 4) = a1 then (
if (gI m0 2 5) = a2 then (
if (b2i (gZ m0 2 6)) = (b2i a3) then (
some ((), m0)) else (
k31_1 m0)) else (
k31_1 m0)) else (
k31_1 m0))
def F_Od_kindOf (a0 : Int32) (a1 : Bool) (m0 : Mem) : Option (Int32 × Mem) :=
if a1 = true then (
if a0 < (2 : Int32) then (
some (a0, m0)) else (
some (a0 + (2 : Int32), m0))) else (
some (a0, m0))
def F_Ma_kind (m0 : Mem) : Option (Int32 × Mem) :=
bnd (F_Od_kindOf (gI m0 16 1) (gZ m0 16 5) m0) fun xq3 mq1 =>
some (xq3, mq1)
def F_Ma_leadOf (a1 : Int32) (m0 : Mem) : Option (Int32 × Mem) :=
if a1 = 0 then (
some ((gI m0 16 8) - (gI m0 16 9), m0)) else (
some ((gI m0 16 9) - (gI m0 16 8), m0))
def F_Od_firstBats (a0 : Int32) (m0 : Mem) : Option (Bool × Mem) :=
if a0 = 0 then (
some (true, m0)) else (
if a0 = (2 : Int32) then (
some (true, m0)) else (
if a0 = (5 : Int32) then (
some (true, m0)) else (
some (false, m0))))
def F_Od_inningsOf (a0 : Int32) (m0 : Mem) : Option (Int32 × Mem) :=
if a0 ≤ (3 : Int32) then (
some (a0, m0)) else (
some (a0 - (2 : Int32), m0))
def F_Lw_stand (a1 : Int32) (a2 : Int32) (a3 : Int32) (m0 : Mem) : Option (Unit × Mem) :=
lt (sI m0 10 0 a1) fun mq1 =>
lt (sI mq1 10 1 (a1 / (3 : Int32))) fun mq2 =>
lt (sI mq2 10 2 a2) fun mq3 =>
lt (sI mq3 10 3 a3) fun mq4 =>
some ((), mq4)
def F_Gr_batOf (a1 : Int32) (m0 : Mem) : Option (Int32 × Mem) :=
if a1 = 0 then (
some (gI m0 4 0, m0)) else (
some (gI m0 4 1, m0))
def F_Gr_bowlOf (a1 : Int32) (m0 : Mem) : Option (Int32 × Mem) :=
if a1 = 0 then (
some (gI m0 5 0, m0)) else (
some (gI m0 5 1, m0))
def F_Lw_standSides (a1 : Int32) (a2 : Int32) (m0 : Mem) : Option (Unit × Mem) :=
lt (sI m0 10 4 a1) fun mq1 =>
lt (sI mq1 10 5 a2) fun mq2 =>
some ((), mq2)
def F_T_bitOf (a0 : Int32) (a1 : Int32) (m0 : Mem) : Option (Int32 × Mem) :=
lt ((a0.toUInt32 >>> (a1.toUInt32 &&& Int32.toUInt32 31)).toInt32 : Int32) fun xq1 =>
some (xq1 &&& (1 : Int32), m0)
def F_Lw_standSky (a1 : Int32) (a2 : Int32) (m0 : Mem) : Option (Unit × Mem) :=
lt (sI m0 10 6 a1) fun mq1 =>
lt (sI mq1 10 7 a2) fun mq2 =>
some ((), mq2)
def F_Lw_stackAt (a1 : Int32) (m0 : Mem) : Option (Int32 × Mem) :=
if a1 < 0 then (
some ((0 : Int32), m0)) else (
if a1 < (64 : Int32) then (
ckB (inb a1 64) <|
lt (gI m0 11 a1.toNatClampNeg) fun xq2 =>
some (xq2, m0)) else (
some ((0 : Int32), m0)))
def F_Lw_joined (a1 : Int32) (a2 : Int32) (a3 : Int32) (m0 : Mem) : Option (Int32 × Mem) :=
if a1 = 1101 then (
some (a2 &&& a3, m0)) else (
if a1 = 1102 then (
some (a2 ||| a3, m0)) else (
if a1 = 1103 then (
if a3 ≤ a2 then (
some ((0 : Int32), m0)) else (
some ((1 : Int32), m0))) else (
if a1 = 1104 then (
if a2 ≤ a3 then (
some ((0 : Int32), m0)) else (
some ((1 : Int32), m0))) else (
some (a2 + a3, m0)))))
def F_Lw_setStack (a1 : Int32) (a2 : Int32) (m0 : Mem) : Option (Unit × Mem) :=
if a1 < 0 then (
some ((), m0)) else (
if (64 : Int32) ≤ a1 then (
some ((), m0)) else (
ckB (inb a1 64) <|
lt (sI m0 11 a1.toNatClampNeg a2) fun mq1 =>
some ((), mq1)))
def F_Lw_placeAt (a1 : Int32) (m0 : Mem) : Option (Int32 × Mem) :=
if a1 < 0 then (
some ((0 : Int32), m0)) else (
if a1 < (8 : Int32) then (
ckB (inb a1 8) <|
lt (gI m0 10 a1.toNatClampNeg) fun xq2 =>
some (xq2, m0)) else (
some ((0 : Int32), m0)))
def F_Lw_hardness_L6  : Nat → Int32 → Int32 → Int32 → Mem → Option (Int32 × Mem)
  | 0, _, _, _, _ => none
  | nfq5 + 1, xq2, xq3, xq4, mq1 =>
    if (gI mq1 8 1) ≤ xq4 then (
    some (xq2, mq1)) else (
    if (400 : Int32) ≤ xq4 then (
    some (xq2, mq1)) else (
    ckB (inb xq4 400) <|
    lt (gI mq1 9 xq4.toNatClampNeg) fun xq8 =>
    lt (fun (xq10 : Int32) (xq11 : Int32) (mq9 : Mem) => ((lt (xq4 + (1 : Int32) : Int32) fun xq12 =>
    F_Lw_hardness_L6 nfq5 xq10 xq11 xq12 mq9) : Option (Int32 × Mem))) fun k172_11 =>
    if (1008 : Int32) ≤ xq8 then (
    if xq8 < (2000 : Int32) then (
    if xq8 = (1100 : Int32) then (
    bnd (F_Lw_stackAt (xq3 - (1 : Int32)) mq1) fun xq28 mq26 =>
    bnd (F_Lw_setStack (xq3 - (1 : Int32)) ((1 : Int32) - xq28) mq26) fun _ mq29 =>
    k172_11 xq2 xq3 mq29) else (
    lt (xq3 + (-1 : Int32) : Int32) fun xq13 =>
    bnd (F_Lw_stackAt (xq13 - (1 : Int32)) mq1) fun xq16 mq14 =>
    bnd (F_Lw_stackAt xq13 mq14) fun xq19 mq17 =>
    bnd (F_Lw_joined xq8 xq16 xq19 mq17) fun xq22 mq20 =>
    bnd (F_Lw_setStack (xq13 - (1 : Int32)) xq22 mq20) fun _ mq23 =>
    k172_11 xq2 xq13 mq23)) else (
    lt (xq3 + (-1 : Int32) : Int32) fun xq32 =>
    bnd (F_Lw_stackAt xq32 mq1) fun xq35 mq33 =>
    lt (fun (xq37 : Int32) (mq36 : Mem) => ((lt (xq2 + xq37 : Int32) fun xq38 =>
    k172_11 xq38 xq32 mq36) : Option (Int32 × Mem))) fun k112_37 =>
    if xq35 = 0 then (
    k112_37 (0 : Int32) mq33) else (
    k112_37 (xq8 - (2000 : Int32)) mq33))) else (
    lt (fun (mq39 : Mem) => ((lt (xq3 + (1 : Int32) : Int32) fun xq40 =>
    k172_11 xq2 xq40 mq39) : Option (Int32 × Mem))) fun k76_39 =>
    if xq3 < 0 then (
    k76_39 mq1) else (
    if (64 : Int32) ≤ xq3 then (
    k76_39 mq1) else (
    lt (fun (xq42 : Int32) (mq41 : Mem) => ((ckB (inb xq3 64) <|
    lt (sI mq41 11 xq3.toNatClampNeg xq42) fun mq43 =>
    k76_39 mq43) : Option (Int32 × Mem))) fun k75_42 =>
    if (1000 : Int32) ≤ xq8 then (
    bnd (F_Lw_placeAt (xq8 - (1000 : Int32)) mq1) fun xq47 mq45 =>
    k75_42 xq47 mq45) else (
    k75_42 xq8 mq1))))))
def F_Lw_hardness (m0 : Mem) : Option (Int32 × Mem) :=
F_Lw_hardness_L6 1000000 (0 : Int32) (0 : Int32) (0 : Int32) m0
def F_Gr_levelOf (a1 : Int32) (a2 : Int32) (a3 : Int32) (m0 : Mem) : Option (Int32 × Mem) :=
lt (((a1 * (8 : Int32)) + (a2 * (2 : Int32))) + a3 : Int32) fun xq1 =>
if xq1 < 0 then (
some ((0 : Int32), m0)) else (
if xq1 < (72 : Int32) then (
ckB (inb xq1 72) <|
lt (gI m0 14 xq1.toNatClampNeg) fun xq3 =>
lt (fun (mq4 : Mem) => ((ckB (inb xq1 72) <|
lt (gI mq4 14 xq1.toNatClampNeg) fun xq6 =>
some (xq6, mq4)) : Option (Int32 × Mem))) fun k140_4 =>
lt (fun (mq7 : Mem) => ((ckB (inb xq1 72) <|
lt (gI mq7 14 xq1.toNatClampNeg) fun xq9 =>
if xq9 = (-1 : Int32) then (
bnd (F_Lw_stand a1 a2 a3 mq7) fun _ mq10 =>
bnd (F_Gr_batOf a3 mq10) fun xq15 mq13 =>
bnd (F_Gr_bowlOf ((1 : Int32) - a3) mq13) fun xq18 mq16 =>
bnd (F_Lw_standSides xq15 xq18 mq16) fun _ mq19 =>
bnd (F_T_bitOf (gI mq19 3 1) a1 mq19) fun xq24 mq22 =>
bnd (F_T_bitOf (gI mq22 3 2) a1 mq22) fun xq27 mq25 =>
bnd (F_Lw_standSky xq24 xq27 mq25) fun _ mq28 =>
bnd (F_Lw_hardness mq28) fun xq33 mq31 =>
ckB (inb xq1 72) <|
lt (sI mq31 14 xq1.toNatClampNeg (mnI (3 : Int32) xq33)) fun mq34 =>
k140_4 mq34) else (
k140_4 mq7)) : Option (Int32 × Mem))) fun k59_7 =>
if xq3 = (-1 : Int32) then (
if (gI m0 8 0) = (-1 : Int32) then (
ckB (inb xq1 72) <|
lt (sI m0 14 xq1.toNatClampNeg (1 : Int32)) fun mq36 =>
k140_4 mq36) else (
k59_7 m0)) else (
k59_7 m0)) else (
some ((0 : Int32), m0)))
def F_Gr_outsOf (a1 : Int32) (a2 : Int32) (m0 : Mem) : Option (Int32 × Mem) :=
lt ((a1 * (4 : Int32)) + a2 : Int32) fun xq1 =>
if xq1 < 0 then (
some ((0 : Int32), m0)) else (
if xq1 < (16 : Int32) then (
ckB (inb xq1 16) <|
lt (gI m0 7 xq1.toNatClampNeg) fun xq3 =>
some (xq3, m0)) else (
some ((0 : Int32), m0)))
def F_Gr_outsIn (a1 : Int32) (a2 : Int32) (a3 : Int32) (m0 : Mem) : Option (Int32 × Mem) :=
bnd (F_T_bitOf (gI m0 3 3) a1 m0) fun xq3 mq1 =>
if xq3 = (1 : Int32) then (
some ((0 : Int32), mq1)) else (
bnd (F_Gr_outsOf a2 a3 mq1) fun xq6 mq4 =>
some (xq6, mq4))
def F_Od_all (a1 : Int32) (m0 : Mem) : Option (Int64 × Mem) :=
lt ((gI m0 3 0) - a1 : Int32) fun xq1 =>
if 0 < xq1 then (
lt ((1 : Int64) <<< (((2 : Int32) * xq1).toInt64 &&& 63) : Int64) fun yq2 =>
some (yq2, m0)) else (
some ((1 : Int64), m0))
def F_Od_allTo (a1 : Bool) (a2 : Int32) (m0 : Mem) : Option (Int64 × Mem) :=
if a1 = true then (
bnd (F_Od_all a2 m0) fun yq6 mq4 =>
some (yq6, mq4)) else (
bnd (F_Od_all a2 m0) fun yq3 mq1 =>
some (yq3 <<< ((20 : Int32).toInt64 &&& 63), mq1))
def F_Od_waysOfNext (rc : Int32 → Int32 → Int32 → Int32 → Mem → Option (Int64 × Mem)) (a1 : Int32) (a2 : Int32) (a3 : Int32) (m0 : Mem) : Option (Int64 × Mem) :=
lt (a2 + (1 : Int32) : Int32) fun xq1 =>
bnd (F_Od_firstBats xq1 m0) fun zq4 mq2 =>
bnd (F_Od_inningsOf xq1 mq2) fun xq7 mq5 =>
lt (fun (mq8 : Mem) => ((bnd (rc a1 xq1 (10 : Int32) a3 mq8) fun yq11 mq9 =>
some (yq11, mq9)) : Option (Int64 × Mem))) fun k45_8 =>
if xq7 = (3 : Int32) then (
lt (fun (mq12 : Mem) => ((bnd (F_Od_allTo zq4 a1 mq12) fun yq15 mq13 =>
some (yq15, mq13)) : Option (Int64 × Mem))) fun k37_12 =>
if zq4 = true then (
if a3 ≤ 0 then (
k45_8 mq5) else (
k37_12 mq5)) else (
if 0 ≤ a3 then (
k45_8 mq5) else (
k37_12 mq5))) else (
k45_8 mq5)
def F_Od_waysBehind (rc : Int32 → Int32 → Int32 → Int32 → Mem → Option (Int64 × Mem)) (a1 : Int32) (a2 : Int32) (a3 : Int32) (a4 : Int32) (m0 : Mem) : Option (Int64 × Mem) :=
bnd (F_Od_inningsOf a2 m0) fun xq3 mq1 =>
if xq3 = (3 : Int32) then (
bnd (F_Od_firstBats a2 mq1) fun zq6 mq4 =>
lt (fun (xq8 : Int32) (mq7 : Mem) => ((if xq8 ≤ 0 then (
if a3 = (10 : Int32) then (
if xq8 = 0 then (
some ((0 : Int64), mq7)) else (
lt (fun (zq13 : Bool) (mq12 : Mem) => ((bnd (F_Od_allTo zq13 a1 mq12) fun yq16 mq14 =>
some (yq16, mq14)) : Option (Int64 × Mem))) fun k95_13 =>
if zq6 = true then (
k95_13 false mq7) else (
k95_13 true mq7))) else (
bnd (rc a1 a2 a3 a4 mq7) fun yq11 mq9 =>
some (yq11, mq9))) else (
bnd (F_Od_allTo zq6 a1 mq7) fun yq19 mq17 =>
some (yq19, mq17))) : Option (Int64 × Mem))) fun k54_8 =>
if zq6 = true then (
k54_8 a4 mq4) else (
k54_8 (-a4) mq4)) else (
if a3 = (10 : Int32) then (
bnd (F_Od_waysOfNext rc a1 a2 a4 mq1) fun yq25 mq23 =>
some (yq25, mq23)) else (
bnd (rc a1 a2 a3 a4 mq1) fun yq22 mq20 =>
some (yq22, mq20)))
def F_Gr_runsOf (a1 : Int32) (a2 : Int32) (m0 : Mem) : Option (Int32 × Mem) :=
lt ((a1 * (4 : Int32)) + a2 : Int32) fun xq1 =>
if xq1 < 0 then (
some ((0 : Int32), m0)) else (
if xq1 < (16 : Int32) then (
ckB (inb xq1 16) <|
lt (gI m0 6 xq1.toNatClampNeg) fun xq3 =>
some (xq3, m0)) else (
some ((0 : Int32), m0)))
def F_Gr_runsIn (a1 : Int32) (a2 : Int32) (a3 : Int32) (m0 : Mem) : Option (Int32 × Mem) :=
bnd (F_T_bitOf (gI m0 3 3) a1 m0) fun xq3 mq1 =>
if xq3 = (1 : Int32) then (
some ((0 : Int32), mq1)) else (
bnd (F_Gr_runsOf a2 a3 mq1) fun xq6 mq4 =>
some (xq6, mq4))
def F_Od_waysOfSlot (rc : Int32 → Int32 → Int32 → Int32 → Mem → Option (Int64 × Mem)) (a1 : Int32) (a2 : Int32) (a3 : Int32) (a4 : Int32) (a5 : Int32) (a6 : Bool) (m0 : Mem) : Option (Int64 × Mem) :=
bnd (F_Od_firstBats a2 m0) fun zq3 mq1 =>
bnd (F_Od_inningsOf a2 mq1) fun xq6 mq4 =>
lt (fun (xq8 : Int32) (mq7 : Mem) => ((bnd (F_Gr_levelOf a1 xq6 xq8 mq7) fun xq11 mq9 =>
lt (fun (xq13 : Int32) (mq12 : Mem) => ((bnd (F_Gr_outsIn a1 xq11 a5 mq12) fun xq16 mq14 =>
lt (fun (xq18 : Int32) (mq17 : Mem) => ((lt (fun (xq20 : Int32) (mq19 : Mem) => ((bnd (F_Od_waysBehind rc (a1 + (1 : Int32)) a2 (mnI (10 : Int32) (a3 + xq18)) xq20 mq19) fun yq23 mq21 =>
some (yq23, mq21)) : Option (Int64 × Mem))) fun k122_20 =>
if zq3 = true then (
k122_20 (a4 + xq13) mq17) else (
k122_20 (a4 - xq13) mq17)) : Option (Int64 × Mem))) fun k90_18 =>
if a6 = true then (
lt (mxI (0 : Int32) (xq16 - (1 : Int32)) : Int32) fun xq24 =>
k90_18 xq24 mq14) else (
k90_18 xq16 mq14)) : Option (Int64 × Mem))) fun k59_13 =>
if a6 = true then (
k59_13 (0 : Int32) mq9) else (
bnd (F_Gr_runsIn a1 xq11 a5 mq9) fun xq27 mq25 =>
k59_13 xq27 mq25)) : Option (Int64 × Mem))) fun k33_8 =>
if zq3 = true then (
k33_8 (gI mq4 2 4) mq4) else (
k33_8 ((1 : Int32) - (gI mq4 2 4)) mq4)
def F_Od_placeOf (a1 : Int32) (a2 : Int32) (a3 : Int32) (a4 : Int32) (m0 : Mem) : Option (Int32 × Mem) :=
if (9 : Int32) ≤ a1 then (
some ((-1 : Int32), m0)) else (
if a2 < 0 then (
some ((-1 : Int32), m0)) else (
if (6 : Int32) ≤ a2 then (
some ((-1 : Int32), m0)) else (
if a3 < 0 then (
some ((-1 : Int32), m0)) else (
if (11 : Int32) ≤ a3 then (
some ((-1 : Int32), m0)) else (
if a4 < (-162 : Int32) then (
some ((-1 : Int32), m0)) else (
if a4 ≤ (162 : Int32) then (
lt ((((a1 * (6 : Int32)) + a2) * (11 : Int32)) + a3 : Int32) fun xq1 =>
lt (((xq1 * (325 : Int32)) + a4) + (162 : Int32) : Int32) fun xq2 =>
if xq2 < 0 then (
some ((-1 : Int32), m0)) else (
if xq2 < (193050 : Int32) then (
some (xq2, m0)) else (
some ((-1 : Int32), m0)))) else (
some ((-1 : Int32), m0))))))))
def F_Od_waysOfSession_L6 (rc : Int32 → Int32 → Int32 → Int32 → Mem → Option (Int64 × Mem)) (a1 : Int32) (a2 : Int32) (a3 : Int32) (a4 : Int32) (a5 : Bool) : Nat → Int64 → Int32 → Mem → Option (Int64 × Mem)
  | 0, _, _, _ => none
  | nfq4 + 1, yq2, xq3, mq1 =>
    if (4 : Int32) ≤ xq3 then (
    some (yq2, mq1)) else (
    bnd (F_Od_waysOfSlot rc a1 a2 a3 a4 xq3 a5 mq1) fun yq8 mq6 =>
    lt (yq2 + yq8 : Int64) fun yq9 =>
    lt (xq3 + (1 : Int32) : Int32) fun xq10 =>
    F_Od_waysOfSession_L6 rc a1 a2 a3 a4 a5 nfq4 yq9 xq10 mq6)
def F_Od_waysOfSession (rc : Int32 → Int32 → Int32 → Int32 → Mem → Option (Int64 × Mem)) (a1 : Int32) (a2 : Int32) (a3 : Int32) (a4 : Int32) (a5 : Bool) (m0 : Mem) : Option (Int64 × Mem) :=
F_Od_waysOfSession_L6 rc a1 a2 a3 a4 a5 1000000 (0 : Int64) (0 : Int32) m0
def F_Od_waysGoingOn (rc : Int32 → Int32 → Int32 → Int32 → Mem → Option (Int64 × Mem)) (a1 : Int32) (a2 : Int32) (a3 : Int32) (a4 : Int32) (m0 : Mem) : Option (Int64 × Mem) :=
lt (fun (xq2 : Int32) (mq1 : Mem) => ((bnd (F_Od_waysOfSession rc a1 a2 xq2 a4 false mq1) fun yq5 mq3 =>
some (yq5, mq3)) : Option (Int64 × Mem))) fun k14_2 =>
if a3 = (10 : Int32) then (
k14_2 (0 : Int32) m0) else (
k14_2 a3 m0)
def F_Od_otherChoice (a1 : Int32) (a2 : Int32) (a3 : Int32) (m0 : Mem) : Option (Int32 × Mem) :=
bnd (F_Od_inningsOf a1 m0) fun xq3 mq1 =>
if xq3 = (3 : Int32) then (
some ((3 : Int32), mq1)) else (
if a2 = (10 : Int32) then (
if a1 = (2 : Int32) then (
if a3 < (gI mq1 3 4) then (
some ((0 : Int32), mq1)) else (
some ((2 : Int32), mq1))) else (
some ((0 : Int32), mq1))) else (
some ((1 : Int32), mq1)))
def F_Od_waysOtherwise (rc : Int32 → Int32 → Int32 → Int32 → Mem → Option (Int64 × Mem)) (a1 : Int32) (a2 : Int32) (a3 : Int32) (a4 : Int32) (m0 : Mem) : Option (Int64 × Mem) :=
bnd (F_Od_otherChoice a2 a3 a4 m0) fun xq3 mq1 =>
if xq3 = 1 then (
bnd (F_Od_waysOfNext rc a1 a2 a4 mq1) fun yq6 mq4 =>
some (yq6, mq4)) else (
if xq3 = 2 then (
bnd (F_Od_waysOfSession rc a1 (a2 + (2 : Int32)) (0 : Int32) a4 false mq1) fun yq9 mq7 =>
some (yq9, mq7)) else (
lt (fun (xq11 : Int32) (mq10 : Mem) => ((bnd (F_Od_waysOfSession rc a1 a2 xq11 a4 true mq10) fun yq14 mq12 =>
some (yq14, mq12)) : Option (Int64 × Mem))) fun k72_11 =>
if a3 = (10 : Int32) then (
k72_11 (0 : Int32) mq1) else (
k72_11 a3 mq1)))
def F_Od_waysOf (a0 : Int64) (a1 : Bool) (m0 : Mem) : Option (Int64 × Mem) :=
if a1 = true then (
some (a0 &&& (1048575 : Int64), m0)) else (
lt ((a0.toUInt64 >>> ((20 : Int32).toInt64.toUInt64 &&& Int64.toUInt64 63)).toInt64 : Int64) fun yq1 =>
some (yq1 &&& (1048575 : Int64), m0))
def F_Od_draws (a1 : Int64) (a2 : Int32) (m0 : Mem) : Option (Int64 × Mem) :=
bnd (F_Od_all a2 m0) fun yq3 mq1 =>
bnd (F_Od_waysOf a1 true mq1) fun yq6 mq4 =>
bnd (F_Od_waysOf a1 false mq4) fun yq9 mq7 =>
some ((yq3 - yq6) - yq9, mq7)
def F_Od_valueOf (a1 : Int64) (a2 : Int32) (a3 : Bool) (a4 : Int32) (m0 : Mem) : Option (Int64 × Mem) :=
bnd (F_Od_waysOf a1 a3 m0) fun yq3 mq1 =>
bnd (F_Od_draws a1 a2 mq1) fun yq6 mq4 =>
some (((100 : Int64) * yq3) + (a4.toInt64 * yq6), mq4)
def F_Od_waysChosen (rc : Int32 → Int32 → Int32 → Int32 → Mem → Option (Int64 × Mem)) (a1 : Int32) (a2 : Int32) (a3 : Int32) (a4 : Int32) (m0 : Mem) : Option (Int64 × Mem) :=
bnd (F_Od_waysGoingOn rc a1 a2 a3 a4 m0) fun yq3 mq1 =>
if (gZ mq1 2 6) = true then (
some (yq3, mq1)) else (
bnd (F_Od_otherChoice a2 a3 a4 mq1) fun xq6 mq4 =>
if xq6 = 0 then (
some (yq3, mq4)) else (
bnd (F_Od_waysOtherwise rc a1 a2 a3 a4 mq4) fun yq9 mq7 =>
bnd (F_Od_firstBats a2 mq7) fun zq12 mq10 =>
bnd (F_Od_valueOf yq9 a1 zq12 (gI mq10 2 5) mq10) fun yq15 mq13 =>
bnd (F_Od_valueOf yq3 a1 zq12 (gI mq13 2 5) mq13) fun yq18 mq16 =>
lt (yq15 - yq18 : Int64) fun yq19 =>
if yq19 ≤ (0 : Int64) then (
some (yq3, mq16)) else (
some (yq9, mq16))))
def F_Od_waysAt_b (rc : Int32 → Int32 → Int32 → Int32 → Mem → Option (Int64 × Mem)) (a1 : Int32) (a2 : Int32) (a3 : Int32) (a4 : Int32) (m0 : Mem) : Option (Int64 × Mem) :=
if a1 < 0 then (
some ((0 : Int64), m0)) else (
if a1 < (gI m0 3 0) then (
bnd (F_Od_placeOf a1 a2 a3 a4 m0) fun xq3 mq1 =>
lt (fun (mq4 : Mem) => ((bnd (F_Od_waysChosen rc a1 a2 a3 a4 mq4) fun yq7 mq5 =>
if xq3 = (-1 : Int32) then (
some (yq7, mq5)) else (
lt (yq7 ||| ((gL mq5 2 2) <<< ((40 : Int32).toInt64 &&& 63)) : Int64) fun yq8 =>
ckB (inb xq3 193050) <|
lt (sL mq5 15 xq3.toNatClampNeg yq8) fun mq9 =>
some (yq7, mq9))) : Option (Int64 × Mem))) fun k64_4 =>
if xq3 = (-1 : Int32) then (
k64_4 mq1) else (
ckB (inb xq3 193050) <|
lt (gL mq1 15 xq3.toNatClampNeg) fun yq12 =>
lt ((yq12.toUInt64 >>> ((40 : Int32).toInt64.toUInt64 &&& Int64.toUInt64 63)).toInt64 : Int64) fun yq13 =>
if yq13 = (gL mq1 2 2) then (
ckB (inb xq3 193050) <|
lt (gL mq1 15 xq3.toNatClampNeg) fun yq15 =>
some (yq15 &&& (1099511627775 : Int64), mq1)) else (
k64_4 mq1))) else (
some ((0 : Int64), m0)))
def F_Od_waysAt : Nat → Int32 → Int32 → Int32 → Int32 → Mem → Option (Int64 × Mem)
  | 0, _, _, _, _, _ => none
  | k + 1, a1, a2, a3, a4, m0 => F_Od_waysAt_b (F_Od_waysAt k) a1 a2 a3 a4 m0
def F_Od_waysBySlot (a1 : Int32) (a2 : Int32) (a3 : Int32) (a4 : Int32) (a5 : Int32) (m0 : Mem) : Option (Int64 × Mem) :=
bnd (F_Od_waysOfSlot (F_Od_waysAt 40) a1 a2 a3 a4 a5 false m0) fun yq3 mq1 =>
some (yq3, mq1)
def F_T_waysAfter (a1 : Int32) (m0 : Mem) : Option (Int64 × Mem) :=
bnd (F_Od_ready (gI m0 16 0) (gI m0 3 5) false m0) fun _ mq1 =>
bnd (F_Ma_kind mq1) fun xq6 mq4 =>
bnd (F_Ma_leadOf (gI mq4 16 0) mq4) fun xq9 mq7 =>
bnd (F_Od_waysBySlot (gI mq1 16 3) xq6 (gI mq4 16 2) xq9 a1 mq7) fun yq12 mq10 =>
some (yq12, mq10)
def F_Od_part (a1 : Int64) (a2 : Int32) (a3 : Int32) (m0 : Mem) : Option (Int64 × Mem) :=
if a3 = (3 : Int32) then (
bnd (F_Od_all a2 m0) fun yq11 mq9 =>
some (yq11, mq9)) else (
if a3 = (2 : Int32) then (
bnd (F_Od_draws a1 a2 m0) fun yq8 mq6 =>
some (yq8, mq6)) else (
lt (fun (zq2 : Bool) (mq1 : Mem) => ((bnd (F_Od_waysOf a1 zq2 mq1) fun yq5 mq3 =>
some (yq5, mq3)) : Option (Int64 × Mem))) fun k42_2 =>
if a3 = (gI m0 2 4) then (
k42_2 true m0) else (
k42_2 false m0)))
def F_T_after (a1 : Int32) (a2 : Int32) (m0 : Mem) : Option ((Nat ⊕ Int64) × Mem) :=
bndX (F_T_mustBeBelow a1 (4 : Int32) m0) fun _ mq1 =>
bndX (F_T_mustBeOn mq1) fun _ mq4 =>
lt (fun (mq7 : Mem) => ((some (.inl 4, mq7)) : Option ((Nat ⊕ Int64) × Mem))) fun k19_7 =>
if a2 < 0 then (
k19_7 mq4) else (
if a2 ≤ (3 : Int32) then (
bnd (F_T_waysAfter a1 mq4) fun yq10 mq8 =>
bnd (F_Od_part yq10 ((gI mq8 16 3) + (1 : Int32)) a2 mq8) fun yq13 mq11 =>
some (.inr yq13, mq11)) else (
k19_7 mq4))
def F_Pa_roomAt (a1 : Int32) (m0 : Mem) : Option (Option Nat × Mem) :=
lt (fun (mq1 : Mem) => ((some (none, mq1)) : Option (Option Nat × Mem))) fun k10_1 =>
if a1 < 0 then (
k10_1 m0) else (
if a1 < (12 : Int32) then (
ckB (inb a1 12) <|
some (mr0 21 a1.toNatClampNeg, m0)) else (
k10_1 m0))
def F_Ma_copyFrom_L82 (o0 : Nat) : Nat → Int32 → Mem → Option (Unit × Mem)
  | 0, _, _ => none
  | nfq13 + 1, xq12, mq11 =>
    if (63 : Int32) ≤ xq12 then (
    some ((), mq11)) else (
    ckB (inb xq12 63) <|
    lt (gI mq11 17 xq12.toNatClampNeg) fun xq16 =>
    ckB (inb xq12 63) <|
    lt (sI mq11 (o0 + 1) xq12.toNatClampNeg xq16) fun mq17 =>
    lt (xq12 + (1 : Int32) : Int32) fun xq19 =>
    F_Ma_copyFrom_L82 o0 nfq13 xq19 mq17)
def F_Ma_copyFrom (o0 : Nat) (m0 : Mem) : Option (Unit × Mem) :=
lt (sI m0 o0 0 (gI m0 16 0)) fun mq1 =>
lt (sI mq1 o0 1 (gI mq1 16 1)) fun mq2 =>
lt (sI mq2 o0 2 (gI mq2 16 2)) fun mq3 =>
lt (sI mq3 o0 3 (gI mq3 16 3)) fun mq4 =>
lt (sI mq4 o0 4 (gI mq4 16 4)) fun mq5 =>
lt (sZ mq5 o0 5 (gZ mq5 16 5)) fun mq6 =>
lt (sZ mq6 o0 6 (gZ mq6 16 6)) fun mq7 =>
lt (sI mq7 o0 7 (gI mq7 16 7)) fun mq8 =>
lt (sI mq8 o0 8 (gI mq8 16 8)) fun mq9 =>
lt (sI mq9 o0 9 (gI mq9 16 9)) fun mq10 =>
F_Ma_copyFrom_L82 o0 1000000 (0 : Int32) mq10
def F_Pa_remember (m0 : Mem) : Option (Unit × Mem) :=
bnd (F_Pa_roomAt (gI m0 20 1) m0) fun qq3 mq1 =>
oMat qq3 (
some ((), mq1)) fun oq4 =>
bnd (F_Ma_copyFrom oq4 mq1) fun _ mq5 =>
lt (((gI mq5 20 1) + (1 : Int32)) - ((gI mq5 20 1) + (1 : Int32)) / (12 : Int32) * (12 : Int32) : Int32) fun xq8 =>
lt (sI mq5 20 1 xq8) fun mq9 =>
lt (sI mq9 20 0 (mnI (12 : Int32) ((gI mq9 20 0) + (1 : Int32)))) fun mq10 =>
some ((), mq10)
def F_Ma_clearMatch (m0 : Mem) : Option (Unit × Mem) :=
lt (sI m0 16 0 (-1 : Int32)) fun mq1 =>
lt (sI mq1 16 1 (0 : Int32)) fun mq2 =>
lt (sI mq2 16 2 (0 : Int32)) fun mq3 =>
lt (sI mq3 16 3 (0 : Int32)) fun mq4 =>
lt (sI mq4 16 4 (-1 : Int32)) fun mq5 =>
lt (sZ mq5 16 5 false) fun mq6 =>
lt (sZ mq6 16 6 false) fun mq7 =>
lt (sI mq7 16 8 (0 : Int32)) fun mq8 =>
lt (sI mq8 16 9 (0 : Int32)) fun mq9 =>
some ((), mq9)
def F_T_anew (m0 : Mem) : Option (Int32 × Mem) :=
bnd (F_Pa_remember m0) fun _ mq1 =>
lt (gI mq1 16 3 : Int32) fun xq4 =>
bnd (F_Ma_clearMatch mq1) fun _ mq5 =>
some (xq4, mq5)
def F_Lw_copyFrom_L18  : Nat → Int32 → Mem → Option (Unit × Mem)
  | 0, _, _ => none
  | nfq5 + 1, xq4, mq3 =>
    if (400 : Int32) ≤ xq4 then (
    some ((), mq3)) else (
    ckB (inb xq4 400) <|
    lt (gI mq3 70 xq4.toNatClampNeg) fun xq8 =>
    ckB (inb xq4 400) <|
    lt (sI mq3 9 xq4.toNatClampNeg xq8) fun mq9 =>
    lt (xq4 + (1 : Int32) : Int32) fun xq11 =>
    F_Lw_copyFrom_L18 nfq5 xq11 mq9)
def F_Lw_copyFrom (m0 : Mem) : Option (Unit × Mem) :=
lt (sI m0 8 0 (gI m0 69 0)) fun mq1 =>
lt (sI mq1 8 1 (gI mq1 69 1)) fun mq2 =>
F_Lw_copyFrom_L18 1000000 (0 : Int32) mq2
def F_Bk_copyFrom_L10  : Nat → Int32 → Mem → Option (Unit × Mem)
  | 0, _, _ => none
  | nfq4 + 1, xq3, mq2 =>
    if (180 : Int32) ≤ xq3 then (
    some ((), mq2)) else (
    ckB (inb xq3 180) <|
    lt (gI mq2 74 xq3.toNatClampNeg) fun xq7 =>
    ckB (inb xq3 180) <|
    lt (sI mq2 13 xq3.toNatClampNeg xq7) fun mq8 =>
    lt (xq3 + (1 : Int32) : Int32) fun xq10 =>
    F_Bk_copyFrom_L10 nfq4 xq10 mq8)
def F_Bk_copyFrom (m0 : Mem) : Option (Unit × Mem) :=
lt (sI m0 12 0 (gI m0 73 0)) fun mq1 =>
F_Bk_copyFrom_L10 1000000 (0 : Int32) mq1
def F_Gr_copyFrom_L95 (k131_9 : Mem → Option (Unit × Mem)) : Nat → Int32 → Mem → Option (Unit × Mem)
  | 0, _, _ => none
  | nfq18 + 1, xq17, mq16 =>
    if (16 : Int32) ≤ xq17 then (
    k131_9 mq16) else (
    ckB (inb xq17 16) <|
    lt (gI mq16 67 xq17.toNatClampNeg) fun xq21 =>
    ckB (inb xq17 16) <|
    lt (sI mq16 6 xq17.toNatClampNeg xq21) fun mq22 =>
    ckB (inb xq17 16) <|
    lt (gI mq22 68 xq17.toNatClampNeg) fun xq25 =>
    ckB (inb xq17 16) <|
    lt (sI mq22 7 xq17.toNatClampNeg xq25) fun mq26 =>
    lt (xq17 + (1 : Int32) : Int32) fun xq28 =>
    F_Gr_copyFrom_L95 k131_9 nfq18 xq28 mq26)
def F_Gr_copyFrom_L58 (k93_8 : Mem → Option (Unit × Mem)) : Nat → Int32 → Mem → Option (Unit × Mem)
  | 0, _, _ => none
  | nfq31 + 1, xq30, mq29 =>
    if (2 : Int32) ≤ xq30 then (
    k93_8 mq29) else (
    ckB (inb xq30 2) <|
    lt (gI mq29 65 xq30.toNatClampNeg) fun xq34 =>
    ckB (inb xq30 2) <|
    lt (sI mq29 4 xq30.toNatClampNeg xq34) fun mq35 =>
    ckB (inb xq30 2) <|
    lt (gI mq35 66 xq30.toNatClampNeg) fun xq38 =>
    ckB (inb xq30 2) <|
    lt (sI mq35 5 xq30.toNatClampNeg xq38) fun mq39 =>
    lt (xq30 + (1 : Int32) : Int32) fun xq41 =>
    F_Gr_copyFrom_L58 k93_8 nfq31 xq41 mq39)
def F_Gr_copyFrom (m0 : Mem) : Option (Unit × Mem) :=
lt (sI m0 3 0 (gI m0 64 0)) fun mq1 =>
lt (sI mq1 3 1 (gI mq1 64 1)) fun mq2 =>
lt (sI mq2 3 2 (gI mq2 64 2)) fun mq3 =>
lt (sI mq3 3 3 (gI mq3 64 3)) fun mq4 =>
lt (sI mq4 3 4 (gI mq4 64 4)) fun mq5 =>
lt (sI mq5 3 5 (gI mq5 64 5)) fun mq6 =>
lt (sI mq6 3 6 (gI mq6 64 6)) fun mq7 =>
lt (fun (mq8 : Mem) => ((lt (fun (mq9 : Mem) => ((bnd (F_Lw_copyFrom mq9) fun _ mq10 =>
bnd (F_Bk_copyFrom mq10) fun _ mq13 =>
some ((), mq13)) : Option (Unit × Mem))) fun k131_9 =>
F_Gr_copyFrom_L95 k131_9 1000000 (0 : Int32) mq8) : Option (Unit × Mem))) fun k93_8 =>
F_Gr_copyFrom_L58 k93_8 1000000 (0 : Int32) mq7
def F_Ma_copyFrom_2_L82  : Nat → Int32 → Mem → Option (Unit × Mem)
  | 0, _, _ => none
  | nfq13 + 1, xq12, mq11 =>
    if (63 : Int32) ≤ xq12 then (
    some ((), mq11)) else (
    ckB (inb xq12 63) <|
    lt (gI mq11 77 xq12.toNatClampNeg) fun xq16 =>
    ckB (inb xq12 63) <|
    lt (sI mq11 17 xq12.toNatClampNeg xq16) fun mq17 =>
    lt (xq12 + (1 : Int32) : Int32) fun xq19 =>
    F_Ma_copyFrom_2_L82 nfq13 xq19 mq17)
def F_Ma_copyFrom_2 (m0 : Mem) : Option (Unit × Mem) :=
lt (sI m0 16 0 (gI m0 76 0)) fun mq1 =>
lt (sI mq1 16 1 (gI mq1 76 1)) fun mq2 =>
lt (sI mq2 16 2 (gI mq2 76 2)) fun mq3 =>
lt (sI mq3 16 3 (gI mq3 76 3)) fun mq4 =>
lt (sI mq4 16 4 (gI mq4 76 4)) fun mq5 =>
lt (sZ mq5 16 5 (gZ mq5 76 5)) fun mq6 =>
lt (sZ mq6 16 6 (gZ mq6 76 6)) fun mq7 =>
lt (sI mq7 16 7 (gI mq7 76 7)) fun mq8 =>
lt (sI mq8 16 8 (gI mq8 76 8)) fun mq9 =>
lt (sI mq9 16 9 (gI mq9 76 9)) fun mq10 =>
F_Ma_copyFrom_2_L82 1000000 (0 : Int32) mq10
def F_Gr_forgetLevels_L2  : Nat → Int32 → Mem → Option (Unit × Mem)
  | 0, _, _ => none
  | nfq3 + 1, xq2, mq1 =>
    if (72 : Int32) ≤ xq2 then (
    some ((), mq1)) else (
    ckB (inb xq2 72) <|
    lt (sI mq1 14 xq2.toNatClampNeg (-1 : Int32)) fun mq5 =>
    lt (xq2 + (1 : Int32) : Int32) fun xq7 =>
    F_Gr_forgetLevels_L2 nfq3 xq7 mq5)
def F_Gr_forgetLevels (m0 : Mem) : Option (Unit × Mem) :=
F_Gr_forgetLevels_L2 1000000 (0 : Int32) m0
def F_Od_forget (m0 : Mem) : Option (Unit × Mem) :=
lt (sZ m0 2 3 true) fun mq1 =>
lt (sL mq1 2 7 (-1 : Int64)) fun mq2 =>
lt (sL mq2 2 8 (-1 : Int64)) fun mq3 =>
some ((), mq3)
def F_Pa_clearAll (m0 : Mem) : Option (Unit × Mem) :=
lt (sI m0 20 0 (0 : Int32)) fun mq1 =>
some ((), mq1)
def F_T_startAfresh (m0 : Mem) : Option (Unit × Mem) :=
bnd (F_Gr_forgetLevels m0) fun _ mq1 =>
bnd (F_Od_forget mq1) fun _ mq4 =>
bnd (F_Pa_clearAll mq4) fun _ mq7 =>
some ((), mq7)
def F_T_back (m0 : Mem) : Option (Bool × Mem) :=
if (gZ m0 0 13) = true then (
bnd (F_Gr_copyFrom m0) fun _ mq1 =>
bnd (F_Ma_copyFrom_2 mq1) fun _ mq4 =>
bnd (F_T_startAfresh mq4) fun _ mq7 =>
some (true, mq7)) else (
some (false, m0))
def F_T_useTape (m0 : Mem) : Option (Int32 × Mem) :=
lt (gI m0 0 1 : Int32) fun xq1 =>
lt (sI m0 0 1 (0 : Int32)) fun mq2 =>
some (xq1, mq2)
def F_T_tapeIsBelow_L2 (a1 : Int32) (a2 : Int32) : Nat → Int32 → Mem → Option (Bool × Mem)
  | 0, _, _ => none
  | nfq3 + 1, xq2, mq1 =>
    if a1 ≤ xq2 then (
    some (true, mq1)) else (
    if (400 : Int32) ≤ xq2 then (
    some (true, mq1)) else (
    ckB (inb xq2 400) <|
    lt (gI mq1 1 xq2.toNatClampNeg) fun xq6 =>
    if xq6 < a2 then (
    lt (xq2 + (1 : Int32) : Int32) fun xq7 =>
    F_T_tapeIsBelow_L2 a1 a2 nfq3 xq7 mq1) else (
    some (false, mq1))))
def F_T_tapeIsBelow (a1 : Int32) (a2 : Int32) (m0 : Mem) : Option (Bool × Mem) :=
F_T_tapeIsBelow_L2 a1 a2 1000000 (0 : Int32) m0
def F_T_tapeIsMornings_L19 (a1 : Int32) : Nat → Int32 → Mem → Option (Bool × Mem)
  | 0, _, _ => none
  | nfq6 + 1, xq5, mq4 =>
    if a1 ≤ xq5 then (
    some (true, mq4)) else (
    if (400 : Int32) ≤ xq5 then (
    some (true, mq4)) else (
    ckB (inb xq5 400) <|
    lt (gI mq4 1 xq5.toNatClampNeg) fun xq9 =>
    if xq9 ≤ (1 : Int32) then (
    lt (xq5 + (4 : Int32) : Int32) fun xq10 =>
    F_T_tapeIsMornings_L19 a1 nfq6 xq10 mq4) else (
    some (false, mq4))))
def F_T_tapeIsMornings (a1 : Int32) (m0 : Mem) : Option (Bool × Mem) :=
if (a1 - a1 / (4 : Int32) * (4 : Int32)) = 0 then (
bnd (F_T_tapeIsBelow a1 (4 : Int32) m0) fun zq3 mq1 =>
if zq3 = true then (
F_T_tapeIsMornings_L19 a1 1000000 (3 : Int32) mq1) else (
some (false, mq1))) else (
some (false, m0))
def F_Mo_signAt (a1 : Int32) (a2 : Int32) (m0 : Mem) : Option (Int32 × Mem) :=
lt (a1 + a2 : Int32) fun xq1 =>
if xq1 < 0 then (
some ((0 : Int32), m0)) else (
if xq1 < (400 : Int32) then (
ckB (inb xq1 400) <|
lt (gI m0 1 xq1.toNatClampNeg) fun xq3 =>
some (xq3, m0)) else (
some ((0 : Int32), m0)))
def F_Mo_sort_L35 (a2 : Int32) (a3 : Int32) (a4 : Int32) : Nat → Int32 → Mem → Option (Unit × Mem)
  | 0, _, _ => none
  | nfq4 + 1, xq3, mq2 =>
    if a2 ≤ (xq3 + (3 : Int32)) then (
    some ((), mq2)) else (
    if (400 : Int32) ≤ (xq3 + (3 : Int32)) then (
    some ((), mq2)) else (
    bnd (F_Mo_signAt xq3 a3 mq2) fun xq8 mq6 =>
    lt (fun (xq10 : Int32) (mq9 : Mem) => ((lt (xq8 + xq10 : Int32) fun xq11 =>
    lt (fun (mq12 : Mem) => ((lt (xq3 + (4 : Int32) : Int32) fun xq13 =>
    F_Mo_sort_L35 a2 a3 a4 nfq4 xq13 mq12) : Option (Unit × Mem))) fun k144_12 =>
    if xq11 < 0 then (
    k144_12 mq9) else (
    if (16 : Int32) ≤ xq11 then (
    k144_12 mq9) else (
    ckB (inb xq11 16) <|
    lt (gI mq9 62 xq11.toNatClampNeg) fun xq15 =>
    ckB (inb (xq3 + (3 : Int32)) 400) <|
    lt (gI mq9 1 (xq3 + (3 : Int32)).toNatClampNeg) fun xq17 =>
    lt (fun (zq19 : Bool) (mq18 : Mem) => ((ckB (inb xq11 16) <|
    lt (sI mq18 62 xq11.toNatClampNeg (xq15 + (b2i zq19))) fun mq20 =>
    ckB (inb xq11 16) <|
    lt (gI mq20 63 xq11.toNatClampNeg) fun xq23 =>
    ckB (inb (xq3 + (3 : Int32)) 400) <|
    lt (gI mq20 1 (xq3 + (3 : Int32)).toNatClampNeg) fun xq25 =>
    lt (fun (zq27 : Bool) (mq26 : Mem) => ((ckB (inb xq11 16) <|
    lt (sI mq26 63 xq11.toNatClampNeg (xq23 + (b2i zq27))) fun mq28 =>
    k144_12 mq28) : Option (Unit × Mem))) fun k142_27 =>
    if xq25 = (1 : Int32) then (
    k142_27 false mq20) else (
    k142_27 true mq20)) : Option (Unit × Mem))) fun k117_19 =>
    if xq17 = (1 : Int32) then (
    k117_19 true mq9) else (
    k117_19 false mq9)))) : Option (Unit × Mem))) fun k79_10 =>
    if a3 = a4 then (
    k79_10 (0 : Int32) mq6) else (
    bnd (F_Mo_signAt xq3 a4 mq6) fun xq32 mq30 =>
    k79_10 ((4 : Int32) * xq32) mq30)))
def F_Mo_sort_L3 (k32_1 : Mem → Option (Unit × Mem)) : Nat → Int32 → Mem → Option (Unit × Mem)
  | 0, _, _ => none
  | nfq35 + 1, xq34, mq33 =>
    if (16 : Int32) ≤ xq34 then (
    k32_1 mq33) else (
    ckB (inb xq34 16) <|
    lt (sI mq33 62 xq34.toNatClampNeg (0 : Int32)) fun mq37 =>
    ckB (inb xq34 16) <|
    lt (sI mq37 63 xq34.toNatClampNeg (0 : Int32)) fun mq39 =>
    lt (xq34 + (1 : Int32) : Int32) fun xq41 =>
    F_Mo_sort_L3 k32_1 nfq35 xq41 mq39)
def F_Mo_sort (a2 : Int32) (a3 : Int32) (a4 : Int32) (m0 : Mem) : Option (Unit × Mem) :=
lt (fun (mq1 : Mem) => ((F_Mo_sort_L35 a2 a3 a4 1000000 (0 : Int32) mq1) : Option (Unit × Mem))) fun k32_1 =>
F_Mo_sort_L3 k32_1 1000000 (0 : Int32) m0
def F_Mo_toldRight_L4  : Nat → Int32 → Int32 → Mem → Option (Int32 × Mem)
  | 0, _, _, _ => none
  | nfq4 + 1, xq2, xq3, mq1 =>
    if (16 : Int32) ≤ xq3 then (
    some (xq2, mq1)) else (
    ckB (inb xq3 16) <|
    lt (gI mq1 62 xq3.toNatClampNeg) fun xq7 =>
    ckB (inb xq3 16) <|
    lt (gI mq1 63 xq3.toNatClampNeg) fun xq9 =>
    lt (xq2 + (mxI xq7 xq9) : Int32) fun xq10 =>
    lt (xq3 + (1 : Int32) : Int32) fun xq11 =>
    F_Mo_toldRight_L4 nfq4 xq10 xq11 mq1)
def F_Mo_toldRight (m0 : Mem) : Option (Int32 × Mem) :=
F_Mo_toldRight_L4 1000000 (0 : Int32) (0 : Int32) m0
def F_T_best_L33 (a1 : Bool) (xq3 : Int32) (k128_9 : Int32 → Int32 → Mem → Option ((Nat ⊕ Int32) × Mem)) : Nat → Int32 → Int32 → Int32 → Mem → Option ((Nat ⊕ Int32) × Mem)
  | 0, _, _, _, _ => none
  | nfq14 + 1, xq11, xq12, xq13, mq10 =>
    if (3 : Int32) ≤ xq13 then (
    k128_9 xq11 xq12 mq10) else (
    lt (fun (xq17 : Int32) (mq16 : Mem) => ((lt (fun (xq19 : Int32) (mq18 : Mem) => ((bnd (F_Mo_sort xq3 xq17 xq19 mq18) fun _ mq20 =>
    bnd (F_Mo_toldRight mq20) fun xq25 mq23 =>
    lt (fun (xq27 : Int32) (xq28 : Int32) (mq26 : Mem) => ((lt (xq13 + (1 : Int32) : Int32) fun xq29 =>
    F_T_best_L33 a1 xq3 k128_9 nfq14 xq27 xq28 xq29 mq26) : Option ((Nat ⊕ Int32) × Mem))) fun k122_28 =>
    if xq25 ≤ xq12 then (
    k122_28 xq11 xq12 mq23) else (
    k122_28 xq13 xq25 mq23)) : Option ((Nat ⊕ Int32) × Mem))) fun k80_19 =>
    if a1 = true then (
    if xq13 = 0 then (
    k80_19 (1 : Int32) mq16) else (
    k80_19 (2 : Int32) mq16)) else (
    k80_19 xq13 mq16)) : Option ((Nat ⊕ Int32) × Mem))) fun k59_17 =>
    if a1 = true then (
    if xq13 = (2 : Int32) then (
    k59_17 (1 : Int32) mq10) else (
    k59_17 (0 : Int32) mq10)) else (
    k59_17 xq13 mq10))
def F_T_best (a1 : Bool) (a2 : Bool) (m0 : Mem) : Option ((Nat ⊕ Int32) × Mem) :=
bnd (F_T_useTape m0) fun xq3 mq1 =>
bnd (F_T_tapeIsMornings xq3 mq1) fun zq6 mq4 =>
if zq6 = true then (
lt (fun (xq8 : Int32) (xq9 : Int32) (mq7 : Mem) => ((if a2 = true then (
some (.inr xq9, mq7)) else (
some (.inr xq8, mq7))) : Option ((Nat ⊕ Int32) × Mem))) fun k128_9 =>
F_T_best_L33 a1 xq3 k128_9 1000000 (0 : Int32) (-1 : Int32) (0 : Int32) mq4) else (
some (.inl 1, mq4))
def F_Ma_spot (m0 : Mem) : Option (Int32 × Mem) :=
if (gZ m0 16 6) = true then (
some ((10 : Int32), m0)) else (
some (gI m0 16 2, m0))
def F_Od_waysFrom (a1 : Int32) (a2 : Int32) (a3 : Int32) (a4 : Int32) (m0 : Mem) : Option (Int64 × Mem) :=
bnd (F_Od_waysAt 40 a1 a2 a3 a4 m0) fun yq3 mq1 =>
some (yq3, mq1)
def F_T_oddsFromHere (a1 : Int32) (a2 : Bool) (m0 : Mem) : Option ((Nat ⊕ Int64) × Mem) :=
if (gI m0 16 0) = (-1 : Int32) then (
some (.inl 0, m0)) else (
lt (fun (mq1 : Mem) => ((some (.inl 4, mq1)) : Option ((Nat ⊕ Int64) × Mem))) fun k31_1 =>
if a1 < 0 then (
k31_1 m0) else (
if a1 ≤ (3 : Int32) then (
bnd (F_Od_ready (gI m0 16 0) (gI m0 3 5) a2 m0) fun _ mq2 =>
lt (fun (yq6 : Int64) (mq5 : Mem) => ((bnd (F_Od_part yq6 (gI mq5 16 3) a1 mq5) fun yq9 mq7 =>
some (.inr yq9, mq7)) : Option ((Nat ⊕ Int64) × Mem))) fun k172_6 =>
if (gI mq2 16 4) = (-1 : Int32) then (
bnd (F_Ma_kind mq2) fun xq12 mq10 =>
bnd (F_Ma_spot mq10) fun xq15 mq13 =>
bnd (F_Ma_leadOf (gI mq13 16 0) mq13) fun xq18 mq16 =>
bnd (F_Od_waysFrom (gI mq2 16 3) xq12 xq15 xq18 mq16) fun yq21 mq19 =>
k172_6 yq21 mq19) else (
lt (fun (yq23 : Int64) (mq22 : Mem) => ((k172_6 yq23 mq22) : Option ((Nat ⊕ Int64) × Mem))) fun k125_23 =>
if (gI mq2 16 4) = (2 : Int32) then (
k125_23 (0 : Int64) mq2) else (
lt (fun (zq25 : Bool) (mq24 : Mem) => ((bnd (F_Od_allTo zq25 (gI mq24 16 3) mq24) fun yq28 mq26 =>
k125_23 yq28 mq26) : Option ((Nat ⊕ Int64) × Mem))) fun k115_25 =>
if (gI mq2 16 4) = (gI mq2 16 0) then (
k115_25 true mq2) else (
k115_25 false mq2)))) else (
k31_1 m0)))
def F_T_blind (a1 : Int32) (m0 : Mem) : Option ((Nat ⊕ Int64) × Mem) :=
bndX (F_T_oddsFromHere a1 true m0) fun yq3 mq1 =>
some (.inr yq3, mq1)
def F_Bk_cell (a1 : Int32) (a2 : Int32) (m0 : Mem) : Option (Int32 × Mem) :=
lt ((a1 * (3 : Int32)) + a2 : Int32) fun xq1 =>
if xq1 < 0 then (
some ((0 : Int32), m0)) else (
if xq1 < (180 : Int32) then (
ckB (inb xq1 180) <|
lt (gI m0 13 xq1.toNatClampNeg) fun xq3 =>
some (xq3, m0)) else (
some ((0 : Int32), m0)))
def F_Bk_isSo (a1 : Int32) (a2 : Int32) (m0 : Mem) : Option (Bool × Mem) :=
bnd (F_Bk_cell a1 (0 : Int32) m0) fun xq3 mq1 =>
bnd (F_Bk_cell a1 (1 : Int32) mq1) fun xq6 mq4 =>
bnd (F_Bk_cell a1 (2 : Int32) mq4) fun xq9 mq7 =>
if a2 = 1 then (
if xq6 = xq3 then (
some (true, mq7)) else (
some (false, mq7))) else (
if a2 = 2 then (
if xq6 = xq3 then (
if xq9 = xq3 then (
some (true, mq7)) else (
some (false, mq7))) else (
some (false, mq7))) else (
if a2 = 3 then (
if xq9 = xq6 then (
some (true, mq7)) else (
some (false, mq7))) else (
if a2 = 4 then (
if xq9 = xq3 then (
some (true, mq7)) else (
some (false, mq7))) else (
if a2 = 5 then (
if xq9 = (2 : Int32) then (
some (true, mq7)) else (
some (false, mq7))) else (
some (true, mq7))))))
def F_Bk_tally_L4 (a1 : Int32) : Nat → Int32 → Int32 → Mem → Option (Int32 × Mem)
  | 0, _, _, _ => none
  | nfq4 + 1, xq2, xq3, mq1 =>
    if (gI mq1 12 0) ≤ xq3 then (
    some (xq2, mq1)) else (
    bnd (F_Bk_isSo xq3 a1 mq1) fun zq8 mq6 =>
    lt (fun (zq10 : Bool) (mq9 : Mem) => ((lt (xq2 + (b2i zq10) : Int32) fun xq11 =>
    lt (xq3 + (1 : Int32) : Int32) fun xq12 =>
    F_Bk_tally_L4 a1 nfq4 xq11 xq12 mq9) : Option (Int32 × Mem))) fun k27_10 =>
    if zq8 = true then (
    k27_10 true mq6) else (
    k27_10 false mq6))
def F_Bk_tally (a1 : Int32) (m0 : Mem) : Option (Int32 × Mem) :=
F_Bk_tally_L4 a1 1000000 (0 : Int32) (0 : Int32) m0
def F_T_book (a1 : Int32) (m0 : Mem) : Option ((Nat ⊕ Int32) × Mem) :=
lt (fun (mq1 : Mem) => ((some (.inl 4, mq1)) : Option ((Nat ⊕ Int32) × Mem))) fun k9_1 =>
if a1 < 0 then (
k9_1 m0) else (
if a1 ≤ (5 : Int32) then (
bnd (F_Bk_tally a1 m0) fun xq4 mq2 =>
some (.inr xq4, mq2)) else (
k9_1 m0))
def F_Ma_batting (m0 : Mem) : Option (Int32 × Mem) :=
bnd (F_Ma_kind m0) fun xq3 mq1 =>
bnd (F_Od_firstBats xq3 mq1) fun zq6 mq4 =>
if zq6 = true then (
some (gI mq4 16 0, mq4)) else (
some ((1 : Int32) - (gI mq4 16 0), mq4))
def F_Ma_setLog (a1 : Int32) (a2 : Int32) (m0 : Mem) : Option (Unit × Mem) :=
lt (((gI m0 16 3) * (7 : Int32)) + a1 : Int32) fun xq1 =>
if xq1 < 0 then (
some ((), m0)) else (
if (63 : Int32) ≤ xq1 then (
some ((), m0)) else (
ckB (inb xq1 63) <|
lt (sI m0 17 xq1.toNatClampNeg a2) fun mq2 =>
some ((), mq2)))
def F_Ma_judge (a1 : Int32) (m0 : Mem) : Option (Unit × Mem) :=
bnd (F_Ma_batting m0) fun xq3 mq1 =>
lt (fun (mq4 : Mem) => ((lt (fun (mq5 : Mem) => ((if (gI mq5 16 3) < a1 then (
some ((), mq5)) else (
lt (sI mq5 16 4 (2 : Int32)) fun mq6 =>
some ((), mq6))) : Option (Unit × Mem))) fun k68_5 =>
if (gI mq4 16 1) = (3 : Int32) then (
if (gI mq4 16 2) = (10 : Int32) then (
bnd (F_Ma_leadOf xq3 mq4) fun xq9 mq7 =>
lt (fun (xq11 : Int32) (mq10 : Mem) => ((lt (sI mq10 16 4 xq11) fun mq12 =>
some ((), mq12)) : Option (Unit × Mem))) fun k62_11 =>
if xq9 = 0 then (
k62_11 (2 : Int32) mq7) else (
k62_11 ((1 : Int32) - xq3) mq7)) else (
k68_5 mq4)) else (
k68_5 mq4)) : Option (Unit × Mem))) fun k29_4 =>
if (gI mq1 16 1) = (3 : Int32) then (
bnd (F_Ma_leadOf xq3 mq1) fun xq15 mq13 =>
if xq15 ≤ 0 then (
k29_4 mq13) else (
lt (sI mq13 16 4 xq3) fun mq16 =>
some ((), mq16))) else (
k29_4 mq1)
def F_Ma_beginNext (m0 : Mem) : Option (Unit × Mem) :=
lt (sI m0 16 1 ((gI m0 16 1) + (1 : Int32))) fun mq1 =>
lt (sI mq1 16 2 (0 : Int32)) fun mq2 =>
lt (sZ mq2 16 6 true) fun mq3 =>
some ((), mq3)
def F_Ma_playSession (a2 : Int32) (a3 : Bool) (m0 : Mem) : Option (Unit × Mem) :=
bnd (F_Ma_batting m0) fun xq3 mq1 =>
bnd (F_Gr_levelOf (gI mq1 16 3) (gI mq1 16 1) xq3 mq1) fun xq6 mq4 =>
lt (fun (xq8 : Int32) (mq7 : Mem) => ((bnd (F_Gr_outsIn (gI mq7 16 3) xq6 a2 mq7) fun xq11 mq9 =>
lt (fun (xq13 : Int32) (mq12 : Mem) => ((lt (fun (mq14 : Mem) => ((lt (sI mq14 16 2 (mnI (10 : Int32) ((gI mq14 16 2) + xq13))) fun mq15 =>
lt (sZ mq15 16 6 false) fun mq16 =>
bnd (F_Ma_setLog (0 : Int32) (gI mq16 16 1) mq16) fun _ mq17 =>
bnd (F_Ma_setLog (1 : Int32) xq3 mq17) fun _ mq20 =>
bnd (F_Ma_setLog (2 : Int32) xq6 mq20) fun _ mq23 =>
bnd (F_Ma_setLog (3 : Int32) a2 mq23) fun _ mq26 =>
bnd (F_Ma_leadOf xq3 mq26) fun xq31 mq29 =>
bnd (F_Ma_setLog (4 : Int32) xq31 mq29) fun _ mq32 =>
bnd (F_Ma_setLog (5 : Int32) (gI mq32 16 2) mq32) fun _ mq35 =>
bnd (F_Ma_setLog (6 : Int32) xq8 mq35) fun _ mq38 =>
lt (sI mq38 16 3 ((gI mq38 16 3) + (1 : Int32))) fun mq41 =>
lt (fun (mq42 : Mem) => ((bnd (F_Ma_judge (gI mq42 3 0) mq42) fun _ mq43 =>
some ((), mq43)) : Option (Unit × Mem))) fun k209_42 =>
if (gI mq41 16 2) = (10 : Int32) then (
if (gI mq41 16 1) = (3 : Int32) then (
k209_42 mq41) else (
bnd (F_Ma_beginNext mq41) fun _ mq46 =>
k209_42 mq46)) else (
k209_42 mq41)) : Option (Unit × Mem))) fun k100_14 =>
if xq3 = 0 then (
lt (sI mq12 16 8 ((gI mq12 16 8) + xq8)) fun mq50 =>
k100_14 mq50) else (
lt (sI mq12 16 9 ((gI mq12 16 9) + xq8)) fun mq49 =>
k100_14 mq49)) : Option (Unit × Mem))) fun k70_13 =>
if a3 = true then (
lt (mxI (0 : Int32) (xq11 - (1 : Int32)) : Int32) fun xq51 =>
k70_13 xq51 mq9) else (
k70_13 xq11 mq9)) : Option (Unit × Mem))) fun k41_8 =>
if a3 = true then (
k41_8 (0 : Int32) mq4) else (
bnd (F_Gr_runsIn (gI mq4 16 3) xq6 a2 mq4) fun xq54 mq52 =>
k41_8 xq54 mq52)
def F_T_bring (a1 : Int32) (m0 : Mem) : Option ((Nat ⊕ Int32) × Mem) :=
bndX (F_T_mustBeBelow a1 (4 : Int32) m0) fun _ mq1 =>
bndX (F_T_mustBeOn mq1) fun _ mq4 =>
bnd (F_Pa_remember mq4) fun _ mq7 =>
bnd (F_Ma_batting mq7) fun xq12 mq10 =>
bnd (F_Ma_playSession a1 false mq10) fun _ mq13 =>
bnd (F_Ma_leadOf xq12 mq13) fun xq18 mq16 =>
some (.inr xq18, mq16)
def F_T_mustBeState (a1 : Int32) (a2 : Int32) (a3 : Int32) (a4 : Int32) (m0 : Mem) : Option ((Nat ⊕ Unit) × Mem) :=
bndX (F_T_mustBeBelow a1 ((gI m0 3 0) + (1 : Int32)) m0) fun _ mq1 =>
bndX (F_T_mustBeBelow a2 (4 : Int32) mq1) fun _ mq4 =>
lt (fun (mq7 : Mem) => ((some (.inl 1, mq7)) : Option ((Nat ⊕ Unit) × Mem))) fun k44_7 =>
if a3 < (-81 : Int32) then (
k44_7 mq4) else (
if (81 : Int32) < a3 then (
k44_7 mq4) else (
if a4 < 0 then (
k44_7 mq4) else (
if a4 < (10 : Int32) then (
some (.inr (), mq4)) else (
k44_7 mq4))))
def F_T_winsOf (a1 : Int32) (a2 : Int32) (a3 : Int32) (a4 : Int32) (a5 : Int32) (m0 : Mem) : Option (Int64 × Mem) :=
bnd (F_Od_firstBats a2 m0) fun zq3 mq1 =>
lt (fun (xq5 : Int32) (mq4 : Mem) => ((bnd (F_Od_waysFrom a1 a2 a4 xq5 mq4) fun yq8 mq6 =>
if a5 = (2 : Int32) then (
bnd (F_Od_part yq8 a1 (2 : Int32) mq6) fun yq18 mq16 =>
some (yq18, mq16)) else (
lt (fun (zq10 : Bool) (mq9 : Mem) => ((lt (fun (zq12 : Bool) (mq11 : Mem) => ((bnd (F_Od_waysOf yq8 zq12 mq11) fun yq15 mq13 =>
some (yq15, mq13)) : Option (Int64 × Mem))) fun k70_12 =>
if (b2i zq3) = (b2i zq10) then (
k70_12 true mq9) else (
k70_12 false mq9)) : Option (Int64 × Mem))) fun k62_10 =>
if a5 = 0 then (
k62_10 true mq6) else (
k62_10 false mq6))) : Option (Int64 × Mem))) fun k25_5 =>
if zq3 = true then (
k25_5 a3 mq1) else (
k25_5 (-a3) mq1)
def F_T_chased_L33 (a1 : Int32) (xq9 : Int32) : Nat → Int32 → Mem → Option ((Nat ⊕ Int32) × Mem)
  | 0, _, _ => none
  | nfq12 + 1, xq11, mq10 =>
    if xq11 < 0 then (
    some (.inr (-1 : Int32), mq10)) else (
    bnd (F_T_winsOf a1 xq9 (-xq11) (0 : Int32) (0 : Int32) mq10) fun yq16 mq14 =>
    bnd (F_T_winsOf a1 xq9 (-xq11) (0 : Int32) (1 : Int32) mq14) fun yq19 mq17 =>
    if yq16 < yq19 then (
    lt (xq11 + (-1 : Int32) : Int32) fun xq20 =>
    F_T_chased_L33 a1 xq9 nfq12 xq20 mq17) else (
    some (.inr xq11, mq17)))
def F_T_chased (a1 : Int32) (m0 : Mem) : Option ((Nat ⊕ Int32) × Mem) :=
bndX (F_T_mustBeState a1 (3 : Int32) (0 : Int32) (0 : Int32) m0) fun _ mq1 =>
bnd (F_Od_ready (0 : Int32) (gI mq1 3 5) false mq1) fun _ mq4 =>
bnd (F_Od_kindOf (3 : Int32) false mq4) fun xq9 mq7 =>
F_T_chased_L33 a1 xq9 1000000 (81 : Int32) mq7
def F_Od_waysByChoice (a1 : Bool) (a2 : Int32) (a3 : Int32) (a4 : Int32) (a5 : Int32) (m0 : Mem) : Option (Int64 × Mem) :=
if a1 = true then (
bnd (F_Od_waysOtherwise (F_Od_waysAt 40) a2 a3 a4 a5 m0) fun yq6 mq4 =>
some (yq6, mq4)) else (
bnd (F_Od_waysGoingOn (F_Od_waysAt 40) a2 a3 a4 a5 m0) fun yq3 mq1 =>
some (yq3, mq1))
def F_T_cost (a1 : Int32) (m0 : Mem) : Option ((Nat ⊕ Int64) × Mem) :=
lt (fun (mq1 : Mem) => ((some (.inl 1, mq1)) : Option ((Nat ⊕ Int64) × Mem))) fun k9_1 =>
if a1 < 0 then (
k9_1 m0) else (
if a1 ≤ (3 : Int32) then (
bndX (F_T_mustBeOn m0) fun _ mq2 =>
bnd (F_Ma_kind mq2) fun xq7 mq5 =>
bnd (F_Ma_spot mq5) fun xq10 mq8 =>
bnd (F_Ma_leadOf (gI mq8 16 0) mq8) fun xq13 mq11 =>
bnd (F_Od_otherChoice xq7 xq10 xq13 mq11) fun xq16 mq14 =>
lt (fun (mq17 : Mem) => ((if xq16 = 0 then (
some (.inr (0 : Int64), mq17)) else (
bnd (F_Od_ready (gI mq17 16 0) (gI mq17 3 5) false mq17) fun _ mq18 =>
bnd (F_Od_firstBats xq7 mq18) fun zq23 mq21 =>
bnd (F_Od_waysByChoice false (gI mq21 16 3) xq7 xq10 xq13 mq21) fun yq26 mq24 =>
bnd (F_Od_waysByChoice true (gI mq24 16 3) xq7 xq10 xq13 mq24) fun yq29 mq27 =>
bnd (F_Od_valueOf yq26 (gI mq27 16 3) zq23 (gI mq27 3 5) mq27) fun yq32 mq30 =>
bnd (F_Od_valueOf yq29 (gI mq30 16 3) zq23 (gI mq30 3 5) mq30) fun yq35 mq33 =>
lt (fun (yq37 : Int64) (mq36 : Mem) => ((some (.inr ((mxL yq32 yq35) - yq37), mq36)) : Option ((Nat ⊕ Int64) × Mem))) fun k239_37 =>
if a1 = 0 then (
k239_37 yq32 mq33) else (
k239_37 yq35 mq33))) : Option ((Nat ⊕ Int64) × Mem))) fun k90_17 =>
if a1 = 0 then (
k90_17 mq14) else (
if a1 = xq16 then (
k90_17 mq14) else (
some (.inl 0, mq14)))) else (
k9_1 m0))
def F_T_count (a1 : Int32) (m0 : Mem) : Option (Int32 × Mem) :=
if a1 = 0 then (
some (gI m0 3 0, m0)) else (
if a1 = 1 then (
some (gI m0 3 4, m0)) else (
if a1 = 2 then (
some (gI m0 3 5, m0)) else (
if a1 = 3 then (
some (gI m0 3 6, m0)) else (
if a1 = 4 then (
some (gI m0 8 0, m0)) else (
if a1 = 5 then (
some (gI m0 12 0, m0)) else (
if a1 = 6 then (
some (gI m0 3 1, m0)) else (
if a1 = 7 then (
some (gI m0 3 2, m0)) else (
if a1 = 8 then (
some (gI m0 3 3, m0)) else (
if a1 = 9 then (
some ((gI m0 3 0) - (gI m0 16 3), m0)) else (
if a1 = 10 then (
some (gI m0 20 0, m0)) else (
some ((-1 : Int32), m0))))))))))))
def F_Ma_mayDeclare (m0 : Mem) : Option (Bool × Mem) :=
bnd (F_Ma_isOn m0) fun zq3 mq1 =>
if zq3 = true then (
if (gZ mq1 16 6) = true then (
some (false, mq1)) else (
if (gI mq1 16 1) = (3 : Int32) then (
some (false, mq1)) else (
some (true, mq1)))) else (
some (false, mq1))
def F_Ma_endByDeclaring (a1 : Int32) (m0 : Mem) : Option (Unit × Mem) :=
bnd (F_Ma_beginNext m0) fun _ mq1 =>
bnd (F_Ma_judge a1 mq1) fun _ mq4 =>
some ((), mq4)
def F_T_declare (m0 : Mem) : Option ((Nat ⊕ Int32) × Mem) :=
bnd (F_Ma_mayDeclare m0) fun zq3 mq1 =>
if zq3 = true then (
bnd (F_Pa_remember mq1) fun _ mq4 =>
bnd (F_Ma_batting mq4) fun xq9 mq7 =>
bnd (F_Ma_endByDeclaring (gI mq7 3 0) mq7) fun _ mq10 =>
bnd (F_Ma_leadOf xq9 mq10) fun xq15 mq13 =>
some (.inr xq15, mq13)) else (
some (.inl 0, mq1))
def F_Od_chooses (a1 : Int32) (a2 : Int32) (a3 : Int32) (a4 : Int32) (m0 : Mem) : Option (Bool × Mem) :=
if (gI m0 3 0) ≤ a1 then (
some (false, m0)) else (
bnd (F_Od_otherChoice a2 a3 a4 m0) fun xq3 mq1 =>
if xq3 = 0 then (
some (false, mq1)) else (
bnd (F_Od_firstBats a2 mq1) fun zq6 mq4 =>
bnd (F_Od_waysGoingOn (F_Od_waysAt 40) a1 a2 a3 a4 mq4) fun yq9 mq7 =>
bnd (F_Od_valueOf yq9 a1 zq6 (gI mq7 2 5) mq7) fun yq12 mq10 =>
bnd (F_Od_waysOtherwise (F_Od_waysAt 40) a1 a2 a3 a4 mq10) fun yq15 mq13 =>
bnd (F_Od_valueOf yq15 a1 zq6 (gI mq13 2 5) mq13) fun yq18 mq16 =>
if yq18 ≤ yq12 then (
some (false, mq16)) else (
some (true, mq16))))
def F_Od_choosesTold (a1 : Int32) (a2 : Int32) (a3 : Int32) (a4 : Int32) (m0 : Mem) : Option (Bool × Mem) :=
bnd (F_Od_firstBats a2 m0) fun zq3 mq1 =>
lt (fun (xq5 : Int32) (mq4 : Mem) => ((bnd (F_Od_chooses a1 a2 a4 xq5 mq4) fun zq8 mq6 =>
some (zq8, mq6)) : Option (Bool × Mem))) fun k18_5 =>
if zq3 = true then (
k18_5 a3 mq1) else (
k18_5 (-a3) mq1)
def F_T_declares (a1 : Int32) (a2 : Int32) (a3 : Bool) (a4 : Int32) (a5 : Int32) (m0 : Mem) : Option ((Nat ⊕ Bool) × Mem) :=
bndX (F_T_mustBeState a1 a2 a4 a5 m0) fun _ mq1 =>
bnd (F_Od_ready (0 : Int32) (gI mq1 3 5) false mq1) fun _ mq4 =>
if a2 = (3 : Int32) then (
some (.inr false, mq4)) else (
bnd (F_Od_kindOf a2 a3 mq4) fun xq9 mq7 =>
bnd (F_Od_choosesTold a1 xq9 a4 a5 mq7) fun zq12 mq10 =>
if zq12 = true then (
some (.inr true, mq10)) else (
some (.inr false, mq10)))
def F_T_end (a1 : Int32) (m0 : Mem) : Option (Bool × Mem) :=
if a1 < 0 then (
some (false, m0)) else (
if a1 ≤ (gI m0 0 1) then (
lt (sI m0 0 1 a1) fun mq1 =>
some (true, mq1)) else (
some (false, m0)))
def F_T_enforces (a1 : Int32) (a2 : Int32) (m0 : Mem) : Option ((Nat ⊕ Bool) × Mem) :=
bndX (F_T_mustBeState a1 (2 : Int32) a2 (0 : Int32) m0) fun _ mq1 =>
bnd (F_Od_ready (0 : Int32) (gI mq1 3 5) false mq1) fun _ mq4 =>
bnd (F_Od_kindOf (2 : Int32) false mq4) fun xq9 mq7 =>
bnd (F_Od_chooses a1 xq9 (10 : Int32) a2 mq7) fun zq12 mq10 =>
some (.inr zq12, mq10)
def F_Od_waysOfNew (a1 : Int32) (m0 : Mem) : Option (Int64 × Mem) :=
lt (fun (yq2 : Int64) (mq1 : Mem) => ((if yq2 = (-1 : Int64) then (
bnd (F_Od_ready a1 (gI mq1 3 5) false mq1) fun _ mq3 =>
bnd (F_Od_waysAt 40 (0 : Int32) (0 : Int32) (10 : Int32) (0 : Int32) mq3) fun yq8 mq6 =>
if a1 = 0 then (
lt (sL mq6 2 7 yq8) fun mq10 =>
some (yq8, mq10)) else (
lt (sL mq6 2 8 yq8) fun mq9 =>
some (yq8, mq9))) else (
some (yq2, mq1))) : Option (Int64 × Mem))) fun k15_2 =>
if a1 = 0 then (
k15_2 (gL m0 2 7) m0) else (
k15_2 (gL m0 2 8) m0)
def F_T_tossValue (a1 : Int32) (a2 : Int32) (m0 : Mem) : Option (Int64 × Mem) :=
bnd (F_Od_waysOfNew a2 m0) fun yq3 mq1 =>
lt (fun (zq5 : Bool) (mq4 : Mem) => ((bnd (F_Od_valueOf yq3 (0 : Int32) zq5 (gI mq4 3 5) mq4) fun yq8 mq6 =>
some (yq8, mq6)) : Option (Int64 × Mem))) fun k23_5 =>
if a1 = a2 then (
k23_5 true mq1) else (
k23_5 false mq1)
def F_T_leftValue (a1 : Int32) (m0 : Mem) : Option (Int64 × Mem) :=
lt ((1 : Int32) - a1 : Int32) fun xq1 =>
bnd (F_T_tossValue xq1 xq1 m0) fun yq4 mq2 =>
bnd (F_T_tossValue xq1 a1 mq2) fun yq7 mq5 =>
lt (fun (zq9 : Bool) (mq8 : Mem) => ((lt (fun (xq11 : Int32) (mq10 : Mem) => ((bnd (F_T_tossValue a1 xq11 mq10) fun yq14 mq12 =>
some (yq14, mq12)) : Option (Int64 × Mem))) fun k37_11 =>
if zq9 = true then (
k37_11 xq1 mq8) else (
k37_11 a1 mq8)) : Option (Int64 × Mem))) fun k25_9 =>
if yq4 < yq7 then (
k25_9 false mq5) else (
k25_9 true mq5)
def F_T_evens (a1 : Int32) (m0 : Mem) : Option ((Nat ⊕ Int64) × Mem) :=
bndX (F_T_mustBeBelow a1 (2 : Int32) m0) fun _ mq1 =>
bnd (F_T_tossValue a1 (0 : Int32) mq1) fun yq6 mq4 =>
bnd (F_T_tossValue a1 (1 : Int32) mq4) fun yq9 mq7 =>
bnd (F_T_leftValue a1 mq7) fun yq12 mq10 =>
some (.inr ((mxL yq6 yq9) + yq12), mq10)
def F_T_fault (m0 : Mem) : Option (Int32 × Mem) :=
some (gI m0 0 2, m0)
def F_T_putBytes_L3 (a1 : Int32) : Nat → Int32 → Mem → Option (Unit × Mem)
  | 0, _, _ => none
  | nfq3 + 1, xq2, mq1 =>
    if xq2 < 0 then (
    some ((), mq1)) else (
    lt (fun (mq5 : Mem) => ((lt (xq2 + (-8 : Int32) : Int32) fun xq6 =>
    F_T_putBytes_L3 a1 nfq3 xq6 mq5) : Option (Unit × Mem))) fun k50_5 =>
    if (gI mq1 0 1) < 0 then (
    k50_5 mq1) else (
    if (400 : Int32) ≤ (gI mq1 0 1) then (
    k50_5 mq1) else (
    lt ((a1.toUInt32 >>> (xq2.toUInt32 &&& Int32.toUInt32 31)).toInt32 : Int32) fun xq7 =>
    ckB (inb (gI mq1 0 1) 400) <|
    lt (sI mq1 1 (gI mq1 0 1).toNatClampNeg (xq7 &&& (255 : Int32))) fun mq8 =>
    lt (sI mq8 0 1 ((gI mq8 0 1) + (1 : Int32))) fun mq10 =>
    k50_5 mq10)))
def F_T_putBytes (a1 : Int32) (m0 : Mem) : Option (Unit × Mem) :=
F_T_putBytes_L3 a1 1000000 (24 : Int32) m0
def F_T_feed (a1 : Int32) (a2 : Int32) (a3 : Int32) (a4 : Int32) (a5 : Int32) (m0 : Mem) : Option (Int32 × Mem) :=
if ((gI m0 0 1) + (20 : Int32)) ≤ (400 : Int32) then (
bnd (F_T_putBytes a1 m0) fun _ mq1 =>
bnd (F_T_putBytes a2 mq1) fun _ mq4 =>
bnd (F_T_putBytes a3 mq4) fun _ mq7 =>
bnd (F_T_putBytes a4 mq7) fun _ mq10 =>
bnd (F_T_putBytes a5 mq10) fun _ mq13 =>
some (gI mq13 0 1, mq13)) else (
some ((-1 : Int32), m0))
def F_Ma_mayFollow (a1 : Int32) (m0 : Mem) : Option (Bool × Mem) :=
bnd (F_Ma_isOn m0) fun zq3 mq1 =>
if zq3 = true then (
if (gI mq1 16 1) = (2 : Int32) then (
if (gZ mq1 16 6) = true then (
if (gZ mq1 16 5) = true then (
some (false, mq1)) else (
bnd (F_Ma_leadOf (gI mq1 16 0) mq1) fun xq6 mq4 =>
if xq6 < a1 then (
some (false, mq4)) else (
some (true, mq4)))) else (
some (false, mq1))) else (
some (false, mq1))) else (
some (false, mq1))
def F_T_follow (m0 : Mem) : Option ((Nat ⊕ Int32) × Mem) :=
bnd (F_Ma_mayFollow (gI m0 3 4) m0) fun zq3 mq1 =>
if zq3 = true then (
bnd (F_Pa_remember mq1) fun _ mq4 =>
lt (sZ mq4 16 5 true) fun mq7 =>
bnd (F_Ma_leadOf (gI mq7 16 0) mq7) fun xq10 mq8 =>
some (.inr xq10, mq8)) else (
some (.inl 0, mq1))
def F_Ma_logged (a1 : Int32) (a2 : Int32) (m0 : Mem) : Option (Int32 × Mem) :=
lt ((a1 * (7 : Int32)) + a2 : Int32) fun xq1 =>
if a1 < 0 then (
some ((-99 : Int32), m0)) else (
if (gI m0 16 3) ≤ a1 then (
some ((-99 : Int32), m0)) else (
if xq1 < 0 then (
some ((-99 : Int32), m0)) else (
if xq1 < (63 : Int32) then (
ckB (inb xq1 63) <|
lt (gI m0 17 xq1.toNatClampNeg) fun xq3 =>
some (xq3, m0)) else (
some ((-99 : Int32), m0)))))
def F_T_form_L33 (a1 : Int32) (a2 : Int32) : Nat → Int32 → Int32 → Mem → Option ((Nat ⊕ Int32) × Mem)
  | 0, _, _, _ => none
  | nfq9 + 1, xq7, xq8, mq6 =>
    if ((a2 * (3 : Int32)) + (3 : Int32)) ≤ xq8 then (
    some (.inr xq7, mq6)) else (
    lt (fun (xq12 : Int32) (mq11 : Mem) => ((lt (xq8 + (1 : Int32) : Int32) fun xq13 =>
    F_T_form_L33 a1 a2 nfq9 xq12 xq13 mq11) : Option ((Nat ⊕ Int32) × Mem))) fun k83_12 =>
    if (gI mq6 16 3) ≤ xq8 then (
    k83_12 xq7 mq6) else (
    bnd (F_Ma_logged xq8 (1 : Int32) mq6) fun xq16 mq14 =>
    if xq16 = a1 then (
    bnd (F_Ma_logged xq8 (6 : Int32) mq14) fun xq19 mq17 =>
    lt (xq7 + xq19 : Int32) fun xq20 =>
    k83_12 xq20 mq17) else (
    k83_12 xq7 mq14)))
def F_T_form (a1 : Int32) (a2 : Int32) (m0 : Mem) : Option ((Nat ⊕ Int32) × Mem) :=
bndX (F_T_mustBeBelow a1 (2 : Int32) m0) fun _ mq1 =>
lt (fun (mq4 : Mem) => ((some (.inl 1, mq4)) : Option ((Nat ⊕ Int32) × Mem))) fun k15_4 =>
if a2 < 0 then (
k15_4 mq1) else (
if a2 ≤ (2 : Int32) then (
lt (a2 * (3 : Int32) : Int32) fun xq5 =>
F_T_form_L33 a1 a2 1000000 (0 : Int32) xq5 mq1) else (
k15_4 mq1))
def F_Tx_addThingG (a1 : Int32) (a2 : Int32) (a3 : Int32) (m0 : Mem) : Option (Unit × Mem) :=
if (gI m0 46 4) < 0 then (
some ((), m0)) else (
if (400 : Int32) < (gI m0 46 4) then (
some ((), m0)) else (
ckB (inb (gI m0 46 4) 401) <|
lt (sI m0 48 (gI m0 46 4).toNatClampNeg a1) fun mq1 =>
ckB (inb (gI mq1 46 4) 401) <|
lt (sI mq1 49 (gI mq1 46 4).toNatClampNeg a2) fun mq3 =>
ckB (inb (gI mq3 46 4) 401) <|
lt (sI mq3 50 (gI mq3 46 4).toNatClampNeg a3) fun mq5 =>
lt (sI mq5 46 4 ((gI mq5 46 4) + (1 : Int32))) fun mq7 =>
some ((), mq7)))
def F_Tx_kindOf (a0 : Int32) (m0 : Mem) : Option (Int32 × Mem) :=
lt (fun (mq1 : Mem) => ((if a0 < (48 : Int32) then (
some ((2 : Int32), mq1)) else (
if (57 : Int32) < a0 then (
some ((2 : Int32), mq1)) else (
some ((1 : Int32), mq1)))) : Option (Int32 × Mem))) fun k14_1 =>
if a0 < (97 : Int32) then (
k14_1 m0) else (
if (122 : Int32) < a0 then (
k14_1 m0) else (
some ((0 : Int32), m0)))
def F_Tx_cutG_L34 (a2 : Int32) (xq19 : Int32) (k75_21 : Int32 → Mem → Option (Unit × Mem)) : Nat → Int32 → Mem → Option (Unit × Mem)
  | 0, _, _ => none
  | nfq30 + 1, xq29, mq28 =>
    if xq19 = (2 : Int32) then (
    k75_21 xq29 mq28) else (
    if a2 ≤ xq29 then (
    k75_21 xq29 mq28) else (
    ckB (inb xq29 400) <|
    lt (gI mq28 1 xq29.toNatClampNeg) fun xq33 =>
    bnd (F_Tx_kindOf xq33 mq28) fun xq36 mq34 =>
    if xq36 = xq19 then (
    ckB (inb xq29 400) <|
    lt (gI mq34 1 xq29.toNatClampNeg) fun xq38 =>
    ckB (inb xq29 400) <|
    lt (sI mq34 47 xq29.toNatClampNeg xq38) fun mq39 =>
    lt (xq29 + (1 : Int32) : Int32) fun xq41 =>
    F_Tx_cutG_L34 a2 xq19 k75_21 nfq30 xq41 mq39) else (
    k75_21 xq29 mq34)))
def F_Tx_cutG_L7 (a2 : Int32) (k98_2 : Mem → Option (Unit × Mem)) : Nat → Int32 → Mem → Option (Unit × Mem)
  | 0, _, _ => none
  | nfq8 + 1, xq7, mq6 =>
    if a2 ≤ xq7 then (
    k98_2 mq6) else (
    ckB (inb xq7 400) <|
    lt (gI mq6 1 xq7.toNatClampNeg) fun xq11 =>
    ckB (inb xq7 400) <|
    lt (sI mq6 47 xq7.toNatClampNeg xq11) fun mq12 =>
    lt (xq7 + (1 : Int32) : Int32) fun xq14 =>
    ckB (inb xq7 400) <|
    lt (gI mq12 1 xq7.toNatClampNeg) fun xq16 =>
    bnd (F_Tx_kindOf xq16 mq12) fun xq19 mq17 =>
    lt (fun (xq21 : Int32) (mq20 : Mem) => ((ckB (inb xq7 400) <|
    lt (gI mq20 1 xq7.toNatClampNeg) fun xq23 =>
    lt (fun (mq24 : Mem) => ((F_Tx_cutG_L7 a2 k98_2 nfq8 xq21 mq24) : Option (Unit × Mem))) fun k92_24 =>
    if xq23 = (32 : Int32) then (
    k92_24 mq20) else (
    bnd (F_Tx_addThingG xq19 xq7 xq21 mq20) fun _ mq25 =>
    k92_24 mq25)) : Option (Unit × Mem))) fun k75_21 =>
    F_Tx_cutG_L34 a2 xq19 k75_21 1000000 xq14 mq17)
def F_Tx_cutG (a2 : Int32) (m0 : Mem) : Option (Unit × Mem) :=
lt (sI m0 46 4 (0 : Int32)) fun mq1 =>
lt (fun (mq2 : Mem) => ((bnd (F_Tx_addThingG (3 : Int32) (mxI (0 : Int32) a2) (mxI (0 : Int32) a2) mq2) fun _ mq3 =>
some ((), mq3)) : Option (Unit × Mem))) fun k98_2 =>
F_Tx_cutG_L7 a2 k98_2 1000000 (0 : Int32) mq1
def F_Tx_isAtG (a1 : Int32) (m0 : Mem) : Option (Bool × Mem) :=
if (gI m0 46 6) = (-1 : Int32) then (
if (gI m0 46 5) < 0 then (
some (false, m0)) else (
if (gI m0 46 4) ≤ (gI m0 46 5) then (
some (false, m0)) else (
if (400 : Int32) < (gI m0 46 5) then (
some (false, m0)) else (
ckB (inb (gI m0 46 5) 401) <|
lt (gI m0 48 (gI m0 46 5).toNatClampNeg) fun xq2 =>
if xq2 = a1 then (
some (true, m0)) else (
some (false, m0)))))) else (
some (false, m0))
def F_Tx_setWrongG (m0 : Mem) : Option (Unit × Mem) :=
if (gI m0 46 6) = (-1 : Int32) then (
if (gI m0 46 5) < 0 then (
some ((), m0)) else (
if (400 : Int32) < (gI m0 46 5) then (
some ((), m0)) else (
ckB (inb (gI m0 46 5) 401) <|
lt (gI m0 49 (gI m0 46 5).toNatClampNeg) fun xq2 =>
lt (sI m0 46 6 xq2) fun mq3 =>
some ((), mq3)))) else (
some ((), m0))
def F_Tx_byteAtG (a1 : Int32) (m0 : Mem) : Option (Int32 × Mem) :=
if a1 < 0 then (
some ((-1 : Int32), m0)) else (
if a1 < (400 : Int32) then (
ckB (inb a1 400) <|
lt (gI m0 47 a1.toNatClampNeg) fun xq2 =>
some (xq2, m0)) else (
some ((-1 : Int32), m0)))
def F_Tx_takesWordG_L38 (tx1 : String) (k77_8 : Mem → Option (Bool × Mem)) : Nat → Int32 → Mem → Option (Bool × Mem)
  | 0, _, _ => none
  | nfq12 + 1, xq11, mq10 =>
    if (nI tx1.length) ≤ xq11 then (
    k77_8 mq10) else (
    ckB (inb (gI mq10 46 5) 401) <|
    lt (gI mq10 49 (gI mq10 46 5).toNatClampNeg) fun xq15 =>
    bnd (F_Tx_byteAtG (xq15 + xq11) mq10) fun xq18 mq16 =>
    ckB (inb xq11 tx1.length) <|
    if xq18 = (txB tx1 xq11.toNatClampNeg) then (
    lt (xq11 + (1 : Int32) : Int32) fun xq20 =>
    F_Tx_takesWordG_L38 tx1 k77_8 nfq12 xq20 mq16) else (
    some (false, mq16)))
def F_Tx_takesWordG (tx1 : String) (m0 : Mem) : Option (Bool × Mem) :=
bnd (F_Tx_isAtG (0 : Int32) m0) fun zq3 mq1 =>
if zq3 = true then (
ckB (inb (gI mq1 46 5) 401) <|
lt (gI mq1 50 (gI mq1 46 5).toNatClampNeg) fun xq5 =>
ckB (inb (gI mq1 46 5) 401) <|
lt (gI mq1 49 (gI mq1 46 5).toNatClampNeg) fun xq7 =>
if (xq5 - xq7) = (nI tx1.length) then (
lt (fun (mq8 : Mem) => ((lt (sI mq8 46 5 ((gI mq8 46 5) + (1 : Int32))) fun mq9 =>
some (true, mq9)) : Option (Bool × Mem))) fun k77_8 =>
F_Tx_takesWordG_L38 tx1 k77_8 1000000 (0 : Int32) mq1) else (
some (false, mq1))) else (
some (false, mq1))
def F_Tx_numberG_L27 (k78_7 : Int32 → Mem → Option (Int32 × Mem)) : Nat → Int32 → Int32 → Mem → Option (Int32 × Mem)
  | 0, _, _, _ => none
  | nfq20 + 1, xq18, xq19, mq17 =>
    ckB (inb (gI mq17 46 5) 401) <|
    lt (gI mq17 50 (gI mq17 46 5).toNatClampNeg) fun xq23 =>
    if xq23 ≤ xq19 then (
    k78_7 xq18 mq17) else (
    ckB (inb (gI mq17 46 5) 401) <|
    lt (gI mq17 49 (gI mq17 46 5).toNatClampNeg) fun xq25 =>
    if (xq25 + (3 : Int32)) ≤ xq19 then (
    k78_7 xq18 mq17) else (
    bnd (F_Tx_byteAtG xq19 mq17) fun xq28 mq26 =>
    lt (((xq18 * (10 : Int32)) + xq28) - (48 : Int32) : Int32) fun xq29 =>
    lt (xq19 + (1 : Int32) : Int32) fun xq30 =>
    F_Tx_numberG_L27 k78_7 nfq20 xq29 xq30 mq26))
def F_Tx_numberG (a1 : Int32) (a2 : Int32) (m0 : Mem) : Option (Int32 × Mem) :=
bnd (F_Tx_isAtG (1 : Int32) m0) fun zq3 mq1 =>
if zq3 = true then (
ckB (inb (gI mq1 46 5) 401) <|
lt (gI mq1 49 (gI mq1 46 5).toNatClampNeg) fun xq5 =>
lt (fun (xq7 : Int32) (mq6 : Mem) => ((ckB (inb (gI mq6 46 5) 401) <|
lt (gI mq6 50 (gI mq6 46 5).toNatClampNeg) fun xq9 =>
ckB (inb (gI mq6 46 5) 401) <|
lt (gI mq6 49 (gI mq6 46 5).toNatClampNeg) fun xq11 =>
lt (fun (mq12 : Mem) => ((bnd (F_Tx_setWrongG mq12) fun _ mq13 =>
some (a1, mq13)) : Option (Int32 × Mem))) fun k111_12 =>
if (3 : Int32) < (xq9 - xq11) then (
k111_12 mq6) else (
if xq7 < a1 then (
k111_12 mq6) else (
if xq7 ≤ a2 then (
lt (sI mq6 46 5 ((gI mq6 46 5) + (1 : Int32))) fun mq16 =>
some (xq7, mq16)) else (
k111_12 mq6)))) : Option (Int32 × Mem))) fun k78_7 =>
F_Tx_numberG_L27 k78_7 1000000 (0 : Int32) xq5 mq1) else (
bnd (F_Tx_setWrongG mq1) fun _ mq31 =>
some (a1, mq31))
