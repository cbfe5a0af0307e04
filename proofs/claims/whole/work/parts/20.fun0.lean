def F_T_mustBeBelow (a1 : Int32) (a2 : Int32) (m0 : Mem) : Option ((Nat ⊕ Unit) × Mem) :=
lt (fun (m1 : Mem) => ((some (.inl 2, m1)) : Option ((Nat ⊕ Unit) × Mem))) fun k9_1 =>
if a1 < 0 then (
k9_1 m0) else (
if a1 < a2 then (
some (.inr (), m0)) else (
k9_1 m0))
def F_Ma_isOn (m0 : Mem) : Option (Bool × Mem) :=
if (gI m0 16 0) = (-1 : Int32) then (
some (false, m0)) else (
if (gI m0 16 4) = (-1 : Int32) then (
some (true, m0)) else (
some (false, m0)))
def F_T_mustBeOn (m0 : Mem) : Option ((Nat ⊕ Unit) × Mem) :=
bnd (F_Ma_isOn m0) fun z3 m1 =>
if z3 = true then (
some (.inr (), m1)) else (
some (.inl 0, m1))
def F_Od_ready (a1 : Int32) (a2 : Int32) (a3 : Bool) (m0 : Mem) : Option (Unit × Mem) :=
lt (fun (m1 : Mem) => ((lt (sL m1 2 2 ((gL m1 2 2) + (1 : Int64))) fun m2 =>
lt (sZ m2 2 3 false) fun m3 =>
lt (sI m3 2 4 a1) fun m4 =>
lt (sI m4 2 5 a2) fun m5 =>
lt (sZ m5 2 6 a3) fun m6 =>
some ((), m6)) : Option (Unit × Mem))) fun k31_1 =>
if (gZ m0 2 3) = true then (
k31_1 m0) else (
if (gI m0 2 4) = a1 then (
if (gI m0 2 5) = a2 then (
if (b2i (gZ m0 2 6)) = (b2i a3) then (
some ((), m0)) else (
k31_1 m0)) else (
k31_1 m0)) else (
k31_1 m0))
def F_Od_kindOf (a0 : Int32) (a1 : Bool) (m0 : Mem) : Option (Int32 × Mem) :=
if a1 = true then (
if a0 < (2 : Int32) then (
some (a0, m0)) else (
some (a0 + (2 : Int32), m0))) else (
some (a0, m0))
def F_Ma_kind (m0 : Mem) : Option (Int32 × Mem) :=
bnd (F_Od_kindOf (gI m0 16 1) (gZ m0 16 5) m0) fun x3 m1 =>
some (x3, m1)
def F_Ma_leadOf (a1 : Int32) (m0 : Mem) : Option (Int32 × Mem) :=
if a1 = 0 then (
some ((gI m0 16 8) - (gI m0 16 9), m0)) else (
some ((gI m0 16 9) - (gI m0 16 8), m0))
def F_Od_firstBats (a0 : Int32) (m0 : Mem) : Option (Bool × Mem) :=
if a0 = 0 then (
some (true, m0)) else (
if a0 = (2 : Int32) then (
some (true, m0)) else (
if a0 = (5 : Int32) then (
some (true, m0)) else (
some (false, m0))))
def F_Od_inningsOf (a0 : Int32) (m0 : Mem) : Option (Int32 × Mem) :=
if a0 ≤ (3 : Int32) then (
some (a0, m0)) else (
some (a0 - (2 : Int32), m0))
def F_Lw_stand (a1 : Int32) (a2 : Int32) (a3 : Int32) (m0 : Mem) : Option (Unit × Mem) :=
lt (sI m0 10 0 a1) fun m1 =>
lt (sI m1 10 1 (a1 / (3 : Int32))) fun m2 =>
lt (sI m2 10 2 a2) fun m3 =>
lt (sI m3 10 3 a3) fun m4 =>
some ((), m4)
def F_Gr_batOf (a1 : Int32) (m0 : Mem) : Option (Int32 × Mem) :=
if a1 = 0 then (
some (gI m0 4 0, m0)) else (
some (gI m0 4 1, m0))
def F_Gr_bowlOf (a1 : Int32) (m0 : Mem) : Option (Int32 × Mem) :=
if a1 = 0 then (
some (gI m0 5 0, m0)) else (
some (gI m0 5 1, m0))
def F_Lw_standSides (a1 : Int32) (a2 : Int32) (m0 : Mem) : Option (Unit × Mem) :=
lt (sI m0 10 4 a1) fun m1 =>
lt (sI m1 10 5 a2) fun m2 =>
some ((), m2)
def F_T_bitOf (a0 : Int32) (a1 : Int32) (m0 : Mem) : Option (Int32 × Mem) :=
lt ((a0.toUInt32 >>> (a1.toUInt32 &&& Int32.toUInt32 31)).toInt32 : Int32) fun x1 =>
some (x1 &&& (1 : Int32), m0)
def F_Lw_standSky (a1 : Int32) (a2 : Int32) (m0 : Mem) : Option (Unit × Mem) :=
lt (sI m0 10 6 a1) fun m1 =>
lt (sI m1 10 7 a2) fun m2 =>
some ((), m2)
def F_Lw_stackAt (a1 : Int32) (m0 : Mem) : Option (Int32 × Mem) :=
if a1 < 0 then (
some ((0 : Int32), m0)) else (
if a1 < (64 : Int32) then (
ckB (inb a1 64) <|
lt (gI m0 11 a1.toNatClampNeg) fun x2 =>
some (x2, m0)) else (
some ((0 : Int32), m0)))
def F_Lw_joined (a1 : Int32) (a2 : Int32) (a3 : Int32) (m0 : Mem) : Option (Int32 × Mem) :=
if a1 = 1101 then (
some (a2 &&& a3, m0)) else (
if a1 = 1102 then (
some (a2 ||| a3, m0)) else (
if a1 = 1103 then (
if a3 ≤ a2 then (
some ((0 : Int32), m0)) else (
some ((1 : Int32), m0))) else (
if a1 = 1104 then (
if a2 ≤ a3 then (
some ((0 : Int32), m0)) else (
some ((1 : Int32), m0))) else (
some (a2 + a3, m0)))))
def F_Lw_setStack (a1 : Int32) (a2 : Int32) (m0 : Mem) : Option (Unit × Mem) :=
if a1 < 0 then (
some ((), m0)) else (
if (64 : Int32) ≤ a1 then (
some ((), m0)) else (
ckB (inb a1 64) <|
lt (sI m0 11 a1.toNatClampNeg a2) fun m1 =>
some ((), m1)))
def F_Lw_placeAt (a1 : Int32) (m0 : Mem) : Option (Int32 × Mem) :=
if a1 < 0 then (
some ((0 : Int32), m0)) else (
if a1 < (8 : Int32) then (
ckB (inb a1 8) <|
lt (gI m0 10 a1.toNatClampNeg) fun x2 =>
some (x2, m0)) else (
some ((0 : Int32), m0)))
def F_Lw_hardness_L6  : Nat → Int32 → Int32 → Int32 → Mem → Option (Int32 × Mem)
  | 0, _, _, _, _ => none
  | nf5 + 1, x2, x3, x4, m1 =>
    if (gI m1 8 1) ≤ x4 then (
    some (x2, m1)) else (
    if (400 : Int32) ≤ x4 then (
    some (x2, m1)) else (
    ckB (inb x4 400) <|
    lt (gI m1 9 x4.toNatClampNeg) fun x8 =>
    lt (fun (x10 : Int32) (x11 : Int32) (m9 : Mem) => ((lt (x4 + (1 : Int32) : Int32) fun x12 =>
    F_Lw_hardness_L6 nf5 x10 x11 x12 m9) : Option (Int32 × Mem))) fun k172_11 =>
    if (1008 : Int32) ≤ x8 then (
    if x8 < (2000 : Int32) then (
    if x8 = (1100 : Int32) then (
    bnd (F_Lw_stackAt (x3 - (1 : Int32)) m1) fun x28 m26 =>
    bnd (F_Lw_setStack (x3 - (1 : Int32)) ((1 : Int32) - x28) m26) fun _ m29 =>
    k172_11 x2 x3 m29) else (
    lt (x3 + (-1 : Int32) : Int32) fun x13 =>
    bnd (F_Lw_stackAt (x13 - (1 : Int32)) m1) fun x16 m14 =>
    bnd (F_Lw_stackAt x13 m14) fun x19 m17 =>
    bnd (F_Lw_joined x8 x16 x19 m17) fun x22 m20 =>
    bnd (F_Lw_setStack (x13 - (1 : Int32)) x22 m20) fun _ m23 =>
    k172_11 x2 x13 m23)) else (
    lt (x3 + (-1 : Int32) : Int32) fun x32 =>
    bnd (F_Lw_stackAt x32 m1) fun x35 m33 =>
    lt (fun (x37 : Int32) (m36 : Mem) => ((lt (x2 + x37 : Int32) fun x38 =>
    k172_11 x38 x32 m36) : Option (Int32 × Mem))) fun k112_37 =>
    if x35 = 0 then (
    k112_37 (0 : Int32) m33) else (
    k112_37 (x8 - (2000 : Int32)) m33))) else (
    lt (fun (m39 : Mem) => ((lt (x3 + (1 : Int32) : Int32) fun x40 =>
    k172_11 x2 x40 m39) : Option (Int32 × Mem))) fun k76_39 =>
    if x3 < 0 then (
    k76_39 m1) else (
    if (64 : Int32) ≤ x3 then (
    k76_39 m1) else (
    lt (fun (x42 : Int32) (m41 : Mem) => ((ckB (inb x3 64) <|
    lt (sI m41 11 x3.toNatClampNeg x42) fun m43 =>
    k76_39 m43) : Option (Int32 × Mem))) fun k75_42 =>
    if (1000 : Int32) ≤ x8 then (
    bnd (F_Lw_placeAt (x8 - (1000 : Int32)) m1) fun x47 m45 =>
    k75_42 x47 m45) else (
    k75_42 x8 m1))))))
def F_Lw_hardness (m0 : Mem) : Option (Int32 × Mem) :=
F_Lw_hardness_L6 1000000 (0 : Int32) (0 : Int32) (0 : Int32) m0
def F_Gr_levelOf (a1 : Int32) (a2 : Int32) (a3 : Int32) (m0 : Mem) : Option (Int32 × Mem) :=
lt (((a1 * (8 : Int32)) + (a2 * (2 : Int32))) + a3 : Int32) fun x1 =>
if x1 < 0 then (
some ((0 : Int32), m0)) else (
if x1 < (72 : Int32) then (
ckB (inb x1 72) <|
lt (gI m0 14 x1.toNatClampNeg) fun x3 =>
lt (fun (m4 : Mem) => ((ckB (inb x1 72) <|
lt (gI m4 14 x1.toNatClampNeg) fun x6 =>
some (x6, m4)) : Option (Int32 × Mem))) fun k140_4 =>
lt (fun (m7 : Mem) => ((ckB (inb x1 72) <|
lt (gI m7 14 x1.toNatClampNeg) fun x9 =>
if x9 = (-1 : Int32) then (
bnd (F_Lw_stand a1 a2 a3 m7) fun _ m10 =>
bnd (F_Gr_batOf a3 m10) fun x15 m13 =>
bnd (F_Gr_bowlOf ((1 : Int32) - a3) m13) fun x18 m16 =>
bnd (F_Lw_standSides x15 x18 m16) fun _ m19 =>
bnd (F_T_bitOf (gI m19 3 1) a1 m19) fun x24 m22 =>
bnd (F_T_bitOf (gI m22 3 2) a1 m22) fun x27 m25 =>
bnd (F_Lw_standSky x24 x27 m25) fun _ m28 =>
bnd (F_Lw_hardness m28) fun x33 m31 =>
ckB (inb x1 72) <|
lt (sI m31 14 x1.toNatClampNeg (mnI (3 : Int32) x33)) fun m34 =>
k140_4 m34) else (
k140_4 m7)) : Option (Int32 × Mem))) fun k59_7 =>
if x3 = (-1 : Int32) then (
if (gI m0 8 0) = (-1 : Int32) then (
ckB (inb x1 72) <|
lt (sI m0 14 x1.toNatClampNeg (1 : Int32)) fun m36 =>
k140_4 m36) else (
k59_7 m0)) else (
k59_7 m0)) else (
some ((0 : Int32), m0)))
def F_Gr_outsOf (a1 : Int32) (a2 : Int32) (m0 : Mem) : Option (Int32 × Mem) :=
lt ((a1 * (4 : Int32)) + a2 : Int32) fun x1 =>
if x1 < 0 then (
some ((0 : Int32), m0)) else (
if x1 < (16 : Int32) then (
ckB (inb x1 16) <|
lt (gI m0 7 x1.toNatClampNeg) fun x3 =>
some (x3, m0)) else (
some ((0 : Int32), m0)))
def F_Gr_outsIn (a1 : Int32) (a2 : Int32) (a3 : Int32) (m0 : Mem) : Option (Int32 × Mem) :=
bnd (F_T_bitOf (gI m0 3 3) a1 m0) fun x3 m1 =>
if x3 = (1 : Int32) then (
some ((0 : Int32), m1)) else (
bnd (F_Gr_outsOf a2 a3 m1) fun x6 m4 =>
some (x6, m4))
def F_Od_all (a1 : Int32) (m0 : Mem) : Option (Int64 × Mem) :=
lt ((gI m0 3 0) - a1 : Int32) fun x1 =>
if 0 < x1 then (
lt ((1 : Int64) <<< (((2 : Int32) * x1).toInt64 &&& 63) : Int64) fun y2 =>
some (y2, m0)) else (
some ((1 : Int64), m0))
def F_Od_allTo (a1 : Bool) (a2 : Int32) (m0 : Mem) : Option (Int64 × Mem) :=
if a1 = true then (
bnd (F_Od_all a2 m0) fun y6 m4 =>
some (y6, m4)) else (
bnd (F_Od_all a2 m0) fun y3 m1 =>
some (y3 <<< ((20 : Int32).toInt64 &&& 63), m1))
def F_Od_waysOfNext (rc : Int32 → Int32 → Int32 → Int32 → Mem → Option (Int64 × Mem)) (a1 : Int32) (a2 : Int32) (a3 : Int32) (m0 : Mem) : Option (Int64 × Mem) :=
lt (a2 + (1 : Int32) : Int32) fun x1 =>
bnd (F_Od_firstBats x1 m0) fun z4 m2 =>
bnd (F_Od_inningsOf x1 m2) fun x7 m5 =>
lt (fun (m8 : Mem) => ((bnd (rc a1 x1 (10 : Int32) a3 m8) fun y11 m9 =>
some (y11, m9)) : Option (Int64 × Mem))) fun k45_8 =>
if x7 = (3 : Int32) then (
lt (fun (m12 : Mem) => ((bnd (F_Od_allTo z4 a1 m12) fun y15 m13 =>
some (y15, m13)) : Option (Int64 × Mem))) fun k37_12 =>
if z4 = true then (
if a3 ≤ 0 then (
k45_8 m5) else (
k37_12 m5)) else (
if 0 ≤ a3 then (
k45_8 m5) else (
k37_12 m5))) else (
k45_8 m5)
def F_Od_waysBehind (rc : Int32 → Int32 → Int32 → Int32 → Mem → Option (Int64 × Mem)) (a1 : Int32) (a2 : Int32) (a3 : Int32) (a4 : Int32) (m0 : Mem) : Option (Int64 × Mem) :=
bnd (F_Od_inningsOf a2 m0) fun x3 m1 =>
if x3 = (3 : Int32) then (
bnd (F_Od_firstBats a2 m1) fun z6 m4 =>
lt (fun (x8 : Int32) (m7 : Mem) => ((if x8 ≤ 0 then (
if a3 = (10 : Int32) then (
if x8 = 0 then (
some ((0 : Int64), m7)) else (
lt (fun (z13 : Bool) (m12 : Mem) => ((bnd (F_Od_allTo z13 a1 m12) fun y16 m14 =>
some (y16, m14)) : Option (Int64 × Mem))) fun k95_13 =>
if z6 = true then (
k95_13 false m7) else (
k95_13 true m7))) else (
bnd (rc a1 a2 a3 a4 m7) fun y11 m9 =>
some (y11, m9))) else (
bnd (F_Od_allTo z6 a1 m7) fun y19 m17 =>
some (y19, m17))) : Option (Int64 × Mem))) fun k54_8 =>
if z6 = true then (
k54_8 a4 m4) else (
k54_8 (-a4) m4)) else (
if a3 = (10 : Int32) then (
bnd (F_Od_waysOfNext rc a1 a2 a4 m1) fun y25 m23 =>
some (y25, m23)) else (
bnd (rc a1 a2 a3 a4 m1) fun y22 m20 =>
some (y22, m20)))
def F_Gr_runsOf (a1 : Int32) (a2 : Int32) (m0 : Mem) : Option (Int32 × Mem) :=
lt ((a1 * (4 : Int32)) + a2 : Int32) fun x1 =>
if x1 < 0 then (
some ((0 : Int32), m0)) else (
if x1 < (16 : Int32) then (
ckB (inb x1 16) <|
lt (gI m0 6 x1.toNatClampNeg) fun x3 =>
some (x3, m0)) else (
some ((0 : Int32), m0)))
def F_Gr_runsIn (a1 : Int32) (a2 : Int32) (a3 : Int32) (m0 : Mem) : Option (Int32 × Mem) :=
bnd (F_T_bitOf (gI m0 3 3) a1 m0) fun x3 m1 =>
if x3 = (1 : Int32) then (
some ((0 : Int32), m1)) else (
bnd (F_Gr_runsOf a2 a3 m1) fun x6 m4 =>
some (x6, m4))
def F_Od_waysOfSlot (rc : Int32 → Int32 → Int32 → Int32 → Mem → Option (Int64 × Mem)) (a1 : Int32) (a2 : Int32) (a3 : Int32) (a4 : Int32) (a5 : Int32) (a6 : Bool) (m0 : Mem) : Option (Int64 × Mem) :=
bnd (F_Od_firstBats a2 m0) fun z3 m1 =>
bnd (F_Od_inningsOf a2 m1) fun x6 m4 =>
lt (fun (x8 : Int32) (m7 : Mem) => ((bnd (F_Gr_levelOf a1 x6 x8 m7) fun x11 m9 =>
lt (fun (x13 : Int32) (m12 : Mem) => ((bnd (F_Gr_outsIn a1 x11 a5 m12) fun x16 m14 =>
lt (fun (x18 : Int32) (m17 : Mem) => ((lt (fun (x20 : Int32) (m19 : Mem) => ((bnd (F_Od_waysBehind rc (a1 + (1 : Int32)) a2 (mnI (10 : Int32) (a3 + x18)) x20 m19) fun y23 m21 =>
some (y23, m21)) : Option (Int64 × Mem))) fun k122_20 =>
if z3 = true then (
k122_20 (a4 + x13) m17) else (
k122_20 (a4 - x13) m17)) : Option (Int64 × Mem))) fun k90_18 =>
if a6 = true then (
lt (mxI (0 : Int32) (x16 - (1 : Int32)) : Int32) fun x24 =>
k90_18 x24 m14) else (
k90_18 x16 m14)) : Option (Int64 × Mem))) fun k59_13 =>
if a6 = true then (
k59_13 (0 : Int32) m9) else (
bnd (F_Gr_runsIn a1 x11 a5 m9) fun x27 m25 =>
k59_13 x27 m25)) : Option (Int64 × Mem))) fun k33_8 =>
if z3 = true then (
k33_8 (gI m4 2 4) m4) else (
k33_8 ((1 : Int32) - (gI m4 2 4)) m4)
def F_Od_placeOf (a1 : Int32) (a2 : Int32) (a3 : Int32) (a4 : Int32) (m0 : Mem) : Option (Int32 × Mem) :=
if (9 : Int32) ≤ a1 then (
some ((-1 : Int32), m0)) else (
if a2 < 0 then (
some ((-1 : Int32), m0)) else (
if (6 : Int32) ≤ a2 then (
some ((-1 : Int32), m0)) else (
if a3 < 0 then (
some ((-1 : Int32), m0)) else (
if (11 : Int32) ≤ a3 then (
some ((-1 : Int32), m0)) else (
if a4 < (-162 : Int32) then (
some ((-1 : Int32), m0)) else (
if a4 ≤ (162 : Int32) then (
lt ((((a1 * (6 : Int32)) + a2) * (11 : Int32)) + a3 : Int32) fun x1 =>
lt (((x1 * (325 : Int32)) + a4) + (162 : Int32) : Int32) fun x2 =>
if x2 < 0 then (
some ((-1 : Int32), m0)) else (
if x2 < (193050 : Int32) then (
some (x2, m0)) else (
some ((-1 : Int32), m0)))) else (
some ((-1 : Int32), m0))))))))
def F_Od_waysOfSession_L6 (rc : Int32 → Int32 → Int32 → Int32 → Mem → Option (Int64 × Mem)) (a1 : Int32) (a2 : Int32) (a3 : Int32) (a4 : Int32) (a5 : Bool) : Nat → Int64 → Int32 → Mem → Option (Int64 × Mem)
  | 0, _, _, _ => none
  | nf4 + 1, y2, x3, m1 =>
    if (4 : Int32) ≤ x3 then (
    some (y2, m1)) else (
    bnd (F_Od_waysOfSlot rc a1 a2 a3 a4 x3 a5 m1) fun y8 m6 =>
    lt (y2 + y8 : Int64) fun y9 =>
    lt (x3 + (1 : Int32) : Int32) fun x10 =>
    F_Od_waysOfSession_L6 rc a1 a2 a3 a4 a5 nf4 y9 x10 m6)
def F_Od_waysOfSession (rc : Int32 → Int32 → Int32 → Int32 → Mem → Option (Int64 × Mem)) (a1 : Int32) (a2 : Int32) (a3 : Int32) (a4 : Int32) (a5 : Bool) (m0 : Mem) : Option (Int64 × Mem) :=
F_Od_waysOfSession_L6 rc a1 a2 a3 a4 a5 1000000 (0 : Int64) (0 : Int32) m0
def F_Od_waysGoingOn (rc : Int32 → Int32 → Int32 → Int32 → Mem → Option (Int64 × Mem)) (a1 : Int32) (a2 : Int32) (a3 : Int32) (a4 : Int32) (m0 : Mem) : Option (Int64 × Mem) :=
lt (fun (x2 : Int32) (m1 : Mem) => ((bnd (F_Od_waysOfSession rc a1 a2 x2 a4 false m1) fun y5 m3 =>
some (y5, m3)) : Option (Int64 × Mem))) fun k14_2 =>
if a3 = (10 : Int32) then (
k14_2 (0 : Int32) m0) else (
k14_2 a3 m0)
def F_Od_otherChoice (a1 : Int32) (a2 : Int32) (a3 : Int32) (m0 : Mem) : Option (Int32 × Mem) :=
bnd (F_Od_inningsOf a1 m0) fun x3 m1 =>
if x3 = (3 : Int32) then (
some ((3 : Int32), m1)) else (
if a2 = (10 : Int32) then (
if a1 = (2 : Int32) then (
if a3 < (gI m1 3 4) then (
some ((0 : Int32), m1)) else (
some ((2 : Int32), m1))) else (
some ((0 : Int32), m1))) else (
some ((1 : Int32), m1)))
def F_Od_waysOtherwise (rc : Int32 → Int32 → Int32 → Int32 → Mem → Option (Int64 × Mem)) (a1 : Int32) (a2 : Int32) (a3 : Int32) (a4 : Int32) (m0 : Mem) : Option (Int64 × Mem) :=
bnd (F_Od_otherChoice a2 a3 a4 m0) fun x3 m1 =>
if x3 = 1 then (
bnd (F_Od_waysOfNext rc a1 a2 a4 m1) fun y6 m4 =>
some (y6, m4)) else (
if x3 = 2 then (
bnd (F_Od_waysOfSession rc a1 (a2 + (2 : Int32)) (0 : Int32) a4 false m1) fun y9 m7 =>
some (y9, m7)) else (
lt (fun (x11 : Int32) (m10 : Mem) => ((bnd (F_Od_waysOfSession rc a1 a2 x11 a4 true m10) fun y14 m12 =>
some (y14, m12)) : Option (Int64 × Mem))) fun k72_11 =>
if a3 = (10 : Int32) then (
k72_11 (0 : Int32) m1) else (
k72_11 a3 m1)))
def F_Od_waysOf (a0 : Int64) (a1 : Bool) (m0 : Mem) : Option (Int64 × Mem) :=
if a1 = true then (
some (a0 &&& (1048575 : Int64), m0)) else (
lt ((a0.toUInt64 >>> ((20 : Int32).toInt64.toUInt64 &&& Int64.toUInt64 63)).toInt64 : Int64) fun y1 =>
some (y1 &&& (1048575 : Int64), m0))
def F_Od_draws (a1 : Int64) (a2 : Int32) (m0 : Mem) : Option (Int64 × Mem) :=
bnd (F_Od_all a2 m0) fun y3 m1 =>
bnd (F_Od_waysOf a1 true m1) fun y6 m4 =>
bnd (F_Od_waysOf a1 false m4) fun y9 m7 =>
some ((y3 - y6) - y9, m7)
def F_Od_valueOf (a1 : Int64) (a2 : Int32) (a3 : Bool) (a4 : Int32) (m0 : Mem) : Option (Int64 × Mem) :=
bnd (F_Od_waysOf a1 a3 m0) fun y3 m1 =>
bnd (F_Od_draws a1 a2 m1) fun y6 m4 =>
some (((100 : Int64) * y3) + (a4.toInt64 * y6), m4)
def F_Od_waysChosen (rc : Int32 → Int32 → Int32 → Int32 → Mem → Option (Int64 × Mem)) (a1 : Int32) (a2 : Int32) (a3 : Int32) (a4 : Int32) (m0 : Mem) : Option (Int64 × Mem) :=
bnd (F_Od_waysGoingOn rc a1 a2 a3 a4 m0) fun y3 m1 =>
if (gZ m1 2 6) = true then (
some (y3, m1)) else (
bnd (F_Od_otherChoice a2 a3 a4 m1) fun x6 m4 =>
if x6 = 0 then (
some (y3, m4)) else (
bnd (F_Od_waysOtherwise rc a1 a2 a3 a4 m4) fun y9 m7 =>
bnd (F_Od_firstBats a2 m7) fun z12 m10 =>
bnd (F_Od_valueOf y9 a1 z12 (gI m10 2 5) m10) fun y15 m13 =>
bnd (F_Od_valueOf y3 a1 z12 (gI m13 2 5) m13) fun y18 m16 =>
lt (y15 - y18 : Int64) fun y19 =>
if y19 ≤ (0 : Int64) then (
some (y3, m16)) else (
some (y9, m16))))
def F_Od_waysAt_b (rc : Int32 → Int32 → Int32 → Int32 → Mem → Option (Int64 × Mem)) (a1 : Int32) (a2 : Int32) (a3 : Int32) (a4 : Int32) (m0 : Mem) : Option (Int64 × Mem) :=
if a1 < 0 then (
some ((0 : Int64), m0)) else (
if a1 < (gI m0 3 0) then (
bnd (F_Od_placeOf a1 a2 a3 a4 m0) fun x3 m1 =>
lt (fun (m4 : Mem) => ((bnd (F_Od_waysChosen rc a1 a2 a3 a4 m4) fun y7 m5 =>
if x3 = (-1 : Int32) then (
some (y7, m5)) else (
lt (y7 ||| ((gL m5 2 2) <<< ((40 : Int32).toInt64 &&& 63)) : Int64) fun y8 =>
ckB (inb x3 193050) <|
lt (sL m5 15 x3.toNatClampNeg y8) fun m9 =>
some (y7, m9))) : Option (Int64 × Mem))) fun k64_4 =>
if x3 = (-1 : Int32) then (
k64_4 m1) else (
ckB (inb x3 193050) <|
lt (gL m1 15 x3.toNatClampNeg) fun y12 =>
lt ((y12.toUInt64 >>> ((40 : Int32).toInt64.toUInt64 &&& Int64.toUInt64 63)).toInt64 : Int64) fun y13 =>
if y13 = (gL m1 2 2) then (
ckB (inb x3 193050) <|
lt (gL m1 15 x3.toNatClampNeg) fun y15 =>
some (y15 &&& (1099511627775 : Int64), m1)) else (
k64_4 m1))) else (
some ((0 : Int64), m0)))
def F_Od_waysAt : Nat → Int32 → Int32 → Int32 → Int32 → Mem → Option (Int64 × Mem)
  | 0, _, _, _, _, _ => none
  | k + 1, a1, a2, a3, a4, m0 => F_Od_waysAt_b (F_Od_waysAt k) a1 a2 a3 a4 m0
def F_T_waysAfter (a1 : Int32) (m0 : Mem) : Option (Int64 × Mem) :=
bnd (F_Od_ready (gI m0 16 0) (gI m0 3 5) false m0) fun _ m1 =>
bnd (F_Ma_kind m1) fun x6 m4 =>
bnd (F_Ma_leadOf (gI m4 16 0) m4) fun x9 m7 =>
bnd (F_Od_waysOfSlot (F_Od_waysAt 40) (gI m1 16 3) x6 (gI m4 16 2) x9 a1 false m7) fun y12 m10 =>
some (y12, m10)
def F_Od_part (a1 : Int64) (a2 : Int32) (a3 : Int32) (m0 : Mem) : Option (Int64 × Mem) :=
if a3 = (3 : Int32) then (
bnd (F_Od_all a2 m0) fun y11 m9 =>
some (y11, m9)) else (
if a3 = (2 : Int32) then (
bnd (F_Od_draws a1 a2 m0) fun y8 m6 =>
some (y8, m6)) else (
lt (fun (z2 : Bool) (m1 : Mem) => ((bnd (F_Od_waysOf a1 z2 m1) fun y5 m3 =>
some (y5, m3)) : Option (Int64 × Mem))) fun k42_2 =>
if a3 = (gI m0 2 4) then (
k42_2 true m0) else (
k42_2 false m0)))
def F_T_after (a1 : Int32) (a2 : Int32) (m0 : Mem) : Option ((Nat ⊕ Int64) × Mem) :=
bndX (F_T_mustBeBelow a1 (4 : Int32) m0) fun _ m1 =>
bndX (F_T_mustBeOn m1) fun _ m4 =>
lt (fun (m7 : Mem) => ((some (.inl 4, m7)) : Option ((Nat ⊕ Int64) × Mem))) fun k19_7 =>
if a2 < 0 then (
k19_7 m4) else (
if a2 ≤ (3 : Int32) then (
bnd (F_T_waysAfter a1 m4) fun y10 m8 =>
bnd (F_Od_part y10 ((gI m8 16 3) + (1 : Int32)) a2 m8) fun y13 m11 =>
some (.inr y13, m11)) else (
k19_7 m4))
def F_Pa_roomAt (a1 : Int32) (m0 : Mem) : Option (Option Nat × Mem) :=
lt (fun (m1 : Mem) => ((some (none, m1)) : Option (Option Nat × Mem))) fun k10_1 =>
if a1 < 0 then (
k10_1 m0) else (
if a1 < (12 : Int32) then (
ckB (inb a1 12) <|
some (mr0 21 a1.toNatClampNeg, m0)) else (
k10_1 m0))
def F_Ma_copyFrom_L82 (o0 : Nat) : Nat → Int32 → Mem → Option (Unit × Mem)
  | 0, _, _ => none
  | nf13 + 1, x12, m11 =>
    if (63 : Int32) ≤ x12 then (
    some ((), m11)) else (
    ckB (inb x12 63) <|
    lt (gI m11 17 x12.toNatClampNeg) fun x16 =>
    ckB (inb x12 63) <|
    lt (sI m11 (o0 + 1) x12.toNatClampNeg x16) fun m17 =>
    lt (x12 + (1 : Int32) : Int32) fun x19 =>
    F_Ma_copyFrom_L82 o0 nf13 x19 m17)
def F_Ma_copyFrom (o0 : Nat) (m0 : Mem) : Option (Unit × Mem) :=
lt (sI m0 o0 0 (gI m0 16 0)) fun m1 =>
lt (sI m1 o0 1 (gI m1 16 1)) fun m2 =>
lt (sI m2 o0 2 (gI m2 16 2)) fun m3 =>
lt (sI m3 o0 3 (gI m3 16 3)) fun m4 =>
lt (sI m4 o0 4 (gI m4 16 4)) fun m5 =>
lt (sZ m5 o0 5 (gZ m5 16 5)) fun m6 =>
lt (sZ m6 o0 6 (gZ m6 16 6)) fun m7 =>
lt (sI m7 o0 7 (gI m7 16 7)) fun m8 =>
lt (sI m8 o0 8 (gI m8 16 8)) fun m9 =>
lt (sI m9 o0 9 (gI m9 16 9)) fun m10 =>
F_Ma_copyFrom_L82 o0 1000000 (0 : Int32) m10
def F_Pa_remember (m0 : Mem) : Option (Unit × Mem) :=
bnd (F_Pa_roomAt (gI m0 20 1) m0) fun q3 m1 =>
oMat q3 (
some ((), m1)) fun o4 =>
bnd (F_Ma_copyFrom o4 m1) fun _ m5 =>
lt (((gI m5 20 1) + (1 : Int32)) - ((gI m5 20 1) + (1 : Int32)) / (12 : Int32) * (12 : Int32) : Int32) fun x8 =>
lt (sI m5 20 1 x8) fun m9 =>
lt (sI m9 20 0 (mnI (12 : Int32) ((gI m9 20 0) + (1 : Int32)))) fun m10 =>
some ((), m10)
def F_Ma_clearMatch (m0 : Mem) : Option (Unit × Mem) :=
lt (sI m0 16 0 (-1 : Int32)) fun m1 =>
lt (sI m1 16 1 (0 : Int32)) fun m2 =>
lt (sI m2 16 2 (0 : Int32)) fun m3 =>
lt (sI m3 16 3 (0 : Int32)) fun m4 =>
lt (sI m4 16 4 (-1 : Int32)) fun m5 =>
lt (sZ m5 16 5 false) fun m6 =>
lt (sZ m6 16 6 false) fun m7 =>
lt (sI m7 16 8 (0 : Int32)) fun m8 =>
lt (sI m8 16 9 (0 : Int32)) fun m9 =>
some ((), m9)
def F_T_anew (m0 : Mem) : Option (Int32 × Mem) :=
bnd (F_Pa_remember m0) fun _ m1 =>
lt (gI m1 16 3 : Int32) fun x4 =>
bnd (F_Ma_clearMatch m1) fun _ m5 =>
some (x4, m5)
def F_Lw_copyFrom_L18  : Nat → Int32 → Mem → Option (Unit × Mem)
  | 0, _, _ => none
  | nf5 + 1, x4, m3 =>
    if (400 : Int32) ≤ x4 then (
    some ((), m3)) else (
    ckB (inb x4 400) <|
    lt (gI m3 70 x4.toNatClampNeg) fun x8 =>
    ckB (inb x4 400) <|
    lt (sI m3 9 x4.toNatClampNeg x8) fun m9 =>
    lt (x4 + (1 : Int32) : Int32) fun x11 =>
    F_Lw_copyFrom_L18 nf5 x11 m9)
def F_Lw_copyFrom (m0 : Mem) : Option (Unit × Mem) :=
lt (sI m0 8 0 (gI m0 69 0)) fun m1 =>
lt (sI m1 8 1 (gI m1 69 1)) fun m2 =>
F_Lw_copyFrom_L18 1000000 (0 : Int32) m2
def F_Bk_copyFrom_L10  : Nat → Int32 → Mem → Option (Unit × Mem)
  | 0, _, _ => none
  | nf4 + 1, x3, m2 =>
    if (180 : Int32) ≤ x3 then (
    some ((), m2)) else (
    ckB (inb x3 180) <|
    lt (gI m2 74 x3.toNatClampNeg) fun x7 =>
    ckB (inb x3 180) <|
    lt (sI m2 13 x3.toNatClampNeg x7) fun m8 =>
    lt (x3 + (1 : Int32) : Int32) fun x10 =>
    F_Bk_copyFrom_L10 nf4 x10 m8)
def F_Bk_copyFrom (m0 : Mem) : Option (Unit × Mem) :=
lt (sI m0 12 0 (gI m0 73 0)) fun m1 =>
F_Bk_copyFrom_L10 1000000 (0 : Int32) m1
def F_Gr_copyFrom_L95 (k131_9 : Mem → Option (Unit × Mem)) : Nat → Int32 → Mem → Option (Unit × Mem)
  | 0, _, _ => none
  | nf18 + 1, x17, m16 =>
    if (16 : Int32) ≤ x17 then (
    k131_9 m16) else (
    ckB (inb x17 16) <|
    lt (gI m16 67 x17.toNatClampNeg) fun x21 =>
    ckB (inb x17 16) <|
    lt (sI m16 6 x17.toNatClampNeg x21) fun m22 =>
    ckB (inb x17 16) <|
    lt (gI m22 68 x17.toNatClampNeg) fun x25 =>
    ckB (inb x17 16) <|
    lt (sI m22 7 x17.toNatClampNeg x25) fun m26 =>
    lt (x17 + (1 : Int32) : Int32) fun x28 =>
    F_Gr_copyFrom_L95 k131_9 nf18 x28 m26)
def F_Gr_copyFrom_L58 (k93_8 : Mem → Option (Unit × Mem)) : Nat → Int32 → Mem → Option (Unit × Mem)
  | 0, _, _ => none
  | nf31 + 1, x30, m29 =>
    if (2 : Int32) ≤ x30 then (
    k93_8 m29) else (
    ckB (inb x30 2) <|
    lt (gI m29 65 x30.toNatClampNeg) fun x34 =>
    ckB (inb x30 2) <|
    lt (sI m29 4 x30.toNatClampNeg x34) fun m35 =>
    ckB (inb x30 2) <|
    lt (gI m35 66 x30.toNatClampNeg) fun x38 =>
    ckB (inb x30 2) <|
    lt (sI m35 5 x30.toNatClampNeg x38) fun m39 =>
    lt (x30 + (1 : Int32) : Int32) fun x41 =>
    F_Gr_copyFrom_L58 k93_8 nf31 x41 m39)
def F_Gr_copyFrom (m0 : Mem) : Option (Unit × Mem) :=
lt (sI m0 3 0 (gI m0 64 0)) fun m1 =>
lt (sI m1 3 1 (gI m1 64 1)) fun m2 =>
lt (sI m2 3 2 (gI m2 64 2)) fun m3 =>
lt (sI m3 3 3 (gI m3 64 3)) fun m4 =>
lt (sI m4 3 4 (gI m4 64 4)) fun m5 =>
lt (sI m5 3 5 (gI m5 64 5)) fun m6 =>
lt (sI m6 3 6 (gI m6 64 6)) fun m7 =>
lt (fun (m8 : Mem) => ((lt (fun (m9 : Mem) => ((bnd (F_Lw_copyFrom m9) fun _ m10 =>
bnd (F_Bk_copyFrom m10) fun _ m13 =>
some ((), m13)) : Option (Unit × Mem))) fun k131_9 =>
F_Gr_copyFrom_L95 k131_9 1000000 (0 : Int32) m8) : Option (Unit × Mem))) fun k93_8 =>
F_Gr_copyFrom_L58 k93_8 1000000 (0 : Int32) m7
def F_Ma_copyFrom_2_L82  : Nat → Int32 → Mem → Option (Unit × Mem)
  | 0, _, _ => none
  | nf13 + 1, x12, m11 =>
    if (63 : Int32) ≤ x12 then (
    some ((), m11)) else (
    ckB (inb x12 63) <|
    lt (gI m11 77 x12.toNatClampNeg) fun x16 =>
    ckB (inb x12 63) <|
    lt (sI m11 17 x12.toNatClampNeg x16) fun m17 =>
    lt (x12 + (1 : Int32) : Int32) fun x19 =>
    F_Ma_copyFrom_2_L82 nf13 x19 m17)
def F_Ma_copyFrom_2 (m0 : Mem) : Option (Unit × Mem) :=
lt (sI m0 16 0 (gI m0 76 0)) fun m1 =>
lt (sI m1 16 1 (gI m1 76 1)) fun m2 =>
lt (sI m2 16 2 (gI m2 76 2)) fun m3 =>
lt (sI m3 16 3 (gI m3 76 3)) fun m4 =>
lt (sI m4 16 4 (gI m4 76 4)) fun m5 =>
lt (sZ m5 16 5 (gZ m5 76 5)) fun m6 =>
lt (sZ m6 16 6 (gZ m6 76 6)) fun m7 =>
lt (sI m7 16 7 (gI m7 76 7)) fun m8 =>
lt (sI m8 16 8 (gI m8 76 8)) fun m9 =>
lt (sI m9 16 9 (gI m9 76 9)) fun m10 =>
F_Ma_copyFrom_2_L82 1000000 (0 : Int32) m10
def F_Gr_forgetLevels_L2  : Nat → Int32 → Mem → Option (Unit × Mem)
  | 0, _, _ => none
  | nf3 + 1, x2, m1 =>
    if (72 : Int32) ≤ x2 then (
    some ((), m1)) else (
    ckB (inb x2 72) <|
    lt (sI m1 14 x2.toNatClampNeg (-1 : Int32)) fun m5 =>
    lt (x2 + (1 : Int32) : Int32) fun x7 =>
    F_Gr_forgetLevels_L2 nf3 x7 m5)
def F_Gr_forgetLevels (m0 : Mem) : Option (Unit × Mem) :=
F_Gr_forgetLevels_L2 1000000 (0 : Int32) m0
def F_Od_forget (m0 : Mem) : Option (Unit × Mem) :=
lt (sZ m0 2 3 true) fun m1 =>
lt (sL m1 2 7 (-1 : Int64)) fun m2 =>
lt (sL m2 2 8 (-1 : Int64)) fun m3 =>
some ((), m3)
def F_Pa_clearAll (m0 : Mem) : Option (Unit × Mem) :=
lt (sI m0 20 0 (0 : Int32)) fun m1 =>
some ((), m1)
def F_T_startAfresh (m0 : Mem) : Option (Unit × Mem) :=
bnd (F_Gr_forgetLevels m0) fun _ m1 =>
bnd (F_Od_forget m1) fun _ m4 =>
bnd (F_Pa_clearAll m4) fun _ m7 =>
some ((), m7)
def F_T_back (m0 : Mem) : Option (Bool × Mem) :=
if (gZ m0 0 13) = true then (
bnd (F_Gr_copyFrom m0) fun _ m1 =>
bnd (F_Ma_copyFrom_2 m1) fun _ m4 =>
bnd (F_T_startAfresh m4) fun _ m7 =>
some (true, m7)) else (
some (false, m0))
def F_T_useTape (m0 : Mem) : Option (Int32 × Mem) :=
lt (gI m0 0 1 : Int32) fun x1 =>
lt (sI m0 0 1 (0 : Int32)) fun m2 =>
some (x1, m2)
def F_T_tapeIsBelow_L2 (a1 : Int32) (a2 : Int32) : Nat → Int32 → Mem → Option (Bool × Mem)
  | 0, _, _ => none
  | nf3 + 1, x2, m1 =>
    if a1 ≤ x2 then (
    some (true, m1)) else (
    if (400 : Int32) ≤ x2 then (
    some (true, m1)) else (
    ckB (inb x2 400) <|
    lt (gI m1 1 x2.toNatClampNeg) fun x6 =>
    if x6 < a2 then (
    lt (x2 + (1 : Int32) : Int32) fun x7 =>
    F_T_tapeIsBelow_L2 a1 a2 nf3 x7 m1) else (
    some (false, m1))))
def F_T_tapeIsBelow (a1 : Int32) (a2 : Int32) (m0 : Mem) : Option (Bool × Mem) :=
F_T_tapeIsBelow_L2 a1 a2 1000000 (0 : Int32) m0
def F_T_tapeIsMornings_L19 (a1 : Int32) : Nat → Int32 → Mem → Option (Bool × Mem)
  | 0, _, _ => none
  | nf6 + 1, x5, m4 =>
    if a1 ≤ x5 then (
    some (true, m4)) else (
    if (400 : Int32) ≤ x5 then (
    some (true, m4)) else (
    ckB (inb x5 400) <|
    lt (gI m4 1 x5.toNatClampNeg) fun x9 =>
    if x9 ≤ (1 : Int32) then (
    lt (x5 + (4 : Int32) : Int32) fun x10 =>
    F_T_tapeIsMornings_L19 a1 nf6 x10 m4) else (
    some (false, m4))))
def F_T_tapeIsMornings (a1 : Int32) (m0 : Mem) : Option (Bool × Mem) :=
if (a1 - a1 / (4 : Int32) * (4 : Int32)) = 0 then (
bnd (F_T_tapeIsBelow a1 (4 : Int32) m0) fun z3 m1 =>
if z3 = true then (
F_T_tapeIsMornings_L19 a1 1000000 (3 : Int32) m1) else (
some (false, m1))) else (
some (false, m0))
def F_Mo_signAt (a1 : Int32) (a2 : Int32) (m0 : Mem) : Option (Int32 × Mem) :=
lt (a1 + a2 : Int32) fun x1 =>
if x1 < 0 then (
some ((0 : Int32), m0)) else (
if x1 < (400 : Int32) then (
ckB (inb x1 400) <|
lt (gI m0 1 x1.toNatClampNeg) fun x3 =>
some (x3, m0)) else (
some ((0 : Int32), m0)))
def F_Mo_sort_L35 (a2 : Int32) (a3 : Int32) (a4 : Int32) : Nat → Int32 → Mem → Option (Unit × Mem)
  | 0, _, _ => none
  | nf4 + 1, x3, m2 =>
    if a2 ≤ (x3 + (3 : Int32)) then (
    some ((), m2)) else (
    if (400 : Int32) ≤ (x3 + (3 : Int32)) then (
    some ((), m2)) else (
    bnd (F_Mo_signAt x3 a3 m2) fun x8 m6 =>
    lt (fun (x10 : Int32) (m9 : Mem) => ((lt (x8 + x10 : Int32) fun x11 =>
    lt (fun (m12 : Mem) => ((lt (x3 + (4 : Int32) : Int32) fun x13 =>
    F_Mo_sort_L35 a2 a3 a4 nf4 x13 m12) : Option (Unit × Mem))) fun k144_12 =>
    if x11 < 0 then (
    k144_12 m9) else (
    if (16 : Int32) ≤ x11 then (
    k144_12 m9) else (
    ckB (inb x11 16) <|
    lt (gI m9 62 x11.toNatClampNeg) fun x15 =>
    ckB (inb (x3 + (3 : Int32)) 400) <|
    lt (gI m9 1 (x3 + (3 : Int32)).toNatClampNeg) fun x17 =>
    lt (fun (z19 : Bool) (m18 : Mem) => ((ckB (inb x11 16) <|
    lt (sI m18 62 x11.toNatClampNeg (x15 + (b2i z19))) fun m20 =>
    ckB (inb x11 16) <|
    lt (gI m20 63 x11.toNatClampNeg) fun x23 =>
    ckB (inb (x3 + (3 : Int32)) 400) <|
    lt (gI m20 1 (x3 + (3 : Int32)).toNatClampNeg) fun x25 =>
    lt (fun (z27 : Bool) (m26 : Mem) => ((ckB (inb x11 16) <|
    lt (sI m26 63 x11.toNatClampNeg (x23 + (b2i z27))) fun m28 =>
    k144_12 m28) : Option (Unit × Mem))) fun k142_27 =>
    if x25 = (1 : Int32) then (
    k142_27 false m20) else (
    k142_27 true m20)) : Option (Unit × Mem))) fun k117_19 =>
    if x17 = (1 : Int32) then (
    k117_19 true m9) else (
    k117_19 false m9)))) : Option (Unit × Mem))) fun k79_10 =>
    if a3 = a4 then (
    k79_10 (0 : Int32) m6) else (
    bnd (F_Mo_signAt x3 a4 m6) fun x32 m30 =>
    k79_10 ((4 : Int32) * x32) m30)))
def F_Mo_sort_L3 (k32_1 : Mem → Option (Unit × Mem)) : Nat → Int32 → Mem → Option (Unit × Mem)
  | 0, _, _ => none
  | nf35 + 1, x34, m33 =>
    if (16 : Int32) ≤ x34 then (
    k32_1 m33) else (
    ckB (inb x34 16) <|
    lt (sI m33 62 x34.toNatClampNeg (0 : Int32)) fun m37 =>
    ckB (inb x34 16) <|
    lt (sI m37 63 x34.toNatClampNeg (0 : Int32)) fun m39 =>
    lt (x34 + (1 : Int32) : Int32) fun x41 =>
    F_Mo_sort_L3 k32_1 nf35 x41 m39)
def F_Mo_sort (a2 : Int32) (a3 : Int32) (a4 : Int32) (m0 : Mem) : Option (Unit × Mem) :=
lt (fun (m1 : Mem) => ((F_Mo_sort_L35 a2 a3 a4 1000000 (0 : Int32) m1) : Option (Unit × Mem))) fun k32_1 =>
F_Mo_sort_L3 k32_1 1000000 (0 : Int32) m0
def F_Mo_toldRight_L4  : Nat → Int32 → Int32 → Mem → Option (Int32 × Mem)
  | 0, _, _, _ => none
  | nf4 + 1, x2, x3, m1 =>
    if (16 : Int32) ≤ x3 then (
    some (x2, m1)) else (
    ckB (inb x3 16) <|
    lt (gI m1 62 x3.toNatClampNeg) fun x7 =>
    ckB (inb x3 16) <|
    lt (gI m1 63 x3.toNatClampNeg) fun x9 =>
    lt (x2 + (mxI x7 x9) : Int32) fun x10 =>
    lt (x3 + (1 : Int32) : Int32) fun x11 =>
    F_Mo_toldRight_L4 nf4 x10 x11 m1)
def F_Mo_toldRight (m0 : Mem) : Option (Int32 × Mem) :=
F_Mo_toldRight_L4 1000000 (0 : Int32) (0 : Int32) m0
def F_T_best_L33 (a1 : Bool) (x3 : Int32) (k128_9 : Int32 → Int32 → Mem → Option ((Nat ⊕ Int32) × Mem)) : Nat → Int32 → Int32 → Int32 → Mem → Option ((Nat ⊕ Int32) × Mem)
  | 0, _, _, _, _ => none
  | nf14 + 1, x11, x12, x13, m10 =>
    if (3 : Int32) ≤ x13 then (
    k128_9 x11 x12 m10) else (
    lt (fun (x17 : Int32) (m16 : Mem) => ((lt (fun (x19 : Int32) (m18 : Mem) => ((bnd (F_Mo_sort x3 x17 x19 m18) fun _ m20 =>
    bnd (F_Mo_toldRight m20) fun x25 m23 =>
    lt (fun (x27 : Int32) (x28 : Int32) (m26 : Mem) => ((lt (x13 + (1 : Int32) : Int32) fun x29 =>
    F_T_best_L33 a1 x3 k128_9 nf14 x27 x28 x29 m26) : Option ((Nat ⊕ Int32) × Mem))) fun k122_28 =>
    if x25 ≤ x12 then (
    k122_28 x11 x12 m23) else (
    k122_28 x13 x25 m23)) : Option ((Nat ⊕ Int32) × Mem))) fun k80_19 =>
    if a1 = true then (
    if x13 = 0 then (
    k80_19 (1 : Int32) m16) else (
    k80_19 (2 : Int32) m16)) else (
    k80_19 x13 m16)) : Option ((Nat ⊕ Int32) × Mem))) fun k59_17 =>
    if a1 = true then (
    if x13 = (2 : Int32) then (
    k59_17 (1 : Int32) m10) else (
    k59_17 (0 : Int32) m10)) else (
    k59_17 x13 m10))
def F_T_best (a1 : Bool) (a2 : Bool) (m0 : Mem) : Option ((Nat ⊕ Int32) × Mem) :=
bnd (F_T_useTape m0) fun x3 m1 =>
bnd (F_T_tapeIsMornings x3 m1) fun z6 m4 =>
if z6 = true then (
lt (fun (x8 : Int32) (x9 : Int32) (m7 : Mem) => ((if a2 = true then (
some (.inr x9, m7)) else (
some (.inr x8, m7))) : Option ((Nat ⊕ Int32) × Mem))) fun k128_9 =>
F_T_best_L33 a1 x3 k128_9 1000000 (0 : Int32) (-1 : Int32) (0 : Int32) m4) else (
some (.inl 1, m4))
def F_Ma_spot (m0 : Mem) : Option (Int32 × Mem) :=
if (gZ m0 16 6) = true then (
some ((10 : Int32), m0)) else (
some (gI m0 16 2, m0))
def F_T_oddsFromHere (a1 : Int32) (a2 : Bool) (m0 : Mem) : Option ((Nat ⊕ Int64) × Mem) :=
if (gI m0 16 0) = (-1 : Int32) then (
some (.inl 0, m0)) else (
lt (fun (m1 : Mem) => ((some (.inl 4, m1)) : Option ((Nat ⊕ Int64) × Mem))) fun k31_1 =>
if a1 < 0 then (
k31_1 m0) else (
if a1 ≤ (3 : Int32) then (
bnd (F_Od_ready (gI m0 16 0) (gI m0 3 5) a2 m0) fun _ m2 =>
lt (fun (y6 : Int64) (m5 : Mem) => ((bnd (F_Od_part y6 (gI m5 16 3) a1 m5) fun y9 m7 =>
some (.inr y9, m7)) : Option ((Nat ⊕ Int64) × Mem))) fun k172_6 =>
if (gI m2 16 4) = (-1 : Int32) then (
bnd (F_Ma_kind m2) fun x12 m10 =>
bnd (F_Ma_spot m10) fun x15 m13 =>
bnd (F_Ma_leadOf (gI m13 16 0) m13) fun x18 m16 =>
bnd (F_Od_waysAt 40 (gI m2 16 3) x12 x15 x18 m16) fun y21 m19 =>
k172_6 y21 m19) else (
lt (fun (y23 : Int64) (m22 : Mem) => ((k172_6 y23 m22) : Option ((Nat ⊕ Int64) × Mem))) fun k125_23 =>
if (gI m2 16 4) = (2 : Int32) then (
k125_23 (0 : Int64) m2) else (
lt (fun (z25 : Bool) (m24 : Mem) => ((bnd (F_Od_allTo z25 (gI m24 16 3) m24) fun y28 m26 =>
k125_23 y28 m26) : Option ((Nat ⊕ Int64) × Mem))) fun k115_25 =>
if (gI m2 16 4) = (gI m2 16 0) then (
k115_25 true m2) else (
k115_25 false m2)))) else (
k31_1 m0)))
def F_T_blind (a1 : Int32) (m0 : Mem) : Option ((Nat ⊕ Int64) × Mem) :=
bndX (F_T_oddsFromHere a1 true m0) fun y3 m1 =>
some (.inr y3, m1)
def F_Bk_cell (a1 : Int32) (a2 : Int32) (m0 : Mem) : Option (Int32 × Mem) :=
lt ((a1 * (3 : Int32)) + a2 : Int32) fun x1 =>
if x1 < 0 then (
some ((0 : Int32), m0)) else (
if x1 < (180 : Int32) then (
ckB (inb x1 180) <|
lt (gI m0 13 x1.toNatClampNeg) fun x3 =>
some (x3, m0)) else (
some ((0 : Int32), m0)))
def F_Bk_isSo (a1 : Int32) (a2 : Int32) (m0 : Mem) : Option (Bool × Mem) :=
bnd (F_Bk_cell a1 (0 : Int32) m0) fun x3 m1 =>
bnd (F_Bk_cell a1 (1 : Int32) m1) fun x6 m4 =>
bnd (F_Bk_cell a1 (2 : Int32) m4) fun x9 m7 =>
if a2 = 1 then (
if x6 = x3 then (
some (true, m7)) else (
some (false, m7))) else (
if a2 = 2 then (
if x6 = x3 then (
if x9 = x3 then (
some (true, m7)) else (
some (false, m7))) else (
some (false, m7))) else (
if a2 = 3 then (
if x9 = x6 then (
some (true, m7)) else (
some (false, m7))) else (
if a2 = 4 then (
if x9 = x3 then (
some (true, m7)) else (
some (false, m7))) else (
if a2 = 5 then (
if x9 = (2 : Int32) then (
some (true, m7)) else (
some (false, m7))) else (
some (true, m7))))))
def F_Bk_tally_L4 (a1 : Int32) : Nat → Int32 → Int32 → Mem → Option (Int32 × Mem)
  | 0, _, _, _ => none
  | nf4 + 1, x2, x3, m1 =>
    if (gI m1 12 0) ≤ x3 then (
    some (x2, m1)) else (
    bnd (F_Bk_isSo x3 a1 m1) fun z8 m6 =>
    lt (fun (z10 : Bool) (m9 : Mem) => ((lt (x2 + (b2i z10) : Int32) fun x11 =>
    lt (x3 + (1 : Int32) : Int32) fun x12 =>
    F_Bk_tally_L4 a1 nf4 x11 x12 m9) : Option (Int32 × Mem))) fun k27_10 =>
    if z8 = true then (
    k27_10 true m6) else (
    k27_10 false m6))
def F_Bk_tally (a1 : Int32) (m0 : Mem) : Option (Int32 × Mem) :=
F_Bk_tally_L4 a1 1000000 (0 : Int32) (0 : Int32) m0
def F_T_book (a1 : Int32) (m0 : Mem) : Option ((Nat ⊕ Int32) × Mem) :=
lt (fun (m1 : Mem) => ((some (.inl 4, m1)) : Option ((Nat ⊕ Int32) × Mem))) fun k9_1 =>
if a1 < 0 then (
k9_1 m0) else (
if a1 ≤ (5 : Int32) then (
bnd (F_Bk_tally a1 m0) fun x4 m2 =>
some (.inr x4, m2)) else (
k9_1 m0))
def F_Ma_batting (m0 : Mem) : Option (Int32 × Mem) :=
bnd (F_Ma_kind m0) fun x3 m1 =>
bnd (F_Od_firstBats x3 m1) fun z6 m4 =>
if z6 = true then (
some (gI m4 16 0, m4)) else (
some ((1 : Int32) - (gI m4 16 0), m4))
def F_Ma_setLog (a1 : Int32) (a2 : Int32) (m0 : Mem) : Option (Unit × Mem) :=
lt (((gI m0 16 3) * (7 : Int32)) + a1 : Int32) fun x1 =>
if x1 < 0 then (
some ((), m0)) else (
if (63 : Int32) ≤ x1 then (
some ((), m0)) else (
ckB (inb x1 63) <|
lt (sI m0 17 x1.toNatClampNeg a2) fun m2 =>
some ((), m2)))
def F_Ma_judge (a1 : Int32) (m0 : Mem) : Option (Unit × Mem) :=
bnd (F_Ma_batting m0) fun x3 m1 =>
lt (fun (m4 : Mem) => ((lt (fun (m5 : Mem) => ((if (gI m5 16 3) < a1 then (
some ((), m5)) else (
lt (sI m5 16 4 (2 : Int32)) fun m6 =>
some ((), m6))) : Option (Unit × Mem))) fun k68_5 =>
if (gI m4 16 1) = (3 : Int32) then (
if (gI m4 16 2) = (10 : Int32) then (
bnd (F_Ma_leadOf x3 m4) fun x9 m7 =>
lt (fun (x11 : Int32) (m10 : Mem) => ((lt (sI m10 16 4 x11) fun m12 =>
some ((), m12)) : Option (Unit × Mem))) fun k62_11 =>
if x9 = 0 then (
k62_11 (2 : Int32) m7) else (
k62_11 ((1 : Int32) - x3) m7)) else (
k68_5 m4)) else (
k68_5 m4)) : Option (Unit × Mem))) fun k29_4 =>
if (gI m1 16 1) = (3 : Int32) then (
bnd (F_Ma_leadOf x3 m1) fun x15 m13 =>
if x15 ≤ 0 then (
k29_4 m13) else (
lt (sI m13 16 4 x3) fun m16 =>
some ((), m16))) else (
k29_4 m1)
def F_Ma_beginNext (m0 : Mem) : Option (Unit × Mem) :=
lt (sI m0 16 1 ((gI m0 16 1) + (1 : Int32))) fun m1 =>
lt (sI m1 16 2 (0 : Int32)) fun m2 =>
lt (sZ m2 16 6 true) fun m3 =>
some ((), m3)
def F_Ma_playSession (a2 : Int32) (a3 : Bool) (m0 : Mem) : Option (Unit × Mem) :=
bnd (F_Ma_batting m0) fun x3 m1 =>
bnd (F_Gr_levelOf (gI m1 16 3) (gI m1 16 1) x3 m1) fun x6 m4 =>
lt (fun (x8 : Int32) (m7 : Mem) => ((bnd (F_Gr_outsIn (gI m7 16 3) x6 a2 m7) fun x11 m9 =>
lt (fun (x13 : Int32) (m12 : Mem) => ((lt (fun (m14 : Mem) => ((lt (sI m14 16 2 (mnI (10 : Int32) ((gI m14 16 2) + x13))) fun m15 =>
lt (sZ m15 16 6 false) fun m16 =>
bnd (F_Ma_setLog (0 : Int32) (gI m16 16 1) m16) fun _ m17 =>
bnd (F_Ma_setLog (1 : Int32) x3 m17) fun _ m20 =>
bnd (F_Ma_setLog (2 : Int32) x6 m20) fun _ m23 =>
bnd (F_Ma_setLog (3 : Int32) a2 m23) fun _ m26 =>
bnd (F_Ma_leadOf x3 m26) fun x31 m29 =>
bnd (F_Ma_setLog (4 : Int32) x31 m29) fun _ m32 =>
bnd (F_Ma_setLog (5 : Int32) (gI m32 16 2) m32) fun _ m35 =>
bnd (F_Ma_setLog (6 : Int32) x8 m35) fun _ m38 =>
lt (sI m38 16 3 ((gI m38 16 3) + (1 : Int32))) fun m41 =>
lt (fun (m42 : Mem) => ((bnd (F_Ma_judge (gI m42 3 0) m42) fun _ m43 =>
some ((), m43)) : Option (Unit × Mem))) fun k209_42 =>
if (gI m41 16 2) = (10 : Int32) then (
if (gI m41 16 1) = (3 : Int32) then (
k209_42 m41) else (
bnd (F_Ma_beginNext m41) fun _ m46 =>
k209_42 m46)) else (
k209_42 m41)) : Option (Unit × Mem))) fun k100_14 =>
if x3 = 0 then (
lt (sI m12 16 8 ((gI m12 16 8) + x8)) fun m50 =>
k100_14 m50) else (
lt (sI m12 16 9 ((gI m12 16 9) + x8)) fun m49 =>
k100_14 m49)) : Option (Unit × Mem))) fun k70_13 =>
if a3 = true then (
lt (mxI (0 : Int32) (x11 - (1 : Int32)) : Int32) fun x51 =>
k70_13 x51 m9) else (
k70_13 x11 m9)) : Option (Unit × Mem))) fun k41_8 =>
if a3 = true then (
k41_8 (0 : Int32) m4) else (
bnd (F_Gr_runsIn (gI m4 16 3) x6 a2 m4) fun x54 m52 =>
k41_8 x54 m52)
def F_T_bring (a1 : Int32) (m0 : Mem) : Option ((Nat ⊕ Int32) × Mem) :=
bndX (F_T_mustBeBelow a1 (4 : Int32) m0) fun _ m1 =>
bndX (F_T_mustBeOn m1) fun _ m4 =>
bnd (F_Pa_remember m4) fun _ m7 =>
bnd (F_Ma_batting m7) fun x12 m10 =>
bnd (F_Ma_playSession a1 false m10) fun _ m13 =>
bnd (F_Ma_leadOf x12 m13) fun x18 m16 =>
some (.inr x18, m16)
def F_T_mustBeState (a1 : Int32) (a2 : Int32) (a3 : Int32) (a4 : Int32) (m0 : Mem) : Option ((Nat ⊕ Unit) × Mem) :=
bndX (F_T_mustBeBelow a1 ((gI m0 3 0) + (1 : Int32)) m0) fun _ m1 =>
bndX (F_T_mustBeBelow a2 (4 : Int32) m1) fun _ m4 =>
lt (fun (m7 : Mem) => ((some (.inl 1, m7)) : Option ((Nat ⊕ Unit) × Mem))) fun k44_7 =>
if a3 < (-81 : Int32) then (
k44_7 m4) else (
if (81 : Int32) < a3 then (
k44_7 m4) else (
if a4 < 0 then (
k44_7 m4) else (
if a4 < (10 : Int32) then (
some (.inr (), m4)) else (
k44_7 m4))))
def F_T_winsOf (a1 : Int32) (a2 : Int32) (a3 : Int32) (a4 : Int32) (a5 : Int32) (m0 : Mem) : Option (Int64 × Mem) :=
bnd (F_Od_firstBats a2 m0) fun z3 m1 =>
lt (fun (x5 : Int32) (m4 : Mem) => ((bnd (F_Od_waysAt 40 a1 a2 a4 x5 m4) fun y8 m6 =>
if a5 = (2 : Int32) then (
bnd (F_Od_part y8 a1 (2 : Int32) m6) fun y18 m16 =>
some (y18, m16)) else (
lt (fun (z10 : Bool) (m9 : Mem) => ((lt (fun (z12 : Bool) (m11 : Mem) => ((bnd (F_Od_waysOf y8 z12 m11) fun y15 m13 =>
some (y15, m13)) : Option (Int64 × Mem))) fun k70_12 =>
if (b2i z3) = (b2i z10) then (
k70_12 true m9) else (
k70_12 false m9)) : Option (Int64 × Mem))) fun k62_10 =>
if a5 = 0 then (
k62_10 true m6) else (
k62_10 false m6))) : Option (Int64 × Mem))) fun k25_5 =>
if z3 = true then (
k25_5 a3 m1) else (
k25_5 (-a3) m1)
def F_T_chased_L33 (a1 : Int32) (x9 : Int32) : Nat → Int32 → Mem → Option ((Nat ⊕ Int32) × Mem)
  | 0, _, _ => none
  | nf12 + 1, x11, m10 =>
    if x11 < 0 then (
    some (.inr (-1 : Int32), m10)) else (
    bnd (F_T_winsOf a1 x9 (-x11) (0 : Int32) (0 : Int32) m10) fun y16 m14 =>
    bnd (F_T_winsOf a1 x9 (-x11) (0 : Int32) (1 : Int32) m14) fun y19 m17 =>
    if y16 < y19 then (
    lt (x11 + (-1 : Int32) : Int32) fun x20 =>
    F_T_chased_L33 a1 x9 nf12 x20 m17) else (
    some (.inr x11, m17)))
def F_T_chased (a1 : Int32) (m0 : Mem) : Option ((Nat ⊕ Int32) × Mem) :=
bndX (F_T_mustBeState a1 (3 : Int32) (0 : Int32) (0 : Int32) m0) fun _ m1 =>
bnd (F_Od_ready (0 : Int32) (gI m1 3 5) false m1) fun _ m4 =>
bnd (F_Od_kindOf (3 : Int32) false m4) fun x9 m7 =>
F_T_chased_L33 a1 x9 1000000 (81 : Int32) m7
def F_T_cost (a1 : Int32) (m0 : Mem) : Option ((Nat ⊕ Int64) × Mem) :=
lt (fun (m1 : Mem) => ((some (.inl 1, m1)) : Option ((Nat ⊕ Int64) × Mem))) fun k9_1 =>
if a1 < 0 then (
k9_1 m0) else (
if a1 ≤ (3 : Int32) then (
bndX (F_T_mustBeOn m0) fun _ m2 =>
bnd (F_Ma_kind m2) fun x7 m5 =>
bnd (F_Ma_spot m5) fun x10 m8 =>
bnd (F_Ma_leadOf (gI m8 16 0) m8) fun x13 m11 =>
bnd (F_Od_otherChoice x7 x10 x13 m11) fun x16 m14 =>
lt (fun (m17 : Mem) => ((if x16 = 0 then (
some (.inr (0 : Int64), m17)) else (
bnd (F_Od_ready (gI m17 16 0) (gI m17 3 5) false m17) fun _ m18 =>
bnd (F_Od_firstBats x7 m18) fun z23 m21 =>
bnd (F_Od_waysGoingOn (F_Od_waysAt 40) (gI m21 16 3) x7 x10 x13 m21) fun y26 m24 =>
bnd (F_Od_waysOtherwise (F_Od_waysAt 40) (gI m24 16 3) x7 x10 x13 m24) fun y29 m27 =>
bnd (F_Od_valueOf y26 (gI m27 16 3) z23 (gI m27 3 5) m27) fun y32 m30 =>
bnd (F_Od_valueOf y29 (gI m30 16 3) z23 (gI m30 3 5) m30) fun y35 m33 =>
lt (fun (y37 : Int64) (m36 : Mem) => ((some (.inr ((mxL y32 y35) - y37), m36)) : Option ((Nat ⊕ Int64) × Mem))) fun k237_37 =>
if a1 = 0 then (
k237_37 y32 m33) else (
k237_37 y35 m33))) : Option ((Nat ⊕ Int64) × Mem))) fun k90_17 =>
if a1 = 0 then (
k90_17 m14) else (
if a1 = x16 then (
k90_17 m14) else (
some (.inl 0, m14)))) else (
k9_1 m0))
def F_T_count (a1 : Int32) (m0 : Mem) : Option (Int32 × Mem) :=
if a1 = 0 then (
some (gI m0 3 0, m0)) else (
if a1 = 1 then (
some (gI m0 3 4, m0)) else (
if a1 = 2 then (
some (gI m0 3 5, m0)) else (
if a1 = 3 then (
some (gI m0 3 6, m0)) else (
if a1 = 4 then (
some (gI m0 8 0, m0)) else (
if a1 = 5 then (
some (gI m0 12 0, m0)) else (
if a1 = 6 then (
some (gI m0 3 1, m0)) else (
if a1 = 7 then (
some (gI m0 3 2, m0)) else (
if a1 = 8 then (
some (gI m0 3 3, m0)) else (
if a1 = 9 then (
some ((gI m0 3 0) - (gI m0 16 3), m0)) else (
if a1 = 10 then (
some (gI m0 20 0, m0)) else (
some ((-1 : Int32), m0))))))))))))
def F_Ma_mayDeclare (m0 : Mem) : Option (Bool × Mem) :=
bnd (F_Ma_isOn m0) fun z3 m1 =>
if z3 = true then (
if (gZ m1 16 6) = true then (
some (false, m1)) else (
if (gI m1 16 1) = (3 : Int32) then (
some (false, m1)) else (
some (true, m1)))) else (
some (false, m1))
def F_Ma_endByDeclaring (a1 : Int32) (m0 : Mem) : Option (Unit × Mem) :=
bnd (F_Ma_beginNext m0) fun _ m1 =>
bnd (F_Ma_judge a1 m1) fun _ m4 =>
some ((), m4)
def F_T_declare (m0 : Mem) : Option ((Nat ⊕ Int32) × Mem) :=
bnd (F_Ma_mayDeclare m0) fun z3 m1 =>
if z3 = true then (
bnd (F_Pa_remember m1) fun _ m4 =>
bnd (F_Ma_batting m4) fun x9 m7 =>
bnd (F_Ma_endByDeclaring (gI m7 3 0) m7) fun _ m10 =>
bnd (F_Ma_leadOf x9 m10) fun x15 m13 =>
some (.inr x15, m13)) else (
some (.inl 0, m1))
def F_Od_chooses (a1 : Int32) (a2 : Int32) (a3 : Int32) (a4 : Int32) (m0 : Mem) : Option (Bool × Mem) :=
if (gI m0 3 0) ≤ a1 then (
some (false, m0)) else (
bnd (F_Od_otherChoice a2 a3 a4 m0) fun x3 m1 =>
if x3 = 0 then (
some (false, m1)) else (
bnd (F_Od_firstBats a2 m1) fun z6 m4 =>
bnd (F_Od_waysGoingOn (F_Od_waysAt 40) a1 a2 a3 a4 m4) fun y9 m7 =>
bnd (F_Od_valueOf y9 a1 z6 (gI m7 2 5) m7) fun y12 m10 =>
bnd (F_Od_waysOtherwise (F_Od_waysAt 40) a1 a2 a3 a4 m10) fun y15 m13 =>
bnd (F_Od_valueOf y15 a1 z6 (gI m13 2 5) m13) fun y18 m16 =>
if y18 ≤ y12 then (
some (false, m16)) else (
some (true, m16))))
def F_Od_choosesTold (a1 : Int32) (a2 : Int32) (a3 : Int32) (a4 : Int32) (m0 : Mem) : Option (Bool × Mem) :=
bnd (F_Od_firstBats a2 m0) fun z3 m1 =>
lt (fun (x5 : Int32) (m4 : Mem) => ((bnd (F_Od_chooses a1 a2 a4 x5 m4) fun z8 m6 =>
some (z8, m6)) : Option (Bool × Mem))) fun k18_5 =>
if z3 = true then (
k18_5 a3 m1) else (
k18_5 (-a3) m1)
def F_T_declares (a1 : Int32) (a2 : Int32) (a3 : Bool) (a4 : Int32) (a5 : Int32) (m0 : Mem) : Option ((Nat ⊕ Bool) × Mem) :=
bndX (F_T_mustBeState a1 a2 a4 a5 m0) fun _ m1 =>
bnd (F_Od_ready (0 : Int32) (gI m1 3 5) false m1) fun _ m4 =>
if a2 = (3 : Int32) then (
some (.inr false, m4)) else (
bnd (F_Od_kindOf a2 a3 m4) fun x9 m7 =>
bnd (F_Od_choosesTold a1 x9 a4 a5 m7) fun z12 m10 =>
if z12 = true then (
some (.inr true, m10)) else (
some (.inr false, m10)))
def F_T_end (a1 : Int32) (m0 : Mem) : Option (Bool × Mem) :=
if a1 < 0 then (
some (false, m0)) else (
if a1 ≤ (gI m0 0 1) then (
lt (sI m0 0 1 a1) fun m1 =>
some (true, m1)) else (
some (false, m0)))
def F_T_enforces (a1 : Int32) (a2 : Int32) (m0 : Mem) : Option ((Nat ⊕ Bool) × Mem) :=
bndX (F_T_mustBeState a1 (2 : Int32) a2 (0 : Int32) m0) fun _ m1 =>
bnd (F_Od_ready (0 : Int32) (gI m1 3 5) false m1) fun _ m4 =>
bnd (F_Od_kindOf (2 : Int32) false m4) fun x9 m7 =>
bnd (F_Od_chooses a1 x9 (10 : Int32) a2 m7) fun z12 m10 =>
some (.inr z12, m10)
def F_Od_waysOfNew (a1 : Int32) (m0 : Mem) : Option (Int64 × Mem) :=
lt (fun (y2 : Int64) (m1 : Mem) => ((if y2 = (-1 : Int64) then (
bnd (F_Od_ready a1 (gI m1 3 5) false m1) fun _ m3 =>
bnd (F_Od_waysAt 40 (0 : Int32) (0 : Int32) (10 : Int32) (0 : Int32) m3) fun y8 m6 =>
if a1 = 0 then (
lt (sL m6 2 7 y8) fun m10 =>
some (y8, m10)) else (
lt (sL m6 2 8 y8) fun m9 =>
some (y8, m9))) else (
some (y2, m1))) : Option (Int64 × Mem))) fun k15_2 =>
if a1 = 0 then (
k15_2 (gL m0 2 7) m0) else (
k15_2 (gL m0 2 8) m0)
def F_T_tossValue (a1 : Int32) (a2 : Int32) (m0 : Mem) : Option (Int64 × Mem) :=
bnd (F_Od_waysOfNew a2 m0) fun y3 m1 =>
lt (fun (z5 : Bool) (m4 : Mem) => ((bnd (F_Od_valueOf y3 (0 : Int32) z5 (gI m4 3 5) m4) fun y8 m6 =>
some (y8, m6)) : Option (Int64 × Mem))) fun k23_5 =>
if a1 = a2 then (
k23_5 true m1) else (
k23_5 false m1)
def F_T_leftValue (a1 : Int32) (m0 : Mem) : Option (Int64 × Mem) :=
lt ((1 : Int32) - a1 : Int32) fun x1 =>
bnd (F_T_tossValue x1 x1 m0) fun y4 m2 =>
bnd (F_T_tossValue x1 a1 m2) fun y7 m5 =>
lt (fun (z9 : Bool) (m8 : Mem) => ((lt (fun (x11 : Int32) (m10 : Mem) => ((bnd (F_T_tossValue a1 x11 m10) fun y14 m12 =>
some (y14, m12)) : Option (Int64 × Mem))) fun k37_11 =>
if z9 = true then (
k37_11 x1 m8) else (
k37_11 a1 m8)) : Option (Int64 × Mem))) fun k25_9 =>
if y4 < y7 then (
k25_9 false m5) else (
k25_9 true m5)
def F_T_evens (a1 : Int32) (m0 : Mem) : Option ((Nat ⊕ Int64) × Mem) :=
bndX (F_T_mustBeBelow a1 (2 : Int32) m0) fun _ m1 =>
bnd (F_T_tossValue a1 (0 : Int32) m1) fun y6 m4 =>
bnd (F_T_tossValue a1 (1 : Int32) m4) fun y9 m7 =>
bnd (F_T_leftValue a1 m7) fun y12 m10 =>
some (.inr ((mxL y6 y9) + y12), m10)
def F_T_fault (m0 : Mem) : Option (Int32 × Mem) :=
some (gI m0 0 2, m0)
def F_T_putBytes_L3 (a1 : Int32) : Nat → Int32 → Mem → Option (Unit × Mem)
  | 0, _, _ => none
  | nf3 + 1, x2, m1 =>
    if x2 < 0 then (
    some ((), m1)) else (
    lt (fun (m5 : Mem) => ((lt (x2 + (-8 : Int32) : Int32) fun x6 =>
    F_T_putBytes_L3 a1 nf3 x6 m5) : Option (Unit × Mem))) fun k50_5 =>
    if (gI m1 0 1) < 0 then (
    k50_5 m1) else (
    if (400 : Int32) ≤ (gI m1 0 1) then (
    k50_5 m1) else (
    lt ((a1.toUInt32 >>> (x2.toUInt32 &&& Int32.toUInt32 31)).toInt32 : Int32) fun x7 =>
    ckB (inb (gI m1 0 1) 400) <|
    lt (sI m1 1 (gI m1 0 1).toNatClampNeg (x7 &&& (255 : Int32))) fun m8 =>
    lt (sI m8 0 1 ((gI m8 0 1) + (1 : Int32))) fun m10 =>
    k50_5 m10)))
def F_T_putBytes (a1 : Int32) (m0 : Mem) : Option (Unit × Mem) :=
F_T_putBytes_L3 a1 1000000 (24 : Int32) m0
def F_T_feed (a1 : Int32) (a2 : Int32) (a3 : Int32) (a4 : Int32) (a5 : Int32) (m0 : Mem) : Option (Int32 × Mem) :=
if ((gI m0 0 1) + (20 : Int32)) ≤ (400 : Int32) then (
bnd (F_T_putBytes a1 m0) fun _ m1 =>
bnd (F_T_putBytes a2 m1) fun _ m4 =>
bnd (F_T_putBytes a3 m4) fun _ m7 =>
bnd (F_T_putBytes a4 m7) fun _ m10 =>
bnd (F_T_putBytes a5 m10) fun _ m13 =>
some (gI m13 0 1, m13)) else (
some ((-1 : Int32), m0))
def F_Ma_mayFollow (a1 : Int32) (m0 : Mem) : Option (Bool × Mem) :=
bnd (F_Ma_isOn m0) fun z3 m1 =>
if z3 = true then (
if (gI m1 16 1) = (2 : Int32) then (
if (gZ m1 16 6) = true then (
if (gZ m1 16 5) = true then (
some (false, m1)) else (
bnd (F_Ma_leadOf (gI m1 16 0) m1) fun x6 m4 =>
if x6 < a1 then (
some (false, m4)) else (
some (true, m4)))) else (
some (false, m1))) else (
some (false, m1))) else (
some (false, m1))
def F_T_follow (m0 : Mem) : Option ((Nat ⊕ Int32) × Mem) :=
bnd (F_Ma_mayFollow (gI m0 3 4) m0) fun z3 m1 =>
if z3 = true then (
bnd (F_Pa_remember m1) fun _ m4 =>
lt (sZ m4 16 5 true) fun m7 =>
bnd (F_Ma_leadOf (gI m7 16 0) m7) fun x10 m8 =>
some (.inr x10, m8)) else (
some (.inl 0, m1))
def F_Ma_logged (a1 : Int32) (a2 : Int32) (m0 : Mem) : Option (Int32 × Mem) :=
lt ((a1 * (7 : Int32)) + a2 : Int32) fun x1 =>
if a1 < 0 then (
some ((-99 : Int32), m0)) else (
if (gI m0 16 3) ≤ a1 then (
some ((-99 : Int32), m0)) else (
if x1 < 0 then (
some ((-99 : Int32), m0)) else (
if x1 < (63 : Int32) then (
ckB (inb x1 63) <|
lt (gI m0 17 x1.toNatClampNeg) fun x3 =>
some (x3, m0)) else (
some ((-99 : Int32), m0)))))
def F_T_form_L33 (a1 : Int32) (a2 : Int32) : Nat → Int32 → Int32 → Mem → Option ((Nat ⊕ Int32) × Mem)
  | 0, _, _, _ => none
  | nf9 + 1, x7, x8, m6 =>
    if ((a2 * (3 : Int32)) + (3 : Int32)) ≤ x8 then (
    some (.inr x7, m6)) else (
    lt (fun (x12 : Int32) (m11 : Mem) => ((lt (x8 + (1 : Int32) : Int32) fun x13 =>
    F_T_form_L33 a1 a2 nf9 x12 x13 m11) : Option ((Nat ⊕ Int32) × Mem))) fun k83_12 =>
    if (gI m6 16 3) ≤ x8 then (
    k83_12 x7 m6) else (
    bnd (F_Ma_logged x8 (1 : Int32) m6) fun x16 m14 =>
    if x16 = a1 then (
    bnd (F_Ma_logged x8 (6 : Int32) m14) fun x19 m17 =>
    lt (x7 + x19 : Int32) fun x20 =>
    k83_12 x20 m17) else (
    k83_12 x7 m14)))
def F_T_form (a1 : Int32) (a2 : Int32) (m0 : Mem) : Option ((Nat ⊕ Int32) × Mem) :=
bndX (F_T_mustBeBelow a1 (2 : Int32) m0) fun _ m1 =>
lt (fun (m4 : Mem) => ((some (.inl 1, m4)) : Option ((Nat ⊕ Int32) × Mem))) fun k15_4 =>
if a2 < 0 then (
k15_4 m1) else (
if a2 ≤ (2 : Int32) then (
lt (a2 * (3 : Int32) : Int32) fun x5 =>
F_T_form_L33 a1 a2 1000000 (0 : Int32) x5 m1) else (
k15_4 m1))
def F_Tx_addThingG (a1 : Int32) (a2 : Int32) (a3 : Int32) (m0 : Mem) : Option (Unit × Mem) :=
if (gI m0 46 4) < 0 then (
some ((), m0)) else (
if (400 : Int32) < (gI m0 46 4) then (
some ((), m0)) else (
ckB (inb (gI m0 46 4) 401) <|
lt (sI m0 48 (gI m0 46 4).toNatClampNeg a1) fun m1 =>
ckB (inb (gI m1 46 4) 401) <|
lt (sI m1 49 (gI m1 46 4).toNatClampNeg a2) fun m3 =>
ckB (inb (gI m3 46 4) 401) <|
lt (sI m3 50 (gI m3 46 4).toNatClampNeg a3) fun m5 =>
lt (sI m5 46 4 ((gI m5 46 4) + (1 : Int32))) fun m7 =>
some ((), m7)))
def F_Tx_kindOf (a0 : Int32) (m0 : Mem) : Option (Int32 × Mem) :=
lt (fun (m1 : Mem) => ((if a0 < (48 : Int32) then (
some ((2 : Int32), m1)) else (
if (57 : Int32) < a0 then (
some ((2 : Int32), m1)) else (
some ((1 : Int32), m1)))) : Option (Int32 × Mem))) fun k14_1 =>
if a0 < (97 : Int32) then (
k14_1 m0) else (
if (122 : Int32) < a0 then (
k14_1 m0) else (
some ((0 : Int32), m0)))
def F_Tx_cutG_L34 (a2 : Int32) (x19 : Int32) (k75_21 : Int32 → Mem → Option (Unit × Mem)) : Nat → Int32 → Mem → Option (Unit × Mem)
  | 0, _, _ => none
  | nf30 + 1, x29, m28 =>
    if x19 = (2 : Int32) then (
    k75_21 x29 m28) else (
    if a2 ≤ x29 then (
    k75_21 x29 m28) else (
    ckB (inb x29 400) <|
    lt (gI m28 1 x29.toNatClampNeg) fun x33 =>
    bnd (F_Tx_kindOf x33 m28) fun x36 m34 =>
    if x36 = x19 then (
    ckB (inb x29 400) <|
    lt (gI m34 1 x29.toNatClampNeg) fun x38 =>
    ckB (inb x29 400) <|
    lt (sI m34 47 x29.toNatClampNeg x38) fun m39 =>
    lt (x29 + (1 : Int32) : Int32) fun x41 =>
    F_Tx_cutG_L34 a2 x19 k75_21 nf30 x41 m39) else (
    k75_21 x29 m34)))
def F_Tx_cutG_L7 (a2 : Int32) (k98_2 : Mem → Option (Unit × Mem)) : Nat → Int32 → Mem → Option (Unit × Mem)
  | 0, _, _ => none
  | nf8 + 1, x7, m6 =>
    if a2 ≤ x7 then (
    k98_2 m6) else (
    ckB (inb x7 400) <|
    lt (gI m6 1 x7.toNatClampNeg) fun x11 =>
    ckB (inb x7 400) <|
    lt (sI m6 47 x7.toNatClampNeg x11) fun m12 =>
    lt (x7 + (1 : Int32) : Int32) fun x14 =>
    ckB (inb x7 400) <|
    lt (gI m12 1 x7.toNatClampNeg) fun x16 =>
    bnd (F_Tx_kindOf x16 m12) fun x19 m17 =>
    lt (fun (x21 : Int32) (m20 : Mem) => ((ckB (inb x7 400) <|
    lt (gI m20 1 x7.toNatClampNeg) fun x23 =>
    lt (fun (m24 : Mem) => ((F_Tx_cutG_L7 a2 k98_2 nf8 x21 m24) : Option (Unit × Mem))) fun k92_24 =>
    if x23 = (32 : Int32) then (
    k92_24 m20) else (
    bnd (F_Tx_addThingG x19 x7 x21 m20) fun _ m25 =>
    k92_24 m25)) : Option (Unit × Mem))) fun k75_21 =>
    F_Tx_cutG_L34 a2 x19 k75_21 1000000 x14 m17)
def F_Tx_cutG (a2 : Int32) (m0 : Mem) : Option (Unit × Mem) :=
lt (sI m0 46 4 (0 : Int32)) fun m1 =>
lt (fun (m2 : Mem) => ((bnd (F_Tx_addThingG (3 : Int32) (mxI (0 : Int32) a2) (mxI (0 : Int32) a2) m2) fun _ m3 =>
some ((), m3)) : Option (Unit × Mem))) fun k98_2 =>
F_Tx_cutG_L7 a2 k98_2 1000000 (0 : Int32) m1
def F_Tx_isAtG (a1 : Int32) (m0 : Mem) : Option (Bool × Mem) :=
if (gI m0 46 6) = (-1 : Int32) then (
if (gI m0 46 5) < 0 then (
some (false, m0)) else (
if (gI m0 46 4) ≤ (gI m0 46 5) then (
some (false, m0)) else (
if (400 : Int32) < (gI m0 46 5) then (
some (false, m0)) else (
ckB (inb (gI m0 46 5) 401) <|
lt (gI m0 48 (gI m0 46 5).toNatClampNeg) fun x2 =>
if x2 = a1 then (
some (true, m0)) else (
some (false, m0)))))) else (
some (false, m0))
def F_Tx_setWrongG (m0 : Mem) : Option (Unit × Mem) :=
if (gI m0 46 6) = (-1 : Int32) then (
if (gI m0 46 5) < 0 then (
some ((), m0)) else (
if (400 : Int32) < (gI m0 46 5) then (
some ((), m0)) else (
ckB (inb (gI m0 46 5) 401) <|
lt (gI m0 49 (gI m0 46 5).toNatClampNeg) fun x2 =>
lt (sI m0 46 6 x2) fun m3 =>
some ((), m3)))) else (
some ((), m0))
def F_Tx_byteAtG (a1 : Int32) (m0 : Mem) : Option (Int32 × Mem) :=
if a1 < 0 then (
some ((-1 : Int32), m0)) else (
if a1 < (400 : Int32) then (
ckB (inb a1 400) <|
lt (gI m0 47 a1.toNatClampNeg) fun x2 =>
some (x2, m0)) else (
some ((-1 : Int32), m0)))
def F_Tx_takesWordG_L38 (tx1 : String) (k77_8 : Mem → Option (Bool × Mem)) : Nat → Int32 → Mem → Option (Bool × Mem)
  | 0, _, _ => none
  | nf12 + 1, x11, m10 =>
    if (nI tx1.length) ≤ x11 then (
    k77_8 m10) else (
    ckB (inb (gI m10 46 5) 401) <|
    lt (gI m10 49 (gI m10 46 5).toNatClampNeg) fun x15 =>
    bnd (F_Tx_byteAtG (x15 + x11) m10) fun x18 m16 =>
    ckB (inb x11 tx1.length) <|
    if x18 = (txB tx1 x11.toNatClampNeg) then (
    lt (x11 + (1 : Int32) : Int32) fun x20 =>
    F_Tx_takesWordG_L38 tx1 k77_8 nf12 x20 m16) else (
    some (false, m16)))
def F_Tx_takesWordG (tx1 : String) (m0 : Mem) : Option (Bool × Mem) :=
bnd (F_Tx_isAtG (0 : Int32) m0) fun z3 m1 =>
if z3 = true then (
ckB (inb (gI m1 46 5) 401) <|
lt (gI m1 50 (gI m1 46 5).toNatClampNeg) fun x5 =>
ckB (inb (gI m1 46 5) 401) <|
lt (gI m1 49 (gI m1 46 5).toNatClampNeg) fun x7 =>
if (x5 - x7) = (nI tx1.length) then (
lt (fun (m8 : Mem) => ((lt (sI m8 46 5 ((gI m8 46 5) + (1 : Int32))) fun m9 =>
some (true, m9)) : Option (Bool × Mem))) fun k77_8 =>
F_Tx_takesWordG_L38 tx1 k77_8 1000000 (0 : Int32) m1) else (
some (false, m1))) else (
some (false, m1))
def F_Tx_numberG_L27 (k78_7 : Int32 → Mem → Option (Int32 × Mem)) : Nat → Int32 → Int32 → Mem → Option (Int32 × Mem)
  | 0, _, _, _ => none
  | nf20 + 1, x18, x19, m17 =>
    ckB (inb (gI m17 46 5) 401) <|
    lt (gI m17 50 (gI m17 46 5).toNatClampNeg) fun x23 =>
    if x23 ≤ x19 then (
    k78_7 x18 m17) else (
    ckB (inb (gI m17 46 5) 401) <|
    lt (gI m17 49 (gI m17 46 5).toNatClampNeg) fun x25 =>
    if (x25 + (3 : Int32)) ≤ x19 then (
    k78_7 x18 m17) else (
    bnd (F_Tx_byteAtG x19 m17) fun x28 m26 =>
    lt (((x18 * (10 : Int32)) + x28) - (48 : Int32) : Int32) fun x29 =>
    lt (x19 + (1 : Int32) : Int32) fun x30 =>
    F_Tx_numberG_L27 k78_7 nf20 x29 x30 m26))
def F_Tx_numberG (a1 : Int32) (a2 : Int32) (m0 : Mem) : Option (Int32 × Mem) :=
bnd (F_Tx_isAtG (1 : Int32) m0) fun z3 m1 =>
if z3 = true then (
ckB (inb (gI m1 46 5) 401) <|
lt (gI m1 49 (gI m1 46 5).toNatClampNeg) fun x5 =>
lt (fun (x7 : Int32) (m6 : Mem) => ((ckB (inb (gI m6 46 5) 401) <|
lt (gI m6 50 (gI m6 46 5).toNatClampNeg) fun x9 =>
ckB (inb (gI m6 46 5) 401) <|
lt (gI m6 49 (gI m6 46 5).toNatClampNeg) fun x11 =>
lt (fun (m12 : Mem) => ((bnd (F_Tx_setWrongG m12) fun _ m13 =>
some (a1, m13)) : Option (Int32 × Mem))) fun k111_12 =>
if (3 : Int32) < (x9 - x11) then (
k111_12 m6) else (
if x7 < a1 then (
k111_12 m6) else (
if x7 ≤ a2 then (
lt (sI m6 46 5 ((gI m6 46 5) + (1 : Int32))) fun m16 =>
some (x7, m16)) else (
k111_12 m6)))) : Option (Int32 × Mem))) fun k78_7 =>
F_Tx_numberG_L27 k78_7 1000000 (0 : Int32) x5 m1) else (
bnd (F_Tx_setWrongG m1) fun _ m31 =>
some (a1, m31))
def F_GT_keep (a1 : Int32) (a2 : Int32) (a3 : Int32) (a4 : Int32) (a5 : Int32) (m0 : Mem) : Option (Unit × Mem) :=
lt ((gI m0 46 8) * (5 : Int32) : Int32) fun x1 =>
if x1 < 0 then (
some ((), m0)) else (
if (70 : Int32) < (x1 + (5 : Int32)) then (
some ((), m0)) else (
ckB (inb x1 70) <|
lt (sI m0 51 x1.toNatClampNeg a1) fun m2 =>
ckB (inb (x1 + (1 : Int32)) 70) <|
lt (sI m2 51 (x1 + (1 : Int32)).toNatClampNeg a2) fun m4 =>
ckB (inb (x1 + (2 : Int32)) 70) <|
lt (sI m4 51 (x1 + (2 : Int32)).toNatClampNeg a3) fun m6 =>
ckB (inb (x1 + (3 : Int32)) 70) <|
lt (sI m6 51 (x1 + (3 : Int32)).toNatClampNeg a4) fun m8 =>
ckB (inb (x1 + (4 : Int32)) 70) <|
lt (sI m8 51 (x1 + (4 : Int32)).toNatClampNeg a5) fun m10 =>
lt (sI m10 46 8 ((gI m10 46 8) + (1 : Int32))) fun m12 =>
some ((), m12)))
def F_GT_readBook (m0 : Mem) : Option (Unit × Mem) :=
bnd (F_Tx_numberG (0 : Int32) (1 : Int32) m0) fun x3 m1 =>
bnd (F_Tx_numberG (0 : Int32) (1 : Int32) m1) fun x6 m4 =>
bnd (F_Tx_numberG (0 : Int32) (2 : Int32) m4) fun x9 m7 =>
lt (sI m7 46 9 ((gI m7 46 9) + (1 : Int32))) fun m10 =>
bnd (F_GT_keep (8 : Int32) x3 x6 x9 (0 : Int32) m10) fun _ m11 =>
some ((), m11)
def F_Tx_isAtNumberG (m0 : Mem) : Option (Bool × Mem) :=
bnd (F_Tx_isAtG (1 : Int32) m0) fun z3 m1 =>
some (z3, m1)
def F_GT_readBits_L12  : Nat → Int32 → Int32 → Mem → Option (Int32 × Mem)
  | 0, _, _, _ => none
  | nf8 + 1, x6, x7, m5 =>
    if (400 : Int32) ≤ x7 then (
    some (x6, m5)) else (
    bnd (F_Tx_isAtNumberG m5) fun z12 m10 =>
    if z12 = true then (
    bnd (F_Tx_numberG (0 : Int32) (8 : Int32) m10) fun x15 m13 =>
    lt (x6 ||| ((1 : Int32) <<< (x15 &&& 31)) : Int32) fun x16 =>
    lt (x7 + (1 : Int32) : Int32) fun x17 =>
    F_GT_readBits_L12 nf8 x16 x17 m13) else (
    some (x6, m10)))
def F_GT_readBits (m0 : Mem) : Option (Int32 × Mem) :=
bnd (F_Tx_numberG (0 : Int32) (8 : Int32) m0) fun x3 m1 =>
lt ((1 : Int32) <<< (x3 &&& 31) : Int32) fun x4 =>
F_GT_readBits_L12 1000000 x4 (0 : Int32) m1
def F_Tx_mustTakeG (tx1 : String) (m0 : Mem) : Option (Unit × Mem) :=
bnd (F_Tx_takesWordG tx1 m0) fun z3 m1 =>
if z3 = true then (
some ((), m1)) else (
bnd (F_Tx_setWrongG m1) fun _ m4 =>
some ((), m4))
def F_GT_readSlot (m0 : Mem) : Option (Unit × Mem) :=
bnd (F_Tx_numberG (0 : Int32) (3 : Int32) m0) fun x3 m1 =>
bnd (F_Tx_numberG (0 : Int32) (3 : Int32) m1) fun x6 m4 =>
bnd (F_Tx_mustTakeG ("runs") m4) fun _ m7 =>
bnd (F_Tx_numberG (0 : Int32) (9 : Int32) m7) fun x12 m10 =>
bnd (F_Tx_mustTakeG ("outs") m10) fun _ m13 =>
bnd (F_Tx_numberG (0 : Int32) (9 : Int32) m13) fun x18 m16 =>
bnd (F_GT_keep (2 : Int32) x3 x6 x12 x18 m16) fun _ m19 =>
some ((), m19)
