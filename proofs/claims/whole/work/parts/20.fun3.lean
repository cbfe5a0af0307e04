def F_M_readSessions (m0 : Mem) : Option (Bool × Mem) :=
if (gI m0 79 10) < 0 then (
bnd (F_M_number (1 : Int32) (9 : Int32) m0) fun x3 m1 =>
lt (fun (m4 : Mem) => ((if x3 < 0 then (
some (false, m4)) else (
some (true, m4))) : Option (Bool × Mem))) fun k31_4 =>
if x3 < 0 then (
k31_4 m1) else (
lt (sI m1 79 0 x3) fun m5 =>
k31_4 m5)) else (
some (false, m0))
def F_M_readGroundLine (m0 : Mem) : Option (Bool × Mem) :=
bnd (F_M_isWord ("sessions") m0) fun z3 m1 =>
if z3 = true then (
bnd (F_M_readSessions m1) fun z54 m52 =>
some (z54, m52)) else (
bnd (F_M_isWord ("side") m1) fun z6 m4 =>
if z6 = true then (
bnd (F_M_readSide m4) fun z51 m49 =>
some (z51, m49)) else (
bnd (F_M_isWord ("slot") m4) fun z9 m7 =>
if z9 = true then (
bnd (F_M_readSlot m7) fun z48 m46 =>
some (z48, m46)) else (
bnd (F_M_isWord ("cloud") m7) fun z12 m10 =>
if z12 = true then (
bnd (F_M_readSet (6 : Int32) m10) fun z45 m43 =>
some (z45, m43)) else (
bnd (F_M_isWord ("tide") m10) fun z15 m13 =>
if z15 = true then (
bnd (F_M_readSet (7 : Int32) m13) fun z42 m40 =>
some (z42, m40)) else (
bnd (F_M_isWord ("rain") m13) fun z18 m16 =>
if z18 = true then (
bnd (F_M_readSet (8 : Int32) m16) fun z39 m37 =>
some (z39, m37)) else (
bnd (F_M_isWord ("margin") m16) fun z21 m19 =>
if z21 = true then (
bnd (F_M_readNumber (1 : Int32) (99 : Int32) m19) fun z36 m34 =>
some (z36, m34)) else (
bnd (F_M_isWord ("drawworth") m19) fun z24 m22 =>
if z24 = true then (
bnd (F_M_readNumber (2 : Int32) (100 : Int32) m22) fun z33 m31 =>
some (z33, m31)) else (
bnd (F_M_isWord ("book") m22) fun z27 m25 =>
if z27 = true then (
bnd (F_M_readBook m25) fun z30 m28 =>
if z30 = true then (
some (true, m28)) else (
some (false, m28))) else (
some (false, m25))))))))))
def F_M_readLine (a1 : Bool) (a2 : Int32) (m0 : Mem) : Option (Bool × Mem) :=
bnd (F_M_letters m0) fun _ m1 =>
lt (fun (x5 : Int32) (m4 : Mem) => ((if x5 ≤ a2 then (
some (false, m4)) else (
if a1 = true then (
bnd (F_M_readGroundLine m4) fun z11 m9 =>
if z11 = true then (
some (true, m9)) else (
some (false, m9))) else (
bnd (F_M_readLawLine a2 m4) fun z8 m6 =>
if z8 = true then (
some (true, m6)) else (
some (false, m6))))) : Option (Bool × Mem))) fun k16_5 =>
if a1 = true then (
k16_5 (14 : Int32) m1) else (
k16_5 (12 : Int32) m1)
def F_M_readAll_L28 (a1 : Bool) (k54_9 : Int32 → Mem → Option (Int32 × Mem)) : Nat → Int32 → Mem → Option (Int32 × Mem)
  | 0, _, _ => none
  | nf12 + 1, x11, m10 =>
    bnd (F_M_readLine a1 x11 m10) fun z16 m14 =>
    if z16 = true then (
    bnd (F_M_blanks m14) fun _ m17 =>
    if (gI m17 78 9) = (gI m17 78 10) then (
    k54_9 x11 m17) else (
    bnd (F_M_isAt (59 : Int32) (59 : Int32) m17) fun z22 m20 =>
    if z22 = true then (
    lt (sI m20 78 9 ((gI m20 78 9) + (1 : Int32))) fun m23 =>
    lt (x11 + (1 : Int32) : Int32) fun x24 =>
    F_M_readAll_L28 a1 k54_9 nf12 x24 m23) else (
    some ((-1 : Int32), m20)))) else (
    some ((-1 : Int32), m14))
def F_M_readAll (a1 : Bool) (m0 : Mem) : Option (Int32 × Mem) :=
bnd (F_M_uses m0) fun _ m1 =>
lt (sI m1 78 15 (0 : Int32)) fun m4 =>
bnd (F_M_blanks m4) fun _ m5 =>
if (gI m5 78 9) = (gI m5 78 10) then (
some ((0 : Int32), m5)) else (
lt (fun (x9 : Int32) (m8 : Mem) => ((some (x9 + (1 : Int32), m8)) : Option (Int32 × Mem))) fun k54_9 =>
F_M_readAll_L28 a1 k54_9 1000000 (0 : Int32) m5)
def F_M_ground_L92  : Nat → Int32 → Mem → Option (Int32 × Mem)
  | 0, _, _ => none
  | nf16 + 1, x15, m14 =>
    if (1135 : Int32) ≤ x15 then (
    some ((0 : Int32), m14)) else (
    ckB (inb x15 1135) <|
    lt (gI m14 81 x15.toNatClampNeg) fun x19 =>
    ckB (inb x15 1972) <|
    lt (sI m14 79 x15.toNatClampNeg x19) fun m20 =>
    lt (x15 + (1 : Int32) : Int32) fun x22 =>
    F_M_ground_L92 nf16 x22 m20)
def F_M_ground_L2 (k27_1 : Mem → Option (Int32 × Mem)) : Nat → Int32 → Mem → Option (Int32 × Mem)
  | 0, _, _ => none
  | nf32 + 1, x31, m30 =>
    if (1135 : Int32) ≤ x31 then (
    k27_1 m30) else (
    ckB (inb x31 1972) <|
    lt (gI m30 79 x31.toNatClampNeg) fun x35 =>
    ckB (inb x31 1135) <|
    lt (sI m30 81 x31.toNatClampNeg x35) fun m36 =>
    lt (x31 + (1 : Int32) : Int32) fun x38 =>
    F_M_ground_L2 k27_1 nf32 x38 m36)
def F_M_ground (m0 : Mem) : Option (Int32 × Mem) :=
lt (fun (m1 : Mem) => ((bnd (F_M_readAll true m1) fun x4 m2 =>
lt (fun (x6 : Int32) (m5 : Mem) => ((lt (sI m5 78 13 x6) fun m7 =>
lt (fun (z9 : Bool) (m8 : Mem) => ((bnd (F_M_throwsIf z9 (1 : Int32) m8) fun z12 m10 =>
lt (fun (m13 : Mem) => ((F_M_ground_L92 1000000 (0 : Int32) m13) : Option (Int32 × Mem))) fun k90_13 =>
if z12 = true then (
k90_13 m10) else (
lt (fun (z24 : Bool) (m23 : Mem) => ((bnd (F_M_throwsIf z24 (2 : Int32) m23) fun z27 m25 =>
if z27 = true then (
k90_13 m25) else (
lt (sI m25 79 3 ((gI m25 79 3) + (1 : Int32))) fun m28 =>
lt (sI m28 78 6 (0 : Int32)) fun m29 =>
some (gI m29 79 3, m29))) : Option (Int32 × Mem))) fun k83_24 =>
if (gI m10 79 3) = (12 : Int32) then (
k83_24 true m10) else (
k83_24 false m10))) : Option (Int32 × Mem))) fun k59_9 =>
if 0 ≤ x4 then (
k59_9 false m7) else (
k59_9 true m7)) : Option (Int32 × Mem))) fun k46_6 =>
if 0 ≤ x4 then (
k46_6 (-1 : Int32) m2) else (
k46_6 (gI m2 78 11) m2)) : Option (Int32 × Mem))) fun k27_1 =>
F_M_ground_L2 k27_1 1000000 (0 : Int32) m0
def F_M_habit (a1 : Bool) (m0 : Mem) : Option (Bool × Mem) :=
lt (sI m0 78 0 (0 : Int32)) fun m1 =>
if a1 = true then (
bnd (F_M_bookOf (3 : Int32) m1) fun x13 m11 =>
bnd (F_M_bookOf (0 : Int32) m11) fun x16 m14 =>
bnd (F_M_bookOf (5 : Int32) m14) fun x19 m17 =>
if ((2 : Int32) * x13) = (x16 - x19) then (
some (true, m17)) else (
some (false, m17))) else (
bnd (F_M_bookOf (0 : Int32) m1) fun x4 m2 =>
if x4 ≤ 0 then (
some (false, m2)) else (
bnd (F_M_bookOf (1 : Int32) m2) fun x7 m5 =>
bnd (F_M_bookOf (0 : Int32) m5) fun x10 m8 =>
if ((10 : Int32) * x7) < ((9 : Int32) * x10) then (
some (false, m8)) else (
some (true, m8))))
def F_M_hardest_L39 (a1 : Int32) (a2 : Int32) : Nat → Int32 → Int32 → Mem → Option (Int32 × Mem)
  | 0, _, _, _ => none
  | nf13 + 1, x11, x12, m10 =>
    bnd (F_M_size m10) fun x17 m15 =>
    if x17 ≤ x12 then (
    some (x11, m15)) else (
    bnd (F_M_levelOf x12 a1 a2 m15) fun x20 m18 =>
    bnd (F_M_levelOf x11 a1 a2 m18) fun x23 m21 =>
    lt (fun (x25 : Int32) (m24 : Mem) => ((lt (x12 + (1 : Int32) : Int32) fun x26 =>
    F_M_hardest_L39 a1 a2 nf13 x25 x26 m24) : Option (Int32 × Mem))) fun k72_25 =>
    if x20 ≤ x23 then (
    k72_25 x11 m21) else (
    k72_25 x12 m21))
def F_M_hardest (a1 : Int32) (a2 : Int32) (m0 : Mem) : Option (Int32 × Mem) :=
lt (sI m0 78 0 (0 : Int32)) fun m1 =>
bnd (F_M_noInnings a1 m1) fun z4 m2 =>
lt (fun (z6 : Bool) (m5 : Mem) => ((bnd (F_M_throwsIf z6 (1 : Int32) m5) fun z9 m7 =>
if z9 = true then (
some ((0 : Int32), m7)) else (
F_M_hardest_L39 a1 a2 1000000 (0 : Int32) (1 : Int32) m7)) : Option (Int32 × Mem))) fun k25_6 =>
lt (fun (m27 : Mem) => ((k25_6 true m27) : Option (Int32 × Mem))) fun k20_27 =>
if z4 = true then (
k20_27 m2) else (
bnd (F_M_noSide a2 m2) fun z30 m28 =>
if z30 = true then (
k20_27 m28) else (
k25_6 false m28))
def F_M_here (a1 : Int32) (m0 : Mem) : Option (Int64 × Mem) :=
lt (sI m0 78 0 (0 : Int32)) fun m1 =>
bnd (F_M_firstSide m1) fun x4 m2 =>
lt (fun (z6 : Bool) (m5 : Mem) => ((bnd (F_M_throwsIf z6 (1 : Int32) m5) fun z9 m7 =>
if z9 = true then (
some ((0 : Int64), m7)) else (
bnd (F_M_in a1 (0 : Int32) (3 : Int32) m7) fun z12 m10 =>
lt (fun (z14 : Bool) (m13 : Mem) => ((bnd (F_M_throwsIf z14 (2 : Int32) m13) fun z17 m15 =>
if z17 = true then (
some ((0 : Int64), m15)) else (
bnd (F_M_countsNow m15) fun _ m18 =>
bnd (F_M_played m18) fun x23 m21 =>
bnd (F_M_isOver m21) fun z26 m24 =>
lt (fun (x28 : Int32) (m27 : Mem) => ((bnd (F_M_waysOf a1 x23 x28 m27) fun y31 m29 =>
some (y31, m29)) : Option (Int64 × Mem))) fun k74_28 =>
if z26 = true then (
k74_28 (0 : Int32) m24) else (
bnd (F_M_batter m24) fun x34 m32 =>
k74_28 x34 m32))) : Option (Int64 × Mem))) fun k40_14 =>
if z12 = true then (
k40_14 false m10) else (
k40_14 true m10))) : Option (Int64 × Mem))) fun k18_6 =>
if 0 ≤ x4 then (
k18_6 false m2) else (
k18_6 true m2)
def F_M_hold (a1 : Int32) (m0 : Mem) : Option (Int32 × Mem) :=
lt (sI m0 78 0 (0 : Int32)) fun m1 =>
bnd (F_M_noSlot a1 m1) fun z4 m2 =>
bnd (F_M_throwsIf z4 (1 : Int32) m2) fun z7 m5 =>
if z7 = true then (
some ((0 : Int32), m5)) else (
bnd (F_M_canHold m5) fun z10 m8 =>
lt (fun (z12 : Bool) (m11 : Mem) => ((bnd (F_M_throwsIf z12 (2 : Int32) m11) fun z15 m13 =>
if z15 = true then (
some ((0 : Int32), m13)) else (
bnd (F_M_remembers m13) fun _ m16 =>
bnd (F_M_plays a1 true m16) fun x21 m19 =>
some (x21, m19))) : Option (Int32 × Mem))) fun k30_12 =>
if z10 = true then (
k30_12 false m8) else (
k30_12 true m8))
def F_M_holds (a1 : Int32) (a2 : Bool) (a3 : Int32) (a4 : Int32) (m0 : Mem) : Option (Bool × Mem) :=
lt (sI m0 78 0 (0 : Int32)) fun m1 =>
bnd (F_M_noPlayed a1 m1) fun z4 m2 =>
bnd (F_M_throwsIf z4 (1 : Int32) m2) fun z7 m5 =>
if z7 = true then (
some (false, m5)) else (
bnd (F_M_noState a3 a4 m5) fun z10 m8 =>
bnd (F_M_throwsIf z10 (2 : Int32) m8) fun z13 m11 =>
if z13 = true then (
some (false, m11)) else (
bnd (F_M_size m11) fun x16 m14 =>
if a1 = x16 then (
some (false, m14)) else (
bnd (F_M_countsFrom a1 a3 m14) fun _ m17 =>
bnd (F_M_kindOf (3 : Int32) a2 m17) fun x22 m20 =>
bnd (F_M_isChosen a1 x22 a4 a3 m20) fun z25 m23 =>
some (z25, m23))))
def F_M_image_L7 (k32_2 : Mem → Option (Unit × Mem)) : Nat → Int32 → Mem → Option (Unit × Mem)
  | 0, _, _ => none
  | nf6 + 1, x5, m4 =>
    if (1135 : Int32) ≤ x5 then (
    k32_2 m4) else (
    ckB (inb x5 1972) <|
    lt (gI m4 79 x5.toNatClampNeg) fun x9 =>
    ckB (inb x5 1135) <|
    lt (sI m4 80 x5.toNatClampNeg x9) fun m10 =>
    lt (x5 + (1 : Int32) : Int32) fun x12 =>
    F_M_image_L7 k32_2 nf6 x12 m10)
def F_M_image (m0 : Mem) : Option (Unit × Mem) :=
lt (sI m0 78 0 (0 : Int32)) fun m1 =>
lt (fun (m2 : Mem) => ((lt (sZ m2 78 5 true) fun m3 =>
some ((), m3)) : Option (Unit × Mem))) fun k32_2 =>
F_M_image_L7 k32_2 1000000 (0 : Int32) m1
def F_M_law_L52 (k85_13 : Mem → Option (Int32 × Mem)) : Nat → Int32 → Mem → Option (Int32 × Mem)
  | 0, _, _ => none
  | nf18 + 1, x17, m16 =>
    if (837 : Int32) ≤ x17 then (
    k85_13 m16) else (
    ckB (inb ((1135 : Int32) + x17) 1972) <|
    lt (gI m16 79 ((1135 : Int32) + x17).toNatClampNeg) fun x21 =>
    ckB (inb ((298 : Int32) + x17) 1972) <|
    lt (sI m16 79 ((298 : Int32) + x17).toNatClampNeg x21) fun m22 =>
    lt (x17 + (1 : Int32) : Int32) fun x24 =>
    F_M_law_L52 k85_13 nf18 x24 m22)
def F_M_law (m0 : Mem) : Option (Int32 × Mem) :=
bnd (F_M_readAll false m0) fun x3 m1 =>
lt (fun (x5 : Int32) (m4 : Mem) => ((lt (sI m4 78 13 x5) fun m6 =>
lt (fun (z8 : Bool) (m7 : Mem) => ((bnd (F_M_throwsIf z8 (1 : Int32) m7) fun z11 m9 =>
if z11 = true then (
some ((0 : Int32), m9)) else (
lt (sI m9 79 1135 x3) fun m12 =>
lt (fun (m13 : Mem) => ((lt (sI m13 79 4 (1 : Int32)) fun m14 =>
lt (sI m14 78 6 (0 : Int32)) fun m15 =>
some (x3, m15)) : Option (Int32 × Mem))) fun k85_13 =>
F_M_law_L52 k85_13 1000000 (0 : Int32) m12)) : Option (Int32 × Mem))) fun k32_8 =>
if 0 ≤ x3 then (
k32_8 false m6) else (
k32_8 true m6)) : Option (Int32 × Mem))) fun k19_5 =>
if 0 ≤ x3 then (
k19_5 (-1 : Int32) m1) else (
k19_5 (gI m1 78 11) m1)
def F_M_noSession (a1 : Int32) (m0 : Mem) : Option (Bool × Mem) :=
bnd (F_M_size m0) fun x3 m1 =>
bnd (F_M_in a1 (0 : Int32) (x3 - (1 : Int32)) m1) fun z6 m4 =>
if z6 = true then (
some (false, m4)) else (
some (true, m4))
def F_M_level (a1 : Int32) (a2 : Int32) (a3 : Int32) (m0 : Mem) : Option (Int32 × Mem) :=
lt (sI m0 78 0 (0 : Int32)) fun m1 =>
bnd (F_M_noSession a1 m1) fun z4 m2 =>
lt (fun (z6 : Bool) (m5 : Mem) => ((bnd (F_M_throwsIf z6 (1 : Int32) m5) fun z9 m7 =>
if z9 = true then (
some ((0 : Int32), m7)) else (
bnd (F_M_levelOf a1 a2 a3 m7) fun x12 m10 =>
some (x12, m10))) : Option (Int32 × Mem))) fun k33_6 =>
lt (fun (m13 : Mem) => ((k33_6 true m13) : Option (Int32 × Mem))) fun k28_13 =>
if z4 = true then (
k28_13 m2) else (
bnd (F_M_noInnings a2 m2) fun z16 m14 =>
if z16 = true then (
k28_13 m14) else (
bnd (F_M_noSide a3 m14) fun z19 m17 =>
if z19 = true then (
k28_13 m17) else (
k33_6 false m17)))
def F_M_line_L69 (a1 : Int32) (a2 : Int32) (a3 : Bool) (a4 : Int32) (a5 : Int32) (k115_20 : Int32 → Mem → Option (Int32 × Mem)) : Nat → Int32 → Mem → Option (Int32 × Mem)
  | 0, _, _ => none
  | nf23 + 1, x22, m21 =>
    if (100 : Int32) < x22 then (
    some ((-1 : Int32), m21)) else (
    lt (sI m21 78 21 x22) fun m25 =>
    bnd (F_M_layers (0 : Int32) a1 (abI a4) m25) fun _ m26 =>
    bnd (F_M_laysLevels a1 m26) fun _ m29 =>
    bnd (F_M_kindOf a2 a3 m29) fun x34 m32 =>
    bnd (F_M_isChosen a1 x34 a5 a4 m32) fun z37 m35 =>
    if z37 = true then (
    lt (x22 + (1 : Int32) : Int32) fun x38 =>
    F_M_line_L69 a1 a2 a3 a4 a5 k115_20 nf23 x38 m35) else (
    k115_20 x22 m35))
def F_M_line (a1 : Int32) (a2 : Int32) (a3 : Bool) (a4 : Int32) (a5 : Int32) (m0 : Mem) : Option (Int32 × Mem) :=
lt (sI m0 78 0 (0 : Int32)) fun m1 =>
bnd (F_M_noPlayed a1 m1) fun z4 m2 =>
lt (fun (z6 : Bool) (m5 : Mem) => ((bnd (F_M_throwsIf z6 (1 : Int32) m5) fun z9 m7 =>
if z9 = true then (
some ((0 : Int32), m7)) else (
bnd (F_M_noState a4 a5 m7) fun z12 m10 =>
bnd (F_M_throwsIf z12 (2 : Int32) m10) fun z15 m13 =>
if z15 = true then (
some ((0 : Int32), m13)) else (
if a2 = (3 : Int32) then (
some ((-1 : Int32), m13)) else (
bnd (F_M_size m13) fun x18 m16 =>
if a1 = x18 then (
some ((-1 : Int32), m16)) else (
lt (fun (x20 : Int32) (m19 : Mem) => ((if x20 = 0 then (
some ((-1 : Int32), m19)) else (
some (x20, m19))) : Option (Int32 × Mem))) fun k115_20 =>
F_M_line_L69 a1 a2 a3 a4 a5 k115_20 1000000 (0 : Int32) m16))))) : Option (Int32 × Mem))) fun k26_6 =>
lt (fun (m39 : Mem) => ((k26_6 true m39) : Option (Int32 × Mem))) fun k21_39 =>
if z4 = true then (
k21_39 m2) else (
bnd (F_M_noInnings a2 m2) fun z42 m40 =>
if z42 = true then (
k21_39 m40) else (
k26_6 false m40))
def F_M_log (a1 : Int32) (a2 : Int32) (m0 : Mem) : Option (Int32 × Mem) :=
lt (sI m0 78 0 (0 : Int32)) fun m1 =>
bnd (F_M_in a2 (0 : Int32) (6 : Int32) m1) fun z4 m2 =>
lt (fun (z6 : Bool) (m5 : Mem) => ((bnd (F_M_throwsIf z6 (1 : Int32) m5) fun z9 m7 =>
if z9 = true then (
some ((0 : Int32), m7)) else (
bnd (F_M_played m7) fun x12 m10 =>
bnd (F_M_in a1 (0 : Int32) (x12 - (1 : Int32)) m10) fun z15 m13 =>
if z15 = true then (
bnd (F_M_ofLog a1 a2 m13) fun x18 m16 =>
some (x18, m16)) else (
some ((-99 : Int32), m13)))) : Option (Int32 × Mem))) fun k21_6 =>
if z4 = true then (
k21_6 false m2) else (
k21_6 true m2)
def F_M_match (a1 : Int32) (m0 : Mem) : Option (Int32 × Mem) :=
lt (sI m0 78 0 (0 : Int32)) fun m1 =>
bnd (F_M_in a1 (0 : Int32) (10 : Int32) m1) fun z4 m2 =>
lt (fun (z6 : Bool) (m5 : Mem) => ((bnd (F_M_throwsIf z6 (1 : Int32) m5) fun z9 m7 =>
if z9 = true then (
some ((0 : Int32), m7)) else (
if a1 = 0 then (
bnd (F_M_firstSide m7) fun x12 m10 =>
some (x12, m10)) else (
if a1 = 1 then (
some (gI m7 79 11, m7)) else (
if a1 = 2 then (
some (gI m7 79 13, m7)) else (
if a1 = 3 then (
some (gI m7 79 15, m7)) else (
if a1 = 4 then (
some (gI m7 79 16, m7)) else (
if a1 = 5 then (
bnd (F_M_isOn m7) fun z15 m13 =>
if z15 = true then (
bnd (F_M_batter m13) fun x18 m16 =>
some (x18, m16)) else (
some ((-1 : Int32), m13))) else (
if a1 = 6 then (
bnd (F_M_played m7) fun x21 m19 =>
some (x21, m19)) else (
if a1 = 7 then (
some (gI m7 79 12, m7)) else (
if a1 = 8 then (
some (gI m7 79 18, m7)) else (
if a1 = 9 then (
bnd (F_M_canFollow m7) fun z24 m22 =>
if z24 = true then (
some ((1 : Int32), m22)) else (
some ((0 : Int32), m22))) else (
some (gI m7 79 14, m7))))))))))))) : Option (Int32 × Mem))) fun k21_6 =>
if z4 = true then (
k21_6 false m2) else (
k21_6 true m2)
def F_M_draw (a1 : Int32) (m0 : Mem) : Option (Int32 × Mem) :=
lt (((1103515245 : Int32) * (gI m0 79 9)) + (12345 : Int32) : Int32) fun x1 =>
lt (sI m0 79 9 x1) fun m2 =>
lt (((gI m2 79 9) >>> ((16 : Int32) &&& 31)) &&& (32767 : Int32) : Int32) fun x3 =>
ckB (!decide (a1 = 0)) <|
some (x3 - x3 / a1 * a1, m2)
def F_M_play (m0 : Mem) : Option (Int32 × Mem) :=
lt (sI m0 78 0 (0 : Int32)) fun m1 =>
bnd (F_M_isOn m1) fun z4 m2 =>
lt (fun (z6 : Bool) (m5 : Mem) => ((bnd (F_M_throwsIf z6 (1 : Int32) m5) fun z9 m7 =>
if z9 = true then (
some ((0 : Int32), m7)) else (
bnd (F_M_remembers m7) fun _ m10 =>
bnd (F_M_draw (4 : Int32) m10) fun x15 m13 =>
bnd (F_M_plays x15 false m13) fun x18 m16 =>
some (x15, m16))) : Option (Int32 × Mem))) fun k18_6 =>
if z4 = true then (
k18_6 false m2) else (
k18_6 true m2)
def F_M_seed (a1 : Int32) (m0 : Mem) : Option (Int32 × Mem) :=
lt (sI m0 78 0 (0 : Int32)) fun m1 =>
lt (gI m1 79 9 : Int32) fun x2 =>
lt (sI m1 79 9 a1) fun m3 =>
some (x2, m3)
def F_M_session (a1 : Int32) (a2 : Int32) (m0 : Mem) : Option (Int32 × Mem) :=
lt (sI m0 78 0 (0 : Int32)) fun m1 =>
bnd (F_M_noSession a1 m1) fun z4 m2 =>
bnd (F_M_throwsIf z4 (1 : Int32) m2) fun z7 m5 =>
if z7 = true then (
some ((0 : Int32), m5)) else (
bnd (F_M_in a2 (0 : Int32) (3 : Int32) m5) fun z10 m8 =>
lt (fun (z12 : Bool) (m11 : Mem) => ((bnd (F_M_throwsIf z12 (2 : Int32) m11) fun z15 m13 =>
if z15 = true then (
some ((0 : Int32), m13)) else (
if a2 = 0 then (
some (a1 / (3 : Int32), m13)) else (
ckB (inb (((6 : Int32) + a2) - (1 : Int32)) 1972) <|
lt (gI m13 79 (((6 : Int32) + a2) - (1 : Int32)).toNatClampNeg) fun x17 =>
some ((x17 >>> (a1 &&& 31)) &&& (1 : Int32), m13)))) : Option (Int32 × Mem))) fun k33_12 =>
if z10 = true then (
k33_12 false m8) else (
k33_12 true m8))
def F_M_share (a1 : Int32) (a2 : Int32) (m0 : Mem) : Option (Int32 × Mem) :=
lt (sI m0 78 0 (0 : Int32)) fun m1 =>
bnd (F_M_in a1 (0 : Int32) (5 : Int32) m1) fun z4 m2 =>
lt (fun (z6 : Bool) (m5 : Mem) => ((bnd (F_M_throwsIf z6 (1 : Int32) m5) fun z9 m7 =>
if z9 = true then (
some ((0 : Int32), m7)) else (
bnd (F_M_bookOf a2 m7) fun x12 m10 =>
if x12 = 0 then (
some ((0 : Int32), m10)) else (
bnd (F_M_bookOf a1 m10) fun x15 m13 =>
bnd (F_M_bookOf a2 m13) fun x18 m16 =>
ckB (!decide (x18 = 0)) <|
some (((10000 : Int32) * x15) / x18, m16)))) : Option (Int32 × Mem))) fun k29_6 =>
lt (fun (m20 : Mem) => ((k29_6 true m20) : Option (Int32 × Mem))) fun k24_20 =>
if z4 = true then (
bnd (F_M_in a2 (0 : Int32) (5 : Int32) m2) fun z23 m21 =>
if z23 = true then (
k29_6 false m21) else (
k24_20 m21)) else (
k24_20 m2)
def F_M_side (a1 : Int32) (a2 : Bool) (m0 : Mem) : Option (Int32 × Mem) :=
lt (sI m0 78 0 (0 : Int32)) fun m1 =>
bnd (F_M_noSide a1 m1) fun z4 m2 =>
bnd (F_M_throwsIf z4 (1 : Int32) m2) fun z7 m5 =>
if z7 = true then (
some ((0 : Int32), m5)) else (
lt (fun (z9 : Bool) (m8 : Mem) => ((ckB (inb (((19 : Int32) + ((2 : Int32) * a1)) + (b2i z9)) 1972) <|
lt (gI m8 79 (((19 : Int32) + ((2 : Int32) * a1)) + (b2i z9)).toNatClampNeg) fun x11 =>
some (x11, m8)) : Option (Int32 × Mem))) fun k40_9 =>
if a2 = true then (
k40_9 true m5) else (
k40_9 false m5))
def F_M_signs (a1 : Int32) (a2 : Int32) (a3 : Bool) (m0 : Mem) : Option (Int32 × Mem) :=
bnd (F_M_readSigns m0) fun z3 m1 =>
lt (fun (z5 : Bool) (m4 : Mem) => ((bnd (F_M_throwsIf z5 (1 : Int32) m4) fun z8 m6 =>
if z8 = true then (
some ((0 : Int32), m6)) else (
bnd (F_M_mornings a1 a2 (-1 : Int32) (0 : Int32) a3 m6) fun x11 m9 =>
some (x11, m9))) : Option (Int32 × Mem))) fun k35_5 =>
lt (fun (m12 : Mem) => ((k35_5 true m12) : Option (Int32 × Mem))) fun k30_12 =>
if z3 = true then (
bnd (F_M_in a1 (0 : Int32) (2 : Int32) m1) fun z15 m13 =>
if z15 = true then (
bnd (F_M_in a2 (0 : Int32) (3 : Int32) m13) fun z18 m16 =>
if z18 = true then (
k35_5 false m16) else (
k30_12 m16)) else (
k30_12 m13)) else (
k30_12 m1)
def F_M_slot (a1 : Int32) (a2 : Int32) (a3 : Bool) (m0 : Mem) : Option (Int32 × Mem) :=
lt (sI m0 78 0 (0 : Int32)) fun m1 =>
bnd (F_M_in a1 (0 : Int32) (3 : Int32) m1) fun z4 m2 =>
lt (fun (z6 : Bool) (m5 : Mem) => ((bnd (F_M_throwsIf z6 (1 : Int32) m5) fun z9 m7 =>
if z9 = true then (
some ((0 : Int32), m7)) else (
lt (fun (z11 : Bool) (m10 : Mem) => ((bnd (F_M_ofSlot a1 a2 (b2i z11) m10) fun x14 m12 =>
some (x14, m12)) : Option (Int32 × Mem))) fun k50_11 =>
if a3 = true then (
k50_11 true m7) else (
k50_11 false m7))) : Option (Int32 × Mem))) fun k27_6 =>
lt (fun (m15 : Mem) => ((k27_6 true m15) : Option (Int32 × Mem))) fun k22_15 =>
if z4 = true then (
bnd (F_M_noSlot a2 m2) fun z18 m16 =>
if z18 = true then (
k22_15 m16) else (
k27_6 false m16)) else (
k22_15 m2)
def F_M_streak_L36 (a1 : Int32) : Nat → Int32 → Int32 → Int32 → Mem → Option (Int32 × Mem)
  | 0, _, _, _, _ => none
  | nf14 + 1, x11, x12, x13, m10 =>
    if (gI m10 79 5) ≤ x13 then (
    some (x11, m10)) else (
    bnd (F_M_isSuch x13 ((3 : Int32) + a1) m10) fun z18 m16 =>
    lt (fun (x20 : Int32) (m19 : Mem) => ((lt (mxI x11 x20 : Int32) fun x21 =>
    lt (x13 + (1 : Int32) : Int32) fun x22 =>
    F_M_streak_L36 a1 nf14 x21 x20 x22 m19) : Option (Int32 × Mem))) fun k66_20 =>
    if z18 = true then (
    k66_20 (x12 + (1 : Int32)) m16) else (
    k66_20 (0 : Int32) m16))
def F_M_streak (a1 : Int32) (m0 : Mem) : Option (Int32 × Mem) :=
lt (sI m0 78 0 (0 : Int32)) fun m1 =>
bnd (F_M_in a1 (0 : Int32) (2 : Int32) m1) fun z4 m2 =>
lt (fun (z6 : Bool) (m5 : Mem) => ((bnd (F_M_throwsIf z6 (1 : Int32) m5) fun z9 m7 =>
if z9 = true then (
some ((0 : Int32), m7)) else (
F_M_streak_L36 a1 1000000 (0 : Int32) (0 : Int32) (0 : Int32) m7)) : Option (Int32 × Mem))) fun k20_6 =>
if z4 = true then (
k20_6 false m2) else (
k20_6 true m2)
def F_M_swing_L177 (x29 : Int32) : Nat → Int32 → Mem → Option (Int32 × Mem)
  | 0, _, _ => none
  | nf32 + 1, x31, m30 =>
    if (298 : Int32) ≤ x31 then (
    some (x29, m30)) else (
    ckB (inb x31 298) <|
    lt (gI m30 90 x31.toNatClampNeg) fun x35 =>
    ckB (inb x31 1972) <|
    lt (sI m30 79 x31.toNatClampNeg x35) fun m36 =>
    lt (x31 + (1 : Int32) : Int32) fun x38 =>
    F_M_swing_L177 x29 nf32 x38 m36)
def F_M_swing_L134 (k167_28 : Mem → Option (Int32 × Mem)) : Nat → Int32 → Mem → Option (Int32 × Mem)
  | 0, _, _ => none
  | nf41 + 1, x40, m39 =>
    if (gI m39 78 10) ≤ x40 then (
    k167_28 m39) else (
    bnd (F_M_isOver m39) fun z45 m43 =>
    if z45 = true then (
    k167_28 m43) else (
    ckB (inb x40 400) <|
    lt (gI m43 83 x40.toNatClampNeg) fun x47 =>
    bnd (F_M_plays x47 false m43) fun x50 m48 =>
    lt (x40 + (1 : Int32) : Int32) fun x51 =>
    F_M_swing_L134 k167_28 nf41 x51 m48))
def F_M_swing_L107 (k132_27 : Mem → Option (Int32 × Mem)) : Nat → Int32 → Mem → Option (Int32 × Mem)
  | 0, _, _ => none
  | nf54 + 1, x53, m52 =>
    if (298 : Int32) ≤ x53 then (
    k132_27 m52) else (
    ckB (inb x53 1972) <|
    lt (gI m52 79 x53.toNatClampNeg) fun x57 =>
    ckB (inb x53 298) <|
    lt (sI m52 90 x53.toNatClampNeg x57) fun m58 =>
    lt (x53 + (1 : Int32) : Int32) fun x60 =>
    F_M_swing_L107 k132_27 nf54 x60 m58)
def F_M_swing_L50 (k86_21 : Bool → Mem → Option (Int32 × Mem)) : Nat → Bool → Int32 → Mem → Option (Int32 × Mem)
  | 0, _, _, _ => none
  | nf64 + 1, z62, x63, m61 =>
    if (gI m61 78 10) ≤ x63 then (
    k86_21 z62 m61) else (
    if z62 = true then (
    ckB (inb x63 400) <|
    lt (gI m61 83 x63.toNatClampNeg) fun x67 =>
    bnd (F_M_noSlot x67 m61) fun z70 m68 =>
    lt (fun (z72 : Bool) (m71 : Mem) => ((lt (x63 + (1 : Int32) : Int32) fun x73 =>
    F_M_swing_L50 k86_21 nf64 z72 x73 m71) : Option (Int32 × Mem))) fun k79_72 =>
    if z70 = true then (
    k79_72 false m68) else (
    k79_72 true m68)) else (
    k86_21 z62 m61))
def F_M_swing (m0 : Mem) : Option (Int32 × Mem) :=
bnd (F_M_uses m0) fun _ m1 =>
bnd (F_M_isOn m1) fun z6 m4 =>
lt (fun (z8 : Bool) (m7 : Mem) => ((bnd (F_M_throwsIf z8 (1 : Int32) m7) fun z11 m9 =>
if z11 = true then (
some ((0 : Int32), m9)) else (
bnd (F_M_size m9) fun x14 m12 =>
bnd (F_M_played m12) fun x17 m15 =>
lt (fun (z19 : Bool) (m18 : Mem) => ((lt (fun (z21 : Bool) (m20 : Mem) => ((lt (fun (z23 : Bool) (m22 : Mem) => ((bnd (F_M_throwsIf z23 (2 : Int32) m22) fun z26 m24 =>
if z26 = true then (
some ((0 : Int32), m24)) else (
lt (fun (m27 : Mem) => ((lt (fun (m28 : Mem) => ((lt (gI m28 79 18 : Int32) fun x29 =>
F_M_swing_L177 x29 1000000 (0 : Int32) m28) : Option (Int32 × Mem))) fun k167_28 =>
F_M_swing_L134 k167_28 1000000 (0 : Int32) m27) : Option (Int32 × Mem))) fun k132_27 =>
F_M_swing_L107 k132_27 1000000 (0 : Int32) m24)) : Option (Int32 × Mem))) fun k96_23 =>
if z21 = true then (
k96_23 false m20) else (
k96_23 true m20)) : Option (Int32 × Mem))) fun k86_21 =>
F_M_swing_L50 k86_21 1000000 z19 (0 : Int32) m18) : Option (Int32 × Mem))) fun k47_19 =>
if (gI m9 78 10) = (x14 - x17) then (
k47_19 true m15) else (
k47_19 false m15))) : Option (Int32 × Mem))) fun k17_8 =>
if z6 = true then (
k17_8 false m4) else (
k17_8 true m4)
def F_M_table_L57 (a1 : Int32) (a4 : Bool) (x12 : Int32) : Nat → Int32 → Int32 → Mem → Option (Int32 × Mem)
  | 0, _, _, _ => none
  | nf16 + 1, x14, x15, m13 =>
    if (4 : Int32) ≤ x15 then (
    some (x14, m13)) else (
    bnd (F_M_isRain a1 m13) fun z20 m18 =>
    if z20 = true then (
    some (x14, m18)) else (
    lt (fun (z22 : Bool) (m21 : Mem) => ((bnd (F_M_ofSlot x12 x15 (b2i z22) m21) fun x25 m23 =>
    lt (x14 + x25 : Int32) fun x26 =>
    lt (x15 + (1 : Int32) : Int32) fun x27 =>
    F_M_table_L57 a1 a4 x12 nf16 x26 x27 m23) : Option (Int32 × Mem))) fun k88_22 =>
    if a4 = true then (
    k88_22 true m18) else (
    k88_22 false m18)))
def F_M_table (a1 : Int32) (a2 : Int32) (a3 : Int32) (a4 : Bool) (m0 : Mem) : Option (Int32 × Mem) :=
lt (sI m0 78 0 (0 : Int32)) fun m1 =>
bnd (F_M_noSession a1 m1) fun z4 m2 =>
lt (fun (z6 : Bool) (m5 : Mem) => ((bnd (F_M_throwsIf z6 (1 : Int32) m5) fun z9 m7 =>
if z9 = true then (
some ((0 : Int32), m7)) else (
bnd (F_M_levelOf a1 a2 a3 m7) fun x12 m10 =>
F_M_table_L57 a1 a4 x12 1000000 (0 : Int32) (0 : Int32) m10)) : Option (Int32 × Mem))) fun k33_6 =>
lt (fun (m28 : Mem) => ((k33_6 true m28) : Option (Int32 × Mem))) fun k28_28 =>
if z4 = true then (
k28_28 m2) else (
bnd (F_M_noInnings a2 m2) fun z31 m29 =>
if z31 = true then (
k28_28 m29) else (
bnd (F_M_noSide a3 m29) fun z34 m32 =>
if z34 = true then (
k28_28 m32) else (
k33_6 false m32)))
def F_M_target (a1 : Bool) (m0 : Mem) : Option (Int32 × Mem) :=
lt (sI m0 78 0 (0 : Int32)) fun m1 =>
bnd (F_M_canHold m1) fun z4 m2 =>
lt (fun (z6 : Bool) (m5 : Mem) => ((bnd (F_M_throwsIf z6 (1 : Int32) m5) fun z9 m7 =>
if z9 = true then (
some ((0 : Int32), m7)) else (
bnd (F_M_batter m7) fun x12 m10 =>
bnd (F_M_leadOf x12 m10) fun x15 m13 =>
lt ((1 : Int32) - x15 : Int32) fun x16 =>
bnd (F_M_size m13) fun x19 m17 =>
bnd (F_M_played m17) fun x22 m20 =>
lt (x19 - x22 : Int32) fun x23 =>
if a1 = true then (
ckB (!decide (x23 = 0)) <|
some (((x16 + x23) - (1 : Int32)) / x23, m20)) else (
some (x16, m20)))) : Option (Int32 × Mem))) fun k18_6 =>
if z4 = true then (
k18_6 false m2) else (
k18_6 true m2)
def F_M_thrown (m0 : Mem) : Option (Int32 × Mem) :=
some (gI m0 78 0, m0)
def F_M_toss (a1 : Int32) (m0 : Mem) : Option (Int32 × Mem) :=
lt (sI m0 78 0 (0 : Int32)) fun m1 =>
bnd (F_M_noSide a1 m1) fun z4 m2 =>
bnd (F_M_throwsIf z4 (1 : Int32) m2) fun z7 m5 =>
if z7 = true then (
some ((0 : Int32), m5)) else (
bnd (F_M_firstSide m5) fun x10 m8 =>
lt (fun (z12 : Bool) (m11 : Mem) => ((bnd (F_M_throwsIf z12 (2 : Int32) m11) fun z15 m13 =>
if z15 = true then (
some ((0 : Int32), m13)) else (
bnd (F_M_remembers m13) fun _ m16 =>
lt (sI m16 79 10 a1) fun m19 =>
lt (sI m19 79 14 (1 : Int32)) fun m20 =>
bnd (F_M_levelOf (0 : Int32) (0 : Int32) a1 m20) fun x23 m21 =>
some (x23, m21))) : Option (Int32 × Mem))) fun k30_12 =>
if x10 < 0 then (
k30_12 false m8) else (
k30_12 true m8))
def F_M_turning_L34 (a1 : Bool) : Nat → Int32 → Int64 → Int32 → Mem → Option (Int32 × Mem)
  | 0, _, _, _, _ => none
  | nf14 + 1, x11, y12, x13, m10 =>
    if (4 : Int32) ≤ x13 then (
    some (x11, m10)) else (
    bnd (F_M_countsAfter x13 m10) fun _ m16 =>
    lt (fun (y20 : Int64) (m19 : Mem) => ((lt (fun (x22 : Int32) (y23 : Int64) (m21 : Mem) => ((lt (x13 + (1 : Int32) : Int32) fun x24 =>
    F_M_turning_L34 a1 nf14 x22 y23 x24 m21) : Option (Int32 × Mem))) fun k96_23 =>
    lt (fun (m25 : Mem) => ((k96_23 x13 y20 m25) : Option (Int32 × Mem))) fun k90_25 =>
    if x11 < 0 then (
    k90_25 m19) else (
    if y12 < y20 then (
    k90_25 m19) else (
    k96_23 x11 y12 m19))) : Option (Int32 × Mem))) fun k74_20 =>
    if a1 = true then (
    bnd (F_M_played m16) fun x34 m32 =>
    bnd (F_M_got (x34 + (1 : Int32)) m32) fun y37 m35 =>
    k74_20 (-y37) m35) else (
    bnd (F_M_played m16) fun x28 m26 =>
    bnd (F_M_got (x28 + (1 : Int32)) m26) fun y31 m29 =>
    k74_20 y31 m29))
def F_M_turning (a1 : Bool) (m0 : Mem) : Option (Int32 × Mem) :=
lt (sI m0 78 0 (0 : Int32)) fun m1 =>
bnd (F_M_isOn m1) fun z4 m2 =>
lt (fun (z6 : Bool) (m5 : Mem) => ((bnd (F_M_throwsIf z6 (1 : Int32) m5) fun z9 m7 =>
if z9 = true then (
some ((0 : Int32), m7)) else (
F_M_turning_L34 a1 1000000 (-1 : Int32) (0 : Int64) (0 : Int32) m7)) : Option (Int32 × Mem))) fun k18_6 =>
if z4 = true then (
k18_6 false m2) else (
k18_6 true m2)
def F_M_turnover_L55 (a1 : Int32) (a2 : Int32) : Nat → Int32 → Mem → Option (Int32 × Mem)
  | 0, _, _ => none
  | nf22 + 1, x21, m20 =>
    if x21 < 0 then (
    some (x21, m20)) else (
    bnd (F_M_isChosen a1 (4 : Int32) a2 (-x21) m20) fun z26 m24 =>
    if z26 = true then (
    lt (x21 + (-1 : Int32) : Int32) fun x27 =>
    F_M_turnover_L55 a1 a2 nf22 x27 m24) else (
    some (x21, m24)))
def F_M_turnover (a1 : Int32) (a2 : Int32) (m0 : Mem) : Option (Int32 × Mem) :=
lt (sI m0 78 0 (0 : Int32)) fun m1 =>
bnd (F_M_noPlayed a1 m1) fun z4 m2 =>
bnd (F_M_throwsIf z4 (1 : Int32) m2) fun z7 m5 =>
if z7 = true then (
some ((0 : Int32), m5)) else (
bnd (F_M_noState (0 : Int32) a2 m5) fun z10 m8 =>
bnd (F_M_throwsIf z10 (2 : Int32) m8) fun z13 m11 =>
if z13 = true then (
some ((0 : Int32), m11)) else (
bnd (F_M_size m11) fun x16 m14 =>
if a1 = x16 then (
some ((81 : Int32), m14)) else (
bnd (F_M_countsFrom a1 (81 : Int32) m14) fun _ m17 =>
F_M_turnover_L55 a1 a2 1000000 (81 : Int32) m17)))
def F_M_undo_L26  : Nat → Int32 → Mem → Option (Bool × Mem)
  | 0, _, _ => none
  | nf5 + 1, x4, m3 =>
    if (298 : Int32) ≤ x4 then (
    some (true, m3)) else (
    ckB (inb (((298 : Int32) * (gI m3 78 6)) + x4) 3576) <|
    lt (gI m3 82 (((298 : Int32) * (gI m3 78 6)) + x4).toNatClampNeg) fun x8 =>
    ckB (inb x4 1972) <|
    lt (sI m3 79 x4.toNatClampNeg x8) fun m9 =>
    lt (x4 + (1 : Int32) : Int32) fun x11 =>
    F_M_undo_L26 nf5 x11 m9)
def F_M_undo (m0 : Mem) : Option (Bool × Mem) :=
lt (sI m0 78 0 (0 : Int32)) fun m1 =>
if (gI m1 78 6) = 0 then (
some (false, m1)) else (
lt (sI m1 78 6 ((gI m1 78 6) - (1 : Int32))) fun m2 =>
F_M_undo_L26 1000000 (0 : Int32) m2)
def F_M_well_L41  : Nat → Int32 → Int32 → Mem → Option (Int32 × Mem)
  | 0, _, _, _ => none
  | nf6 + 1, x4, x5, m3 =>
    if (gI m3 79 5) ≤ x5 then (
    some (x4, m3)) else (
    bnd (F_M_ofBook x5 (0 : Int32) m3) fun x10 m8 =>
    ckB (inb x10 2) <|
    lt (gL m8 89 x10.toNatClampNeg) fun y12 =>
    lt (fun (z14 : Bool) (m13 : Mem) => ((lt (x4 + (b2i z14) : Int32) fun x15 =>
    lt (x5 + (1 : Int32) : Int32) fun x16 =>
    F_M_well_L41 nf6 x15 x16 m13) : Option (Int32 × Mem))) fun k109_14 =>
    lt (fun (m17 : Mem) => ((k109_14 true m17) : Option (Int32 × Mem))) fun k104_17 =>
    if y12 = (0 : Int64) then (
    k104_17 m8) else (
    lt (fun (z19 : Bool) (m18 : Mem) => ((bnd (F_M_ofBook x5 (1 : Int32) m18) fun x22 m20 =>
    bnd (F_M_ofBook x5 (0 : Int32) m20) fun x25 m23 =>
    lt (fun (z27 : Bool) (m26 : Mem) => ((if (b2i z19) = (b2i z27) then (
    k104_17 m26) else (
    k109_14 false m26)) : Option (Int32 × Mem))) fun k101_27 =>
    if x22 = x25 then (
    k101_27 true m23) else (
    k101_27 false m23)) : Option (Int32 × Mem))) fun k81_19 =>
    if y12 ≤ (0 : Int64) then (
    k81_19 false m8) else (
    k81_19 true m8)))
def F_M_well_L7 (k37_2 : Mem → Option (Int32 × Mem)) : Nat → Int32 → Mem → Option (Int32 × Mem)
  | 0, _, _ => none
  | nf30 + 1, x29, m28 =>
    if (2 : Int32) ≤ x29 then (
    k37_2 m28) else (
    bnd (F_M_tossWorth x29 true m28) fun y34 m32 =>
    bnd (F_M_tossWorth x29 false m32) fun y37 m35 =>
    ckB (inb x29 2) <|
    lt (sL m35 89 x29.toNatClampNeg (y34 - y37)) fun m38 =>
    lt (x29 + (1 : Int32) : Int32) fun x40 =>
    F_M_well_L7 k37_2 nf30 x40 m38)
def F_M_well (m0 : Mem) : Option (Int32 × Mem) :=
lt (sI m0 78 0 (0 : Int32)) fun m1 =>
lt (fun (m2 : Mem) => ((F_M_well_L41 1000000 (0 : Int32) (0 : Int32) m2) : Option (Int32 × Mem))) fun k37_2 =>
F_M_well_L7 k37_2 1000000 (0 : Int32) m1
def F_M_when_L55 (a1 : Int32) (a2 : Int32) (k78_21 : Int32 → Mem → Option (Int32 × Mem)) : Nat → Int32 → Mem → Option (Int32 × Mem)
  | 0, _, _ => none
  | nf24 + 1, x23, m22 =>
    if (81 : Int32) < x23 then (
    k78_21 x23 m22) else (
    bnd (F_M_isChosen a1 (2 : Int32) a2 x23 m22) fun z28 m26 =>
    if z28 = true then (
    k78_21 x23 m26) else (
    lt (x23 + (1 : Int32) : Int32) fun x29 =>
    F_M_when_L55 a1 a2 k78_21 nf24 x29 m26))
def F_M_when (a1 : Int32) (a2 : Int32) (m0 : Mem) : Option (Int32 × Mem) :=
lt (sI m0 78 0 (0 : Int32)) fun m1 =>
bnd (F_M_noPlayed a1 m1) fun z4 m2 =>
bnd (F_M_throwsIf z4 (1 : Int32) m2) fun z7 m5 =>
if z7 = true then (
some ((0 : Int32), m5)) else (
bnd (F_M_noState (0 : Int32) a2 m5) fun z10 m8 =>
bnd (F_M_throwsIf z10 (2 : Int32) m8) fun z13 m11 =>
if z13 = true then (
some ((0 : Int32), m11)) else (
bnd (F_M_size m11) fun x16 m14 =>
if a1 = x16 then (
some ((-99 : Int32), m14)) else (
bnd (F_M_countsFrom a1 (81 : Int32) m14) fun _ m17 =>
lt (fun (x21 : Int32) (m20 : Mem) => ((if x21 ≤ (81 : Int32) then (
some (x21, m20)) else (
some ((-99 : Int32), m20))) : Option (Int32 × Mem))) fun k78_21 =>
F_M_when_L55 a1 a2 k78_21 1000000 (-81 : Int32) m17)))
def F_M_wins (a1 : Int32) (a2 : Int32) (a3 : Bool) (a4 : Int32) (a5 : Int32) (a6 : Int32) (m0 : Mem) : Option (Int64 × Mem) :=
lt (sI m0 78 0 (0 : Int32)) fun m1 =>
bnd (F_M_noPlayed a1 m1) fun z4 m2 =>
lt (fun (z6 : Bool) (m5 : Mem) => ((bnd (F_M_throwsIf z6 (1 : Int32) m5) fun z9 m7 =>
if z9 = true then (
some ((0 : Int64), m7)) else (
bnd (F_M_noState a4 a5 m7) fun z12 m10 =>
bnd (F_M_throwsIf z12 (2 : Int32) m10) fun z15 m13 =>
if z15 = true then (
some ((0 : Int64), m13)) else (
bnd (F_M_in a6 (0 : Int32) (2 : Int32) m13) fun z18 m16 =>
lt (fun (z20 : Bool) (m19 : Mem) => ((bnd (F_M_throwsIf z20 (3 : Int32) m19) fun z23 m21 =>
if z23 = true then (
some ((0 : Int64), m21)) else (
bnd (F_M_countsFrom a1 a4 m21) fun _ m24 =>
lt (sI m24 78 23 (0 : Int32)) fun m27 =>
lt (sI m27 78 24 (0 : Int32)) fun m28 =>
bnd (F_M_size m28) fun x31 m29 =>
lt (fun (m32 : Mem) => ((bnd (F_M_waysOf a6 a1 (0 : Int32) m32) fun y35 m33 =>
some (y35, m33)) : Option (Int64 × Mem))) fun k113_32 =>
if x31 ≤ a1 then (
k113_32 m29) else (
bnd (F_M_kindOf a2 a3 m29) fun x38 m36 =>
bnd (F_M_takes a1 x38 a5 a4 m36) fun _ m39 =>
k113_32 m39))) : Option (Int64 × Mem))) fun k65_20 =>
if z18 = true then (
k65_20 false m16) else (
k65_20 true m16)))) : Option (Int64 × Mem))) fun k26_6 =>
lt (fun (m42 : Mem) => ((k26_6 true m42) : Option (Int64 × Mem))) fun k21_42 =>
if z4 = true then (
k21_42 m2) else (
bnd (F_M_noInnings a2 m2) fun z45 m43 =>
if z45 = true then (
k21_42 m43) else (
k26_6 false m43))
def F_M_worth (a1 : Int32) (a2 : Int32) (m0 : Mem) : Option (Int64 × Mem) :=
lt (sI m0 78 0 (0 : Int32)) fun m1 =>
bnd (F_M_noSide a1 m1) fun z4 m2 =>
bnd (F_M_throwsIf z4 (1 : Int32) m2) fun z7 m5 =>
if z7 = true then (
some ((0 : Int64), m5)) else (
bnd (F_M_in a2 (0 : Int32) (3 : Int32) m5) fun z10 m8 =>
lt (fun (z12 : Bool) (m11 : Mem) => ((bnd (F_M_throwsIf z12 (2 : Int32) m11) fun z15 m13 =>
if z15 = true then (
some ((0 : Int64), m13)) else (
if a2 = 0 then (
bnd (F_M_tossWorth a1 true m13) fun y18 m16 =>
some (y18, m16)) else (
if a2 = 1 then (
bnd (F_M_tossWorth a1 false m13) fun y21 m19 =>
some (y21, m19)) else (
if a2 = 2 then (
bnd (F_M_tossWorth a1 true m13) fun y24 m22 =>
bnd (F_M_tossWorth a1 false m22) fun y27 m25 =>
some (abL (y24 - y27), m25)) else (
bnd (F_M_leftTo a1 m13) fun y30 m28 =>
some (y30, m28)))))) : Option (Int64 × Mem))) fun k32_12 =>
if z10 = true then (
k32_12 false m8) else (
k32_12 true m8))
