def F_GT_readSide (m0 : Mem) : Option (Unit × Mem) :=
bnd (F_Tx_numberG (0 : Int32) (1 : Int32) m0) fun x3 m1 =>
bnd (F_Tx_mustTakeG ("bat") m1) fun _ m4 =>
bnd (F_Tx_numberG (0 : Int32) (9 : Int32) m4) fun x9 m7 =>
bnd (F_Tx_mustTakeG ("bowl") m7) fun _ m10 =>
bnd (F_Tx_numberG (0 : Int32) (9 : Int32) m10) fun x15 m13 =>
bnd (F_GT_keep (1 : Int32) x3 x9 x15 (0 : Int32) m13) fun _ m16 =>
some ((), m16)
def F_GT_readLine (m0 : Mem) : Option (Unit × Mem) :=
lt (fun (m1 : Mem) => ((bnd (F_Tx_takesWordG ("side") m1) fun z4 m2 =>
if z4 = true then (
bnd (F_GT_readSide m2) fun _ m66 =>
some ((), m66)) else (
bnd (F_Tx_takesWordG ("slot") m2) fun z7 m5 =>
if z7 = true then (
bnd (F_GT_readSlot m5) fun _ m63 =>
some ((), m63)) else (
bnd (F_Tx_takesWordG ("cloud") m5) fun z10 m8 =>
if z10 = true then (
bnd (F_GT_readBits m8) fun x59 m57 =>
bnd (F_GT_keep (3 : Int32) x59 (0 : Int32) (0 : Int32) (0 : Int32) m57) fun _ m60 =>
some ((), m60)) else (
bnd (F_Tx_takesWordG ("tide") m8) fun z13 m11 =>
if z13 = true then (
bnd (F_GT_readBits m11) fun x53 m51 =>
bnd (F_GT_keep (4 : Int32) x53 (0 : Int32) (0 : Int32) (0 : Int32) m51) fun _ m54 =>
some ((), m54)) else (
bnd (F_Tx_takesWordG ("rain") m11) fun z16 m14 =>
if z16 = true then (
bnd (F_GT_readBits m14) fun x47 m45 =>
bnd (F_GT_keep (5 : Int32) x47 (0 : Int32) (0 : Int32) (0 : Int32) m45) fun _ m48 =>
some ((), m48)) else (
bnd (F_Tx_takesWordG ("margin") m14) fun z19 m17 =>
if z19 = true then (
bnd (F_Tx_numberG (0 : Int32) (99 : Int32) m17) fun x41 m39 =>
bnd (F_GT_keep (6 : Int32) x41 (0 : Int32) (0 : Int32) (0 : Int32) m39) fun _ m42 =>
some ((), m42)) else (
bnd (F_Tx_takesWordG ("drawworth") m17) fun z22 m20 =>
if z22 = true then (
bnd (F_Tx_numberG (0 : Int32) (100 : Int32) m20) fun x35 m33 =>
bnd (F_GT_keep (7 : Int32) x35 (0 : Int32) (0 : Int32) (0 : Int32) m33) fun _ m36 =>
some ((), m36)) else (
lt (fun (m23 : Mem) => ((bnd (F_Tx_setWrongG m23) fun _ m24 =>
some ((), m24)) : Option (Unit × Mem))) fun k219_23 =>
if (60 : Int32) ≤ (gI m20 46 9) then (
k219_23 m20) else (
bnd (F_Tx_takesWordG ("book") m20) fun z29 m27 =>
if z29 = true then (
bnd (F_GT_readBook m27) fun _ m30 =>
some ((), m30)) else (
k219_23 m27)))))))))) : Option (Unit × Mem))) fun k34_1 =>
if (gZ m0 46 10) = true then (
bnd (F_Tx_takesWordG ("sessions") m0) fun z71 m69 =>
if z71 = true then (
bnd (F_Tx_numberG (1 : Int32) (9 : Int32) m69) fun x74 m72 =>
bnd (F_GT_keep (0 : Int32) x74 (0 : Int32) (0 : Int32) (0 : Int32) m72) fun _ m75 =>
some ((), m75)) else (
k34_1 m69)) else (
k34_1 m0)
def F_Tx_takesSignG (a1 : Int32) (m0 : Mem) : Option (Bool × Mem) :=
bnd (F_Tx_isAtG (2 : Int32) m0) fun z3 m1 =>
if z3 = true then (
ckB (inb (gI m1 46 5) 401) <|
lt (gI m1 49 (gI m1 46 5).toNatClampNeg) fun x5 =>
bnd (F_Tx_byteAtG x5 m1) fun x8 m6 =>
if x8 = a1 then (
lt (sI m6 46 5 ((gI m6 46 5) + (1 : Int32))) fun m9 =>
some (true, m9)) else (
some (false, m6))) else (
some (false, m1))
def F_Tx_readLinesG_L40 (a3 : Int32) (k78_10 : Int32 → Mem → Option (Int32 × Mem)) (k91_14 : Mem → Option (Int32 × Mem)) : Nat → Int32 → Mem → Option (Int32 × Mem)
  | 0, _, _ => none
  | nf20 + 1, x19, m18 =>
    if a3 < x19 then (
    k91_14 m18) else (
    bnd (F_GT_readLine m18) fun _ m22 =>
    if (gI m22 46 6) = (-1 : Int32) then (
    bnd (F_Tx_isAtG (3 : Int32) m22) fun z27 m25 =>
    if z27 = true then (
    some (x19, m25)) else (
    bnd (F_Tx_takesSignG (59 : Int32) m25) fun z30 m28 =>
    if z30 = true then (
    lt (x19 + (1 : Int32) : Int32) fun x31 =>
    F_Tx_readLinesG_L40 a3 k78_10 k91_14 nf20 x31 m28) else (
    k78_10 x19 m28))) else (
    some (x19, m22)))
def F_Tx_readLinesG (a2 : Int32) (a3 : Int32) (m0 : Mem) : Option (Int32 × Mem) :=
bnd (F_Tx_cutG (mnI a2 (mnI (400 : Int32) (400 : Int32))) m0) fun _ m1 =>
lt (sI m1 46 5 (0 : Int32)) fun m4 =>
lt (sI m4 46 6 (-1 : Int32)) fun m5 =>
bnd (F_Tx_isAtG (3 : Int32) m5) fun z8 m6 =>
if z8 = true then (
some ((0 : Int32), m6)) else (
lt (fun (x10 : Int32) (m9 : Mem) => ((bnd (F_Tx_setWrongG m9) fun _ m11 =>
some (x10, m11)) : Option (Int32 × Mem))) fun k78_10 =>
lt (fun (m14 : Mem) => ((bnd (F_Tx_setWrongG m14) fun _ m15 =>
some (a3, m15)) : Option (Int32 × Mem))) fun k91_14 =>
F_Tx_readLinesG_L40 a3 k78_10 k91_14 1000000 (1 : Int32) m6)
def F_GT_readGround (a2 : Int32) (a3 : Bool) (a4 : Int32) (m0 : Mem) : Option (Int32 × Mem) :=
lt (sI m0 46 8 (0 : Int32)) fun m1 =>
lt (sI m1 46 9 a4) fun m2 =>
lt (sZ m2 46 10 a3) fun m3 =>
bnd (F_Tx_readLinesG a2 (14 : Int32) m3) fun x6 m4 =>
some (gI m4 46 6, m4)
def F_Gr_setSide (a1 : Int32) (a2 : Int32) (a3 : Int32) (m0 : Mem) : Option (Unit × Mem) :=
if a1 < 0 then (
some ((), m0)) else (
if (2 : Int32) ≤ a1 then (
some ((), m0)) else (
ckB (inb a1 2) <|
lt (sI m0 4 a1.toNatClampNeg a2) fun m1 =>
ckB (inb a1 2) <|
lt (sI m1 5 a1.toNatClampNeg a3) fun m3 =>
some ((), m3)))
def F_Gr_setSlot (a1 : Int32) (a2 : Int32) (a3 : Int32) (a4 : Int32) (m0 : Mem) : Option (Unit × Mem) :=
lt ((a1 * (4 : Int32)) + a2 : Int32) fun x1 =>
if x1 < 0 then (
some ((), m0)) else (
if (16 : Int32) ≤ x1 then (
some ((), m0)) else (
ckB (inb x1 16) <|
lt (sI m0 6 x1.toNatClampNeg a3) fun m2 =>
ckB (inb x1 16) <|
lt (sI m2 7 x1.toNatClampNeg a4) fun m4 =>
some ((), m4)))
def F_Bk_add (a1 : Int32) (a2 : Int32) (a3 : Int32) (m0 : Mem) : Option (Unit × Mem) :=
if (gI m0 12 0) < 0 then (
some ((), m0)) else (
if (60 : Int32) ≤ (gI m0 12 0) then (
some ((), m0)) else (
ckB (inb ((gI m0 12 0) * (3 : Int32)) 180) <|
lt (sI m0 13 ((gI m0 12 0) * (3 : Int32)).toNatClampNeg a1) fun m1 =>
ckB (inb (((gI m1 12 0) * (3 : Int32)) + (1 : Int32)) 180) <|
lt (sI m1 13 (((gI m1 12 0) * (3 : Int32)) + (1 : Int32)).toNatClampNeg a2) fun m3 =>
ckB (inb (((gI m3 12 0) * (3 : Int32)) + (2 : Int32)) 180) <|
lt (sI m3 13 (((gI m3 12 0) * (3 : Int32)) + (2 : Int32)).toNatClampNeg a3) fun m5 =>
lt (sI m5 12 0 ((gI m5 12 0) + (1 : Int32))) fun m7 =>
some ((), m7)))
def F_GT_tellLine (a2 : Int32) (m0 : Mem) : Option (Unit × Mem) :=
if a2 < 0 then (
some ((), m0)) else (
if (a2 + (5 : Int32)) ≤ (70 : Int32) then (
ckB (inb (a2 + (1 : Int32)) 70) <|
lt (gI m0 51 (a2 + (1 : Int32)).toNatClampNeg) fun x2 =>
ckB (inb (a2 + (2 : Int32)) 70) <|
lt (gI m0 51 (a2 + (2 : Int32)).toNatClampNeg) fun x4 =>
ckB (inb (a2 + (3 : Int32)) 70) <|
lt (gI m0 51 (a2 + (3 : Int32)).toNatClampNeg) fun x6 =>
ckB (inb a2 70) <|
lt (gI m0 51 a2.toNatClampNeg) fun x8 =>
if x8 = 0 then (
lt (sI m0 3 0 x2) fun m9 =>
some ((), m9)) else (
if x8 = 1 then (
bnd (F_Gr_setSide x2 x4 x6 m0) fun _ m10 =>
some ((), m10)) else (
if x8 = 2 then (
ckB (inb (a2 + (4 : Int32)) 70) <|
lt (gI m0 51 (a2 + (4 : Int32)).toNatClampNeg) fun x14 =>
bnd (F_Gr_setSlot x2 x4 x6 x14 m0) fun _ m15 =>
some ((), m15)) else (
if x8 = 3 then (
lt (sI m0 3 1 ((gI m0 3 1) ||| x2)) fun m18 =>
some ((), m18)) else (
if x8 = 4 then (
lt (sI m0 3 2 ((gI m0 3 2) ||| x2)) fun m19 =>
some ((), m19)) else (
if x8 = 5 then (
lt (sI m0 3 3 ((gI m0 3 3) ||| x2)) fun m20 =>
some ((), m20)) else (
if x8 = 6 then (
lt (sI m0 3 4 x2) fun m21 =>
some ((), m21)) else (
if x8 = 7 then (
lt (sI m0 3 5 x2) fun m22 =>
some ((), m22)) else (
bnd (F_Bk_add x2 x4 x6 m0) fun _ m23 =>
some ((), m23)))))))))) else (
some ((), m0)))
def F_GT_tell_L2  : Nat → Int32 → Mem → Option (Unit × Mem)
  | 0, _, _ => none
  | nf3 + 1, x2, m1 =>
    if (gI m1 46 8) ≤ x2 then (
    some ((), m1)) else (
    if (14 : Int32) ≤ x2 then (
    some ((), m1)) else (
    bnd (F_GT_tellLine (x2 * (5 : Int32)) m1) fun _ m5 =>
    lt (x2 + (1 : Int32) : Int32) fun x8 =>
    F_GT_tell_L2 nf3 x8 m5))
def F_GT_tell (m0 : Mem) : Option (Unit × Mem) :=
F_GT_tell_L2 1000000 (0 : Int32) m0
def F_T_ground (m0 : Mem) : Option ((Nat ⊕ Int32) × Mem) :=
bnd (F_T_useTape m0) fun x3 m1 =>
lt (fun (z5 : Bool) (m4 : Mem) => ((bnd (F_GT_readGround x3 z5 (gI m4 12 0) m4) fun x8 m6 =>
lt (sI m6 0 2 x8) fun m9 =>
if (gI m9 0 2) = (-1 : Int32) then (
if (gI m9 3 6) < (12 : Int32) then (
bnd (F_GT_tell m9) fun _ m10 =>
lt (sI m10 3 6 ((gI m10 3 6) + (1 : Int32))) fun m13 =>
bnd (F_T_startAfresh m13) fun _ m14 =>
some (.inr (gI m14 3 6), m14)) else (
some (.inl 3, m9))) else (
some (.inl 1, m9))) : Option ((Nat ⊕ Int32) × Mem))) fun k29_5 =>
if (gI m1 16 0) = (-1 : Int32) then (
k29_5 true m1) else (
k29_5 false m1)
def F_T_habit (a1 : Bool) (m0 : Mem) : Option (Bool × Mem) :=
bnd (F_Bk_tally (0 : Int32) m0) fun x3 m1 =>
if a1 = true then (
bnd (F_Bk_tally (3 : Int32) m1) fun x9 m7 =>
bnd (F_Bk_tally (5 : Int32) m7) fun x12 m10 =>
if x9 = ((x3 - x12) - x9) then (
some (true, m10)) else (
some (false, m10))) else (
if x3 ≤ 0 then (
some (false, m1)) else (
bnd (F_Bk_tally (1 : Int32) m1) fun x6 m4 =>
if (x6 * (10 : Int32)) < (x3 * (9 : Int32)) then (
some (false, m4)) else (
some (true, m4))))
def F_T_hardest_L20 (a1 : Int32) (a2 : Int32) : Nat → Int32 → Int32 → Int32 → Mem → Option ((Nat ⊕ Int32) × Mem)
  | 0, _, _, _, _ => none
  | nf11 + 1, x8, x9, x10, m7 =>
    if (gI m7 3 0) ≤ x10 then (
    some (.inr x8, m7)) else (
    bnd (F_Gr_levelOf x10 a1 a2 m7) fun x15 m13 =>
    lt (fun (x17 : Int32) (x18 : Int32) (m16 : Mem) => ((lt (x10 + (1 : Int32) : Int32) fun x19 =>
    F_T_hardest_L20 a1 a2 nf11 x17 x18 x19 m16) : Option ((Nat ⊕ Int32) × Mem))) fun k59_18 =>
    if x15 ≤ x9 then (
    k59_18 x8 x9 m13) else (
    k59_18 x10 x15 m13))
def F_T_hardest (a1 : Int32) (a2 : Int32) (m0 : Mem) : Option ((Nat ⊕ Int32) × Mem) :=
bndX (F_T_mustBeBelow a1 (4 : Int32) m0) fun _ m1 =>
bndX (F_T_mustBeBelow a2 (2 : Int32) m1) fun _ m4 =>
F_T_hardest_L20 a1 a2 1000000 (0 : Int32) (-1 : Int32) (0 : Int32) m4
def F_T_here (a1 : Int32) (m0 : Mem) : Option ((Nat ⊕ Int64) × Mem) :=
bndX (F_T_oddsFromHere a1 false m0) fun y3 m1 =>
some (.inr y3, m1)
def F_T_mustBeChase (m0 : Mem) : Option ((Nat ⊕ Unit) × Mem) :=
bnd (F_Ma_isOn m0) fun z3 m1 =>
lt (fun (m4 : Mem) => ((some (.inl 0, m4)) : Option ((Nat ⊕ Unit) × Mem))) fun k21_4 =>
if z3 = true then (
if (gI m1 16 1) = (3 : Int32) then (
some (.inr (), m1)) else (
k21_4 m1)) else (
k21_4 m1)
def F_T_hold (a1 : Int32) (m0 : Mem) : Option ((Nat ⊕ Int32) × Mem) :=
bndX (F_T_mustBeBelow a1 (4 : Int32) m0) fun _ m1 =>
bndX (F_T_mustBeChase m1) fun _ m4 =>
bnd (F_Pa_remember m4) fun _ m7 =>
bnd (F_Ma_batting m7) fun x12 m10 =>
bnd (F_Ma_playSession a1 true m10) fun _ m13 =>
bnd (F_Ma_leadOf x12 m13) fun x18 m16 =>
some (.inr x18, m16)
def F_T_holds (a1 : Int32) (a2 : Bool) (a3 : Int32) (a4 : Int32) (m0 : Mem) : Option ((Nat ⊕ Bool) × Mem) :=
bndX (F_T_mustBeState a1 (3 : Int32) a3 a4 m0) fun _ m1 =>
bnd (F_Od_ready (0 : Int32) (gI m1 3 5) false m1) fun _ m4 =>
bnd (F_Od_kindOf (3 : Int32) a2 m4) fun x9 m7 =>
bnd (F_Od_choosesTold a1 x9 a3 a4 m7) fun z12 m10 =>
some (.inr z12, m10)
def F_Lw_copyFrom_2_L18  : Nat → Int32 → Mem → Option (Unit × Mem)
  | 0, _, _ => none
  | nf5 + 1, x4, m3 =>
    if (400 : Int32) ≤ x4 then (
    some ((), m3)) else (
    ckB (inb x4 400) <|
    lt (gI m3 9 x4.toNatClampNeg) fun x8 =>
    ckB (inb x4 400) <|
    lt (sI m3 70 x4.toNatClampNeg x8) fun m9 =>
    lt (x4 + (1 : Int32) : Int32) fun x11 =>
    F_Lw_copyFrom_2_L18 nf5 x11 m9)
def F_Lw_copyFrom_2 (m0 : Mem) : Option (Unit × Mem) :=
lt (sI m0 69 0 (gI m0 8 0)) fun m1 =>
lt (sI m1 69 1 (gI m1 8 1)) fun m2 =>
F_Lw_copyFrom_2_L18 1000000 (0 : Int32) m2
def F_Bk_copyFrom_2_L10  : Nat → Int32 → Mem → Option (Unit × Mem)
  | 0, _, _ => none
  | nf4 + 1, x3, m2 =>
    if (180 : Int32) ≤ x3 then (
    some ((), m2)) else (
    ckB (inb x3 180) <|
    lt (gI m2 13 x3.toNatClampNeg) fun x7 =>
    ckB (inb x3 180) <|
    lt (sI m2 74 x3.toNatClampNeg x7) fun m8 =>
    lt (x3 + (1 : Int32) : Int32) fun x10 =>
    F_Bk_copyFrom_2_L10 nf4 x10 m8)
def F_Bk_copyFrom_2 (m0 : Mem) : Option (Unit × Mem) :=
lt (sI m0 73 0 (gI m0 12 0)) fun m1 =>
F_Bk_copyFrom_2_L10 1000000 (0 : Int32) m1
def F_Gr_copyFrom_2_L95 (k131_9 : Mem → Option (Unit × Mem)) : Nat → Int32 → Mem → Option (Unit × Mem)
  | 0, _, _ => none
  | nf18 + 1, x17, m16 =>
    if (16 : Int32) ≤ x17 then (
    k131_9 m16) else (
    ckB (inb x17 16) <|
    lt (gI m16 6 x17.toNatClampNeg) fun x21 =>
    ckB (inb x17 16) <|
    lt (sI m16 67 x17.toNatClampNeg x21) fun m22 =>
    ckB (inb x17 16) <|
    lt (gI m22 7 x17.toNatClampNeg) fun x25 =>
    ckB (inb x17 16) <|
    lt (sI m22 68 x17.toNatClampNeg x25) fun m26 =>
    lt (x17 + (1 : Int32) : Int32) fun x28 =>
    F_Gr_copyFrom_2_L95 k131_9 nf18 x28 m26)
def F_Gr_copyFrom_2_L58 (k93_8 : Mem → Option (Unit × Mem)) : Nat → Int32 → Mem → Option (Unit × Mem)
  | 0, _, _ => none
  | nf31 + 1, x30, m29 =>
    if (2 : Int32) ≤ x30 then (
    k93_8 m29) else (
    ckB (inb x30 2) <|
    lt (gI m29 4 x30.toNatClampNeg) fun x34 =>
    ckB (inb x30 2) <|
    lt (sI m29 65 x30.toNatClampNeg x34) fun m35 =>
    ckB (inb x30 2) <|
    lt (gI m35 5 x30.toNatClampNeg) fun x38 =>
    ckB (inb x30 2) <|
    lt (sI m35 66 x30.toNatClampNeg x38) fun m39 =>
    lt (x30 + (1 : Int32) : Int32) fun x41 =>
    F_Gr_copyFrom_2_L58 k93_8 nf31 x41 m39)
def F_Gr_copyFrom_2 (m0 : Mem) : Option (Unit × Mem) :=
lt (sI m0 64 0 (gI m0 3 0)) fun m1 =>
lt (sI m1 64 1 (gI m1 3 1)) fun m2 =>
lt (sI m2 64 2 (gI m2 3 2)) fun m3 =>
lt (sI m3 64 3 (gI m3 3 3)) fun m4 =>
lt (sI m4 64 4 (gI m4 3 4)) fun m5 =>
lt (sI m5 64 5 (gI m5 3 5)) fun m6 =>
lt (sI m6 64 6 (gI m6 3 6)) fun m7 =>
lt (fun (m8 : Mem) => ((lt (fun (m9 : Mem) => ((bnd (F_Lw_copyFrom_2 m9) fun _ m10 =>
bnd (F_Bk_copyFrom_2 m10) fun _ m13 =>
some ((), m13)) : Option (Unit × Mem))) fun k131_9 =>
F_Gr_copyFrom_2_L95 k131_9 1000000 (0 : Int32) m8) : Option (Unit × Mem))) fun k93_8 =>
F_Gr_copyFrom_2_L58 k93_8 1000000 (0 : Int32) m7
def F_Ma_copyFrom_3_L82  : Nat → Int32 → Mem → Option (Unit × Mem)
  | 0, _, _ => none
  | nf13 + 1, x12, m11 =>
    if (63 : Int32) ≤ x12 then (
    some ((), m11)) else (
    ckB (inb x12 63) <|
    lt (gI m11 17 x12.toNatClampNeg) fun x16 =>
    ckB (inb x12 63) <|
    lt (sI m11 77 x12.toNatClampNeg x16) fun m17 =>
    lt (x12 + (1 : Int32) : Int32) fun x19 =>
    F_Ma_copyFrom_3_L82 nf13 x19 m17)
def F_Ma_copyFrom_3 (m0 : Mem) : Option (Unit × Mem) :=
lt (sI m0 76 0 (gI m0 16 0)) fun m1 =>
lt (sI m1 76 1 (gI m1 16 1)) fun m2 =>
lt (sI m2 76 2 (gI m2 16 2)) fun m3 =>
lt (sI m3 76 3 (gI m3 16 3)) fun m4 =>
lt (sI m4 76 4 (gI m4 16 4)) fun m5 =>
lt (sZ m5 76 5 (gZ m5 16 5)) fun m6 =>
lt (sZ m6 76 6 (gZ m6 16 6)) fun m7 =>
lt (sI m7 76 7 (gI m7 16 7)) fun m8 =>
lt (sI m8 76 8 (gI m8 16 8)) fun m9 =>
lt (sI m9 76 9 (gI m9 16 9)) fun m10 =>
F_Ma_copyFrom_3_L82 1000000 (0 : Int32) m10
def F_T_image (m0 : Mem) : Option (Unit × Mem) :=
bnd (F_Gr_copyFrom_2 m0) fun _ m1 =>
bnd (F_Ma_copyFrom_3 m1) fun _ m4 =>
lt (sZ m4 0 13 true) fun m7 =>
some ((), m7)
def F_Tx_addThingL (a1 : Int32) (a2 : Int32) (a3 : Int32) (m0 : Mem) : Option (Unit × Mem) :=
if (gI m0 52 4) < 0 then (
some ((), m0)) else (
if (400 : Int32) < (gI m0 52 4) then (
some ((), m0)) else (
ckB (inb (gI m0 52 4) 401) <|
lt (sI m0 54 (gI m0 52 4).toNatClampNeg a1) fun m1 =>
ckB (inb (gI m1 52 4) 401) <|
lt (sI m1 55 (gI m1 52 4).toNatClampNeg a2) fun m3 =>
ckB (inb (gI m3 52 4) 401) <|
lt (sI m3 56 (gI m3 52 4).toNatClampNeg a3) fun m5 =>
lt (sI m5 52 4 ((gI m5 52 4) + (1 : Int32))) fun m7 =>
some ((), m7)))
def F_Tx_cutL_L34 (a2 : Int32) (x19 : Int32) (k75_21 : Int32 → Mem → Option (Unit × Mem)) : Nat → Int32 → Mem → Option (Unit × Mem)
  | 0, _, _ => none
  | nf30 + 1, x29, m28 =>
    if x19 = (2 : Int32) then (
    k75_21 x29 m28) else (
    if a2 ≤ x29 then (
    k75_21 x29 m28) else (
    ckB (inb x29 400) <|
    lt (gI m28 1 x29.toNatClampNeg) fun x33 =>
    bnd (F_Tx_kindOf x33 m28) fun x36 m34 =>
    if x36 = x19 then (
    ckB (inb x29 400) <|
    lt (gI m34 1 x29.toNatClampNeg) fun x38 =>
    ckB (inb x29 400) <|
    lt (sI m34 53 x29.toNatClampNeg x38) fun m39 =>
    lt (x29 + (1 : Int32) : Int32) fun x41 =>
    F_Tx_cutL_L34 a2 x19 k75_21 nf30 x41 m39) else (
    k75_21 x29 m34)))
def F_Tx_cutL_L7 (a2 : Int32) (k98_2 : Mem → Option (Unit × Mem)) : Nat → Int32 → Mem → Option (Unit × Mem)
  | 0, _, _ => none
  | nf8 + 1, x7, m6 =>
    if a2 ≤ x7 then (
    k98_2 m6) else (
    ckB (inb x7 400) <|
    lt (gI m6 1 x7.toNatClampNeg) fun x11 =>
    ckB (inb x7 400) <|
    lt (sI m6 53 x7.toNatClampNeg x11) fun m12 =>
    lt (x7 + (1 : Int32) : Int32) fun x14 =>
    ckB (inb x7 400) <|
    lt (gI m12 1 x7.toNatClampNeg) fun x16 =>
    bnd (F_Tx_kindOf x16 m12) fun x19 m17 =>
    lt (fun (x21 : Int32) (m20 : Mem) => ((ckB (inb x7 400) <|
    lt (gI m20 1 x7.toNatClampNeg) fun x23 =>
    lt (fun (m24 : Mem) => ((F_Tx_cutL_L7 a2 k98_2 nf8 x21 m24) : Option (Unit × Mem))) fun k92_24 =>
    if x23 = (32 : Int32) then (
    k92_24 m20) else (
    bnd (F_Tx_addThingL x19 x7 x21 m20) fun _ m25 =>
    k92_24 m25)) : Option (Unit × Mem))) fun k75_21 =>
    F_Tx_cutL_L34 a2 x19 k75_21 1000000 x14 m17)
def F_Tx_cutL (a2 : Int32) (m0 : Mem) : Option (Unit × Mem) :=
lt (sI m0 52 4 (0 : Int32)) fun m1 =>
lt (fun (m2 : Mem) => ((bnd (F_Tx_addThingL (3 : Int32) (mxI (0 : Int32) a2) (mxI (0 : Int32) a2) m2) fun _ m3 =>
some ((), m3)) : Option (Unit × Mem))) fun k98_2 =>
F_Tx_cutL_L7 a2 k98_2 1000000 (0 : Int32) m1
def F_Tx_isAtL (a1 : Int32) (m0 : Mem) : Option (Bool × Mem) :=
if (gI m0 52 6) = (-1 : Int32) then (
if (gI m0 52 5) < 0 then (
some (false, m0)) else (
if (gI m0 52 4) ≤ (gI m0 52 5) then (
some (false, m0)) else (
if (400 : Int32) < (gI m0 52 5) then (
some (false, m0)) else (
ckB (inb (gI m0 52 5) 401) <|
lt (gI m0 54 (gI m0 52 5).toNatClampNeg) fun x2 =>
if x2 = a1 then (
some (true, m0)) else (
some (false, m0)))))) else (
some (false, m0))
def F_Tx_setWrongL (m0 : Mem) : Option (Unit × Mem) :=
if (gI m0 52 6) = (-1 : Int32) then (
if (gI m0 52 5) < 0 then (
some ((), m0)) else (
if (400 : Int32) < (gI m0 52 5) then (
some ((), m0)) else (
ckB (inb (gI m0 52 5) 401) <|
lt (gI m0 55 (gI m0 52 5).toNatClampNeg) fun x2 =>
lt (sI m0 52 6 x2) fun m3 =>
some ((), m3)))) else (
some ((), m0))
def F_Tx_byteAtL (a1 : Int32) (m0 : Mem) : Option (Int32 × Mem) :=
if a1 < 0 then (
some ((-1 : Int32), m0)) else (
if a1 < (400 : Int32) then (
ckB (inb a1 400) <|
lt (gI m0 53 a1.toNatClampNeg) fun x2 =>
some (x2, m0)) else (
some ((-1 : Int32), m0)))
def F_Tx_takesWordL_L38 (tx1 : String) (k77_8 : Mem → Option (Bool × Mem)) : Nat → Int32 → Mem → Option (Bool × Mem)
  | 0, _, _ => none
  | nf12 + 1, x11, m10 =>
    if (nI tx1.length) ≤ x11 then (
    k77_8 m10) else (
    ckB (inb (gI m10 52 5) 401) <|
    lt (gI m10 55 (gI m10 52 5).toNatClampNeg) fun x15 =>
    bnd (F_Tx_byteAtL (x15 + x11) m10) fun x18 m16 =>
    ckB (inb x11 tx1.length) <|
    if x18 = (txB tx1 x11.toNatClampNeg) then (
    lt (x11 + (1 : Int32) : Int32) fun x20 =>
    F_Tx_takesWordL_L38 tx1 k77_8 nf12 x20 m16) else (
    some (false, m16)))
def F_Tx_takesWordL (tx1 : String) (m0 : Mem) : Option (Bool × Mem) :=
bnd (F_Tx_isAtL (0 : Int32) m0) fun z3 m1 =>
if z3 = true then (
ckB (inb (gI m1 52 5) 401) <|
lt (gI m1 56 (gI m1 52 5).toNatClampNeg) fun x5 =>
ckB (inb (gI m1 52 5) 401) <|
lt (gI m1 55 (gI m1 52 5).toNatClampNeg) fun x7 =>
if (x5 - x7) = (nI tx1.length) then (
lt (fun (m8 : Mem) => ((lt (sI m8 52 5 ((gI m8 52 5) + (1 : Int32))) fun m9 =>
some (true, m9)) : Option (Bool × Mem))) fun k77_8 =>
F_Tx_takesWordL_L38 tx1 k77_8 1000000 (0 : Int32) m1) else (
some (false, m1))) else (
some (false, m1))
def F_Tx_mustTakeL (tx1 : String) (m0 : Mem) : Option (Unit × Mem) :=
bnd (F_Tx_takesWordL tx1 m0) fun z3 m1 =>
if z3 = true then (
some ((), m1)) else (
bnd (F_Tx_setWrongL m1) fun _ m4 =>
some ((), m4))
def F_Tx_numberL_L27 (k78_7 : Int32 → Mem → Option (Int32 × Mem)) : Nat → Int32 → Int32 → Mem → Option (Int32 × Mem)
  | 0, _, _, _ => none
  | nf20 + 1, x18, x19, m17 =>
    ckB (inb (gI m17 52 5) 401) <|
    lt (gI m17 56 (gI m17 52 5).toNatClampNeg) fun x23 =>
    if x23 ≤ x19 then (
    k78_7 x18 m17) else (
    ckB (inb (gI m17 52 5) 401) <|
    lt (gI m17 55 (gI m17 52 5).toNatClampNeg) fun x25 =>
    if (x25 + (3 : Int32)) ≤ x19 then (
    k78_7 x18 m17) else (
    bnd (F_Tx_byteAtL x19 m17) fun x28 m26 =>
    lt (((x18 * (10 : Int32)) + x28) - (48 : Int32) : Int32) fun x29 =>
    lt (x19 + (1 : Int32) : Int32) fun x30 =>
    F_Tx_numberL_L27 k78_7 nf20 x29 x30 m26))
def F_Tx_numberL (a1 : Int32) (a2 : Int32) (m0 : Mem) : Option (Int32 × Mem) :=
bnd (F_Tx_isAtL (1 : Int32) m0) fun z3 m1 =>
if z3 = true then (
ckB (inb (gI m1 52 5) 401) <|
lt (gI m1 55 (gI m1 52 5).toNatClampNeg) fun x5 =>
lt (fun (x7 : Int32) (m6 : Mem) => ((ckB (inb (gI m6 52 5) 401) <|
lt (gI m6 56 (gI m6 52 5).toNatClampNeg) fun x9 =>
ckB (inb (gI m6 52 5) 401) <|
lt (gI m6 55 (gI m6 52 5).toNatClampNeg) fun x11 =>
lt (fun (m12 : Mem) => ((bnd (F_Tx_setWrongL m12) fun _ m13 =>
some (a1, m13)) : Option (Int32 × Mem))) fun k111_12 =>
if (3 : Int32) < (x9 - x11) then (
k111_12 m6) else (
if x7 < a1 then (
k111_12 m6) else (
if x7 ≤ a2 then (
lt (sI m6 52 5 ((gI m6 52 5) + (1 : Int32))) fun m16 =>
some (x7, m16)) else (
k111_12 m6)))) : Option (Int32 × Mem))) fun k78_7 =>
F_Tx_numberL_L27 k78_7 1000000 (0 : Int32) x5 m1) else (
bnd (F_Tx_setWrongL m1) fun _ m31 =>
some (a1, m31))
def F_Lw_add (a1 : Int32) (m0 : Mem) : Option (Unit × Mem) :=
if (gI m0 57 1) < 0 then (
some ((), m0)) else (
if (400 : Int32) ≤ (gI m0 57 1) then (
some ((), m0)) else (
ckB (inb (gI m0 57 1) 400) <|
lt (sI m0 58 (gI m0 57 1).toNatClampNeg a1) fun m1 =>
lt (sI m1 57 1 ((gI m1 57 1) + (1 : Int32))) fun m3 =>
some ((), m3)))
def F_LT_readAll_L7 (rc : Int32 → Mem → Option (Unit × Mem)) (a1 : Int32) : Nat → Int32 → Mem → Option (Unit × Mem)
  | 0, _, _ => none
  | nf6 + 1, x5, m4 =>
    if (400 : Int32) ≤ x5 then (
    some ((), m4)) else (
    bnd (F_Tx_takesWordL ("and") m4) fun z10 m8 =>
    if z10 = true then (
    bnd (rc a1 m8) fun _ m11 =>
    bnd (F_Lw_add (1101 : Int32) m11) fun _ m14 =>
    lt (x5 + (1 : Int32) : Int32) fun x17 =>
    F_LT_readAll_L7 rc a1 nf6 x17 m14) else (
    some ((), m8)))
def F_LT_readAll (rc : Int32 → Mem → Option (Unit × Mem)) (a1 : Int32) (m0 : Mem) : Option (Unit × Mem) :=
bnd (rc a1 m0) fun _ m1 =>
F_LT_readAll_L7 rc a1 1000000 (0 : Int32) m1
def F_LT_readAny_L7 (rc : Int32 → Mem → Option (Unit × Mem)) (a1 : Int32) : Nat → Int32 → Mem → Option (Unit × Mem)
  | 0, _, _ => none
  | nf6 + 1, x5, m4 =>
    if (400 : Int32) ≤ x5 then (
    some ((), m4)) else (
    bnd (F_Tx_takesWordL ("or") m4) fun z10 m8 =>
    if z10 = true then (
    bnd (F_LT_readAll rc a1 m8) fun _ m11 =>
    bnd (F_Lw_add (1102 : Int32) m11) fun _ m14 =>
    lt (x5 + (1 : Int32) : Int32) fun x17 =>
    F_LT_readAny_L7 rc a1 nf6 x17 m14) else (
    some ((), m8)))
def F_LT_readAny (rc : Int32 → Mem → Option (Unit × Mem)) (a1 : Int32) (m0 : Mem) : Option (Unit × Mem) :=
bnd (F_LT_readAll rc a1 m0) fun _ m1 =>
F_LT_readAny_L7 rc a1 1000000 (0 : Int32) m1
def F_Tx_isAtNumberL (m0 : Mem) : Option (Bool × Mem) :=
bnd (F_Tx_isAtL (1 : Int32) m0) fun z3 m1 =>
some (z3, m1)
def F_Tx_takesSignL (a1 : Int32) (m0 : Mem) : Option (Bool × Mem) :=
bnd (F_Tx_isAtL (2 : Int32) m0) fun z3 m1 =>
if z3 = true then (
ckB (inb (gI m1 52 5) 401) <|
lt (gI m1 55 (gI m1 52 5).toNatClampNeg) fun x5 =>
bnd (F_Tx_byteAtL x5 m1) fun x8 m6 =>
if x8 = a1 then (
lt (sI m6 52 5 ((gI m6 52 5) + (1 : Int32))) fun m9 =>
some (true, m9)) else (
some (false, m6))) else (
some (false, m1))
def F_LT_readSum_L4  : Nat → Bool → Int32 → Mem → Option (Unit × Mem)
  | 0, _, _, _ => none
  | nf4 + 1, z2, x3, m1 =>
    if (400 : Int32) ≤ x3 then (
    some ((), m1)) else (
    if z2 = true then (
    bnd (F_Tx_isAtNumberL m1) fun z8 m6 =>
    lt (fun (m9 : Mem) => ((lt (fun (m10 : Mem) => ((bnd (F_Tx_takesSignL (43 : Int32) m10) fun z13 m11 =>
    lt (x3 + (1 : Int32) : Int32) fun x14 =>
    F_LT_readSum_L4 nf4 z13 x14 m11) : Option (Unit × Mem))) fun k190_10 =>
    if x3 ≤ 0 then (
    k190_10 m9) else (
    bnd (F_Lw_add (1105 : Int32) m9) fun _ m15 =>
    k190_10 m15)) : Option (Unit × Mem))) fun k176_9 =>
    if z8 = true then (
    bnd (F_Tx_numberL (0 : Int32) (999 : Int32) m6) fun x59 m57 =>
    bnd (F_Lw_add x59 m57) fun _ m60 =>
    k176_9 m60) else (
    bnd (F_Tx_takesWordL ("session") m6) fun z20 m18 =>
    if z20 = true then (
    bnd (F_Lw_add (1000 : Int32) m18) fun _ m54 =>
    k176_9 m54) else (
    bnd (F_Tx_takesWordL ("day") m18) fun z23 m21 =>
    if z23 = true then (
    bnd (F_Lw_add (1001 : Int32) m21) fun _ m51 =>
    k176_9 m51) else (
    bnd (F_Tx_takesWordL ("innings") m21) fun z26 m24 =>
    if z26 = true then (
    bnd (F_Lw_add (1002 : Int32) m24) fun _ m48 =>
    k176_9 m48) else (
    bnd (F_Tx_takesWordL ("side") m24) fun z29 m27 =>
    if z29 = true then (
    bnd (F_Lw_add (1003 : Int32) m27) fun _ m45 =>
    k176_9 m45) else (
    bnd (F_Tx_takesWordL ("bat") m27) fun z32 m30 =>
    if z32 = true then (
    bnd (F_Lw_add (1004 : Int32) m30) fun _ m42 =>
    k176_9 m42) else (
    bnd (F_Tx_takesWordL ("bowl") m30) fun z35 m33 =>
    if z35 = true then (
    bnd (F_Lw_add (1005 : Int32) m33) fun _ m39 =>
    k176_9 m39) else (
    bnd (F_Tx_setWrongL m33) fun _ m36 =>
    k176_9 m36)))))))) else (
    some ((), m1)))
def F_LT_readSum (m0 : Mem) : Option (Unit × Mem) :=
F_LT_readSum_L4 1000000 true (0 : Int32) m0
def F_LT_readAtom_b (rc : Int32 → Mem → Option (Unit × Mem)) (a1 : Int32) (m0 : Mem) : Option (Unit × Mem) :=
lt (fun (m1 : Mem) => ((lt (fun (m2 : Mem) => ((bnd (F_Tx_takesWordL ("cloud") m2) fun z5 m3 =>
if z5 = true then (
bnd (F_Lw_add (1006 : Int32) m3) fun _ m33 =>
some ((), m33)) else (
bnd (F_Tx_takesWordL ("tide") m3) fun z8 m6 =>
if z8 = true then (
bnd (F_Lw_add (1007 : Int32) m6) fun _ m30 =>
some ((), m30)) else (
bnd (F_LT_readSum m6) fun _ m9 =>
bnd (F_Tx_takesSignL (60 : Int32) m9) fun z14 m12 =>
lt (fun (m15 : Mem) => ((bnd (F_LT_readSum m15) fun _ m16 =>
lt (fun (x20 : Int32) (m19 : Mem) => ((bnd (F_Lw_add x20 m19) fun _ m21 =>
some ((), m21)) : Option (Unit × Mem))) fun k166_20 =>
if z14 = true then (
k166_20 (1103 : Int32) m16) else (
k166_20 (1104 : Int32) m16)) : Option (Unit × Mem))) fun k145_15 =>
if z14 = true then (
k145_15 m12) else (
bnd (F_Tx_takesSignL (62 : Int32) m12) fun z26 m24 =>
if z26 = true then (
k145_15 m24) else (
bnd (F_Tx_setWrongL m24) fun _ m27 =>
k145_15 m27))))) : Option (Unit × Mem))) fun k73_2 =>
if (6 : Int32) ≤ a1 then (
k73_2 m1) else (
bnd (F_Tx_takesSignL (40 : Int32) m1) fun z38 m36 =>
if z38 = true then (
bnd (F_LT_readAny rc (a1 + (1 : Int32)) m36) fun _ m39 =>
bnd (F_Tx_takesSignL (41 : Int32) m39) fun z44 m42 =>
if z44 = true then (
some ((), m42)) else (
bnd (F_Tx_setWrongL m42) fun _ m45 =>
some ((), m45))) else (
k73_2 m36))) : Option (Unit × Mem))) fun k35_1 =>
if (6 : Int32) ≤ a1 then (
k35_1 m0) else (
bnd (F_Tx_takesWordL ("not") m0) fun z50 m48 =>
if z50 = true then (
bnd (rc (a1 + (1 : Int32)) m48) fun _ m51 =>
bnd (F_Lw_add (1100 : Int32) m51) fun _ m54 =>
some ((), m54)) else (
k35_1 m48))
def F_LT_readAtom : Nat → Int32 → Mem → Option (Unit × Mem)
  | 0, _, _ => none
  | k + 1, a1, m0 => F_LT_readAtom_b (F_LT_readAtom k) a1 m0
def F_LT_readLine (m0 : Mem) : Option (Unit × Mem) :=
bnd (F_Tx_mustTakeL ("hard") m0) fun _ m1 =>
bnd (F_Tx_numberL (0 : Int32) (9 : Int32) m1) fun x6 m4 =>
bnd (F_Tx_takesWordL ("if") m4) fun z9 m7 =>
lt (fun (m10 : Mem) => ((bnd (F_Lw_add ((2000 : Int32) + x6) m10) fun _ m11 =>
some ((), m11)) : Option (Unit × Mem))) fun k39_10 =>
if z9 = true then (
bnd (F_LT_readAny (F_LT_readAtom 8) (0 : Int32) m7) fun _ m17 =>
k39_10 m17) else (
bnd (F_Lw_add (1 : Int32) m7) fun _ m14 =>
k39_10 m14)
def F_Tx_readLinesL_L40 (a3 : Int32) (k78_10 : Int32 → Mem → Option (Int32 × Mem)) (k91_14 : Mem → Option (Int32 × Mem)) : Nat → Int32 → Mem → Option (Int32 × Mem)
  | 0, _, _ => none
  | nf20 + 1, x19, m18 =>
    if a3 < x19 then (
    k91_14 m18) else (
    bnd (F_LT_readLine m18) fun _ m22 =>
    if (gI m22 52 6) = (-1 : Int32) then (
    bnd (F_Tx_isAtL (3 : Int32) m22) fun z27 m25 =>
    if z27 = true then (
    some (x19, m25)) else (
    bnd (F_Tx_takesSignL (59 : Int32) m25) fun z30 m28 =>
    if z30 = true then (
    lt (x19 + (1 : Int32) : Int32) fun x31 =>
    F_Tx_readLinesL_L40 a3 k78_10 k91_14 nf20 x31 m28) else (
    k78_10 x19 m28))) else (
    some (x19, m22)))
def F_Tx_readLinesL (a2 : Int32) (a3 : Int32) (m0 : Mem) : Option (Int32 × Mem) :=
bnd (F_Tx_cutL (mnI a2 (mnI (400 : Int32) (400 : Int32))) m0) fun _ m1 =>
lt (sI m1 52 5 (0 : Int32)) fun m4 =>
lt (sI m4 52 6 (-1 : Int32)) fun m5 =>
bnd (F_Tx_isAtL (3 : Int32) m5) fun z8 m6 =>
if z8 = true then (
some ((0 : Int32), m6)) else (
lt (fun (x10 : Int32) (m9 : Mem) => ((bnd (F_Tx_setWrongL m9) fun _ m11 =>
some (x10, m11)) : Option (Int32 × Mem))) fun k78_10 =>
lt (fun (m14 : Mem) => ((bnd (F_Tx_setWrongL m14) fun _ m15 =>
some (a3, m15)) : Option (Int32 × Mem))) fun k91_14 =>
F_Tx_readLinesL_L40 a3 k78_10 k91_14 1000000 (1 : Int32) m6)
def F_LT_readLaw (a2 : Int32) (m0 : Mem) : Option (Int32 × Mem) :=
lt (sI m0 57 1 (0 : Int32)) fun m1 =>
bnd (F_Tx_readLinesL a2 (12 : Int32) m1) fun x4 m2 =>
lt (sI m2 57 0 x4) fun m5 =>
some (gI m5 52 6, m5)
def F_Lw_copyFrom_3_L18  : Nat → Int32 → Mem → Option (Unit × Mem)
  | 0, _, _ => none
  | nf5 + 1, x4, m3 =>
    if (400 : Int32) ≤ x4 then (
    some ((), m3)) else (
    ckB (inb x4 400) <|
    lt (gI m3 58 x4.toNatClampNeg) fun x8 =>
    ckB (inb x4 400) <|
    lt (sI m3 9 x4.toNatClampNeg x8) fun m9 =>
    lt (x4 + (1 : Int32) : Int32) fun x11 =>
    F_Lw_copyFrom_3_L18 nf5 x11 m9)
def F_Lw_copyFrom_3 (m0 : Mem) : Option (Unit × Mem) :=
lt (sI m0 8 0 (gI m0 57 0)) fun m1 =>
lt (sI m1 8 1 (gI m1 57 1)) fun m2 =>
F_Lw_copyFrom_3_L18 1000000 (0 : Int32) m2
def F_T_law (m0 : Mem) : Option ((Nat ⊕ Int32) × Mem) :=
bnd (F_T_useTape m0) fun x3 m1 =>
bnd (F_LT_readLaw x3 m1) fun x6 m4 =>
lt (sI m4 0 2 x6) fun m7 =>
if (gI m7 0 2) = (-1 : Int32) then (
bnd (F_Lw_copyFrom_3 m7) fun _ m8 =>
bnd (F_T_startAfresh m8) fun _ m11 =>
some (.inr (gI m11 8 0), m11)) else (
some (.inl 1, m7))
def F_T_level (a1 : Int32) (a2 : Int32) (a3 : Int32) (m0 : Mem) : Option ((Nat ⊕ Int32) × Mem) :=
bndX (F_T_mustBeBelow a1 (gI m0 3 0) m0) fun _ m1 =>
bndX (F_T_mustBeBelow a2 (4 : Int32) m1) fun _ m4 =>
bndX (F_T_mustBeBelow a3 (2 : Int32) m4) fun _ m7 =>
bnd (F_Gr_levelOf a1 a2 a3 m7) fun x12 m10 =>
some (.inr x12, m10)
def F_T_line_L27 (a1 : Int32) (a4 : Int32) (a5 : Int32) (x6 : Int32) (k62_8 : Int32 → Mem → Option ((Nat ⊕ Int32) × Mem)) : Nat → Int32 → Mem → Option ((Nat ⊕ Int32) × Mem)
  | 0, _, _ => none
  | nf11 + 1, x10, m9 =>
    if (100 : Int32) < x10 then (
    some (.inr (-1 : Int32), m9)) else (
    bnd (F_Od_ready (0 : Int32) x10 false m9) fun _ m13 =>
    bnd (F_Od_choosesTold a1 x6 a4 a5 m13) fun z18 m16 =>
    if z18 = true then (
    lt (x10 + (1 : Int32) : Int32) fun x19 =>
    F_T_line_L27 a1 a4 a5 x6 k62_8 nf11 x19 m16) else (
    k62_8 x10 m16))
def F_T_line (a1 : Int32) (a2 : Int32) (a3 : Bool) (a4 : Int32) (a5 : Int32) (m0 : Mem) : Option ((Nat ⊕ Int32) × Mem) :=
bndX (F_T_mustBeState a1 a2 a4 a5 m0) fun _ m1 =>
if a2 = (3 : Int32) then (
some (.inr (-1 : Int32), m1)) else (
bnd (F_Od_kindOf a2 a3 m1) fun x6 m4 =>
lt (fun (x8 : Int32) (m7 : Mem) => ((if x8 = 0 then (
some (.inr (-1 : Int32), m7)) else (
some (.inr x8, m7))) : Option ((Nat ⊕ Int32) × Mem))) fun k62_8 =>
F_T_line_L27 a1 a4 a5 x6 k62_8 1000000 (0 : Int32) m4)
def F_T_log (a1 : Int32) (a2 : Int32) (m0 : Mem) : Option ((Nat ⊕ Int32) × Mem) :=
lt (fun (m1 : Mem) => ((some (.inl 4, m1)) : Option ((Nat ⊕ Int32) × Mem))) fun k10_1 =>
if a2 < 0 then (
k10_1 m0) else (
if a2 < (7 : Int32) then (
bnd (F_Ma_logged a1 a2 m0) fun x4 m2 =>
some (.inr x4, m2)) else (
k10_1 m0))
def F_Ma_runsOf (a1 : Int32) (m0 : Mem) : Option (Int32 × Mem) :=
if a1 = 0 then (
some (gI m0 16 8, m0)) else (
some (gI m0 16 9, m0))
def F_T_match (a1 : Int32) (m0 : Mem) : Option ((Nat ⊕ Int32) × Mem) :=
if a1 = 0 then (
some (.inr (gI m0 16 0), m0)) else (
if a1 = 1 then (
some (.inr (gI m0 16 1), m0)) else (
if a1 = 2 then (
some (.inr (gI m0 16 2), m0)) else (
if a1 = 3 then (
bnd (F_Ma_runsOf (0 : Int32) m0) fun x3 m1 =>
some (.inr x3, m1)) else (
if a1 = 4 then (
bnd (F_Ma_runsOf (1 : Int32) m0) fun x6 m4 =>
some (.inr x6, m4)) else (
if a1 = 5 then (
bnd (F_Ma_isOn m0) fun z9 m7 =>
if z9 = true then (
bnd (F_Ma_batting m7) fun x12 m10 =>
some (.inr x12, m10)) else (
some (.inr (-1 : Int32), m7))) else (
if a1 = 6 then (
some (.inr (gI m0 16 3), m0)) else (
if a1 = 7 then (
if (gZ m0 16 5) = true then (
some (.inr (1 : Int32), m0)) else (
some (.inr (0 : Int32), m0))) else (
if a1 = 8 then (
some (.inr (gI m0 16 4), m0)) else (
if a1 = 9 then (
bnd (F_Ma_mayFollow (gI m0 3 4) m0) fun z15 m13 =>
if z15 = true then (
some (.inr (1 : Int32), m13)) else (
some (.inr (0 : Int32), m13))) else (
if a1 = 10 then (
if (gZ m0 16 6) = true then (
some (.inr (1 : Int32), m0)) else (
some (.inr (0 : Int32), m0))) else (
some (.inl 4, m0))))))))))))
def F_Ma_drawSlot (m0 : Mem) : Option (Int32 × Mem) :=
lt (((1103515245 : Int32) * (gI m0 16 7)) + (12345 : Int32) : Int32) fun x1 =>
lt (sI m0 16 7 x1) fun m2 =>
lt (((gI m2 16 7).toUInt32 >>> ((16 : Int32).toUInt32 &&& Int32.toUInt32 31)).toInt32 : Int32) fun x3 =>
lt ((x3 &&& (32767 : Int32)) - (x3 &&& (32767 : Int32)) / (4 : Int32) * (4 : Int32) : Int32) fun x4 =>
some (x4, m2)
def F_T_play (m0 : Mem) : Option ((Nat ⊕ Int32) × Mem) :=
bndX (F_T_mustBeOn m0) fun _ m1 =>
bnd (F_Pa_remember m1) fun _ m4 =>
bnd (F_Ma_drawSlot m4) fun x9 m7 =>
bnd (F_Ma_playSession x9 false m7) fun _ m10 =>
some (.inr x9, m10)
def F_T_seed (a1 : Int32) (m0 : Mem) : Option (Int32 × Mem) :=
lt (gI m0 16 7 : Int32) fun x1 =>
lt (sI m0 16 7 a1) fun m2 =>
some (x1, m2)
def F_T_session (a1 : Int32) (a2 : Int32) (m0 : Mem) : Option ((Nat ⊕ Int32) × Mem) :=
bndX (F_T_mustBeBelow a1 (gI m0 3 0) m0) fun _ m1 =>
if a2 = 0 then (
some (.inr (a1 / (3 : Int32)), m1)) else (
if a2 = 1 then (
bnd (F_T_bitOf (gI m1 3 1) a1 m1) fun x6 m4 =>
some (.inr x6, m4)) else (
if a2 = 2 then (
bnd (F_T_bitOf (gI m1 3 2) a1 m1) fun x9 m7 =>
some (.inr x9, m7)) else (
if a2 = 3 then (
bnd (F_T_bitOf (gI m1 3 3) a1 m1) fun x12 m10 =>
some (.inr x12, m10)) else (
some (.inl 4, m1)))))
def F_T_share (a1 : Int32) (a2 : Int32) (m0 : Mem) : Option ((Nat ⊕ Int32) × Mem) :=
lt (fun (m1 : Mem) => ((some (.inl 4, m1)) : Option ((Nat ⊕ Int32) × Mem))) fun k18_1 =>
if a1 < 0 then (
k18_1 m0) else (
if (5 : Int32) < a1 then (
k18_1 m0) else (
if a2 < 0 then (
k18_1 m0) else (
if a2 ≤ (5 : Int32) then (
bnd (F_Bk_tally a2 m0) fun x4 m2 =>
if 0 < x4 then (
bnd (F_Bk_tally a1 m2) fun x7 m5 =>
ckB (!decide (x4 = 0)) <|
some (.inr ((x7 * (10000 : Int32)) / x4), m5)) else (
some (.inr (0 : Int32), m2))) else (
k18_1 m0))))
def F_T_side (a1 : Int32) (a2 : Bool) (m0 : Mem) : Option ((Nat ⊕ Int32) × Mem) :=
bndX (F_T_mustBeBelow a1 (2 : Int32) m0) fun _ m1 =>
if a2 = true then (
bnd (F_Gr_bowlOf a1 m1) fun x9 m7 =>
some (.inr x9, m7)) else (
bnd (F_Gr_batOf a1 m1) fun x6 m4 =>
some (.inr x6, m4))
def F_Mo_swungWith (a1 : Int32) (m0 : Mem) : Option (Int32 × Mem) :=
if a1 < 0 then (
some ((0 : Int32), m0)) else (
if a1 < (16 : Int32) then (
ckB (inb a1 16) <|
lt (gI m0 62 a1.toNatClampNeg) fun x2 =>
some (x2, m0)) else (
some ((0 : Int32), m0)))
def F_Mo_stillWith (a1 : Int32) (m0 : Mem) : Option (Int32 × Mem) :=
if a1 < 0 then (
some ((0 : Int32), m0)) else (
if a1 < (16 : Int32) then (
ckB (inb a1 16) <|
lt (gI m0 63 a1.toNatClampNeg) fun x2 =>
some (x2, m0)) else (
some ((0 : Int32), m0)))
def F_T_signs (a1 : Int32) (a2 : Int32) (a3 : Bool) (m0 : Mem) : Option ((Nat ⊕ Int32) × Mem) :=
bnd (F_T_useTape m0) fun x3 m1 =>
bnd (F_T_tapeIsMornings x3 m1) fun z6 m4 =>
lt (fun (m7 : Mem) => ((some (.inl 1, m7)) : Option ((Nat ⊕ Int32) × Mem))) fun k33_7 =>
if z6 = true then (
if a1 < 0 then (
k33_7 m4) else (
if (2 : Int32) < a1 then (
k33_7 m4) else (
if a2 < 0 then (
k33_7 m4) else (
if a2 ≤ (3 : Int32) then (
bnd (F_Mo_sort x3 a1 a1 m4) fun _ m8 =>
bnd (F_Mo_swungWith a2 m8) fun x13 m11 =>
lt (fun (x15 : Int32) (m14 : Mem) => ((some (.inr (x13 + x15), m14)) : Option ((Nat ⊕ Int32) × Mem))) fun k83_15 =>
if a3 = true then (
k83_15 (0 : Int32) m11) else (
bnd (F_Mo_stillWith a2 m11) fun x18 m16 =>
k83_15 x18 m16)) else (
k33_7 m4))))) else (
k33_7 m4)
def F_T_slot (a1 : Int32) (a2 : Int32) (a3 : Bool) (m0 : Mem) : Option ((Nat ⊕ Int32) × Mem) :=
bndX (F_T_mustBeBelow a1 (4 : Int32) m0) fun _ m1 =>
bndX (F_T_mustBeBelow a2 (4 : Int32) m1) fun _ m4 =>
if a3 = true then (
bnd (F_Gr_outsOf a1 a2 m4) fun x12 m10 =>
some (.inr x12, m10)) else (
bnd (F_Gr_runsOf a1 a2 m4) fun x9 m7 =>
some (.inr x9, m7))
def F_Bk_longestRun_L7 (a1 : Int32) : Nat → Int32 → Int32 → Int32 → Mem → Option (Int32 × Mem)
  | 0, _, _, _, _ => none
  | nf5 + 1, x2, x3, x4, m1 =>
    if (gI m1 12 0) ≤ x4 then (
    some (x2, m1)) else (
    bnd (F_Bk_isSo x4 a1 m1) fun z9 m7 =>
    lt (fun (x11 : Int32) (m10 : Mem) => ((lt (mxI x2 x11 : Int32) fun x12 =>
    lt (x4 + (1 : Int32) : Int32) fun x13 =>
    F_Bk_longestRun_L7 a1 nf5 x12 x11 x13 m10) : Option (Int32 × Mem))) fun k33_11 =>
    if z9 = true then (
    k33_11 (x3 + (1 : Int32)) m7) else (
    k33_11 (0 : Int32) m7))
def F_Bk_longestRun (a1 : Int32) (m0 : Mem) : Option (Int32 × Mem) :=
F_Bk_longestRun_L7 a1 1000000 (0 : Int32) (0 : Int32) (0 : Int32) m0
def F_T_streak (a1 : Int32) (m0 : Mem) : Option ((Nat ⊕ Int32) × Mem) :=
lt (fun (m1 : Mem) => ((some (.inl 4, m1)) : Option ((Nat ⊕ Int32) × Mem))) fun k9_1 =>
if a1 < 0 then (
k9_1 m0) else (
if a1 ≤ (2 : Int32) then (
bnd (F_Bk_longestRun (a1 + (3 : Int32)) m0) fun x4 m2 =>
some (.inr x4, m2)) else (
k9_1 m0))
def F_Ma_copyFrom_4_L82  : Nat → Int32 → Mem → Option (Unit × Mem)
  | 0, _, _ => none
  | nf13 + 1, x12, m11 =>
    if (63 : Int32) ≤ x12 then (
    some ((), m11)) else (
    ckB (inb x12 63) <|
    lt (gI m11 17 x12.toNatClampNeg) fun x16 =>
    ckB (inb x12 63) <|
    lt (sI m11 19 x12.toNatClampNeg x16) fun m17 =>
    lt (x12 + (1 : Int32) : Int32) fun x19 =>
    F_Ma_copyFrom_4_L82 nf13 x19 m17)
def F_Ma_copyFrom_4 (m0 : Mem) : Option (Unit × Mem) :=
lt (sI m0 18 0 (gI m0 16 0)) fun m1 =>
lt (sI m1 18 1 (gI m1 16 1)) fun m2 =>
lt (sI m2 18 2 (gI m2 16 2)) fun m3 =>
lt (sI m3 18 3 (gI m3 16 3)) fun m4 =>
lt (sI m4 18 4 (gI m4 16 4)) fun m5 =>
lt (sZ m5 18 5 (gZ m5 16 5)) fun m6 =>
lt (sZ m6 18 6 (gZ m6 16 6)) fun m7 =>
lt (sI m7 18 7 (gI m7 16 7)) fun m8 =>
lt (sI m8 18 8 (gI m8 16 8)) fun m9 =>
lt (sI m9 18 9 (gI m9 16 9)) fun m10 =>
F_Ma_copyFrom_4_L82 1000000 (0 : Int32) m10
def F_Ma_isOn_2 (m0 : Mem) : Option (Bool × Mem) :=
if (gI m0 18 0) = (-1 : Int32) then (
some (false, m0)) else (
if (gI m0 18 4) = (-1 : Int32) then (
some (true, m0)) else (
some (false, m0)))
def F_Ma_kind_2 (m0 : Mem) : Option (Int32 × Mem) :=
bnd (F_Od_kindOf (gI m0 18 1) (gZ m0 18 5) m0) fun x3 m1 =>
some (x3, m1)
def F_Ma_batting_2 (m0 : Mem) : Option (Int32 × Mem) :=
bnd (F_Ma_kind_2 m0) fun x3 m1 =>
bnd (F_Od_firstBats x3 m1) fun z6 m4 =>
if z6 = true then (
some (gI m4 18 0, m4)) else (
some ((1 : Int32) - (gI m4 18 0), m4))
def F_Ma_setLog_2 (a1 : Int32) (a2 : Int32) (m0 : Mem) : Option (Unit × Mem) :=
lt (((gI m0 18 3) * (7 : Int32)) + a1 : Int32) fun x1 =>
if x1 < 0 then (
some ((), m0)) else (
if (63 : Int32) ≤ x1 then (
some ((), m0)) else (
ckB (inb x1 63) <|
lt (sI m0 19 x1.toNatClampNeg a2) fun m2 =>
some ((), m2)))
def F_Ma_leadOf_2 (a1 : Int32) (m0 : Mem) : Option (Int32 × Mem) :=
if a1 = 0 then (
some ((gI m0 18 8) - (gI m0 18 9), m0)) else (
some ((gI m0 18 9) - (gI m0 18 8), m0))
def F_Ma_judge_2 (a1 : Int32) (m0 : Mem) : Option (Unit × Mem) :=
bnd (F_Ma_batting_2 m0) fun x3 m1 =>
lt (fun (m4 : Mem) => ((lt (fun (m5 : Mem) => ((if (gI m5 18 3) < a1 then (
some ((), m5)) else (
lt (sI m5 18 4 (2 : Int32)) fun m6 =>
some ((), m6))) : Option (Unit × Mem))) fun k68_5 =>
if (gI m4 18 1) = (3 : Int32) then (
if (gI m4 18 2) = (10 : Int32) then (
bnd (F_Ma_leadOf_2 x3 m4) fun x9 m7 =>
lt (fun (x11 : Int32) (m10 : Mem) => ((lt (sI m10 18 4 x11) fun m12 =>
some ((), m12)) : Option (Unit × Mem))) fun k62_11 =>
if x9 = 0 then (
k62_11 (2 : Int32) m7) else (
k62_11 ((1 : Int32) - x3) m7)) else (
k68_5 m4)) else (
k68_5 m4)) : Option (Unit × Mem))) fun k29_4 =>
if (gI m1 18 1) = (3 : Int32) then (
bnd (F_Ma_leadOf_2 x3 m1) fun x15 m13 =>
if x15 ≤ 0 then (
k29_4 m13) else (
lt (sI m13 18 4 x3) fun m16 =>
some ((), m16))) else (
k29_4 m1)
def F_Ma_beginNext_2 (m0 : Mem) : Option (Unit × Mem) :=
lt (sI m0 18 1 ((gI m0 18 1) + (1 : Int32))) fun m1 =>
lt (sI m1 18 2 (0 : Int32)) fun m2 =>
lt (sZ m2 18 6 true) fun m3 =>
some ((), m3)
def F_Ma_playSession_2 (a2 : Int32) (a3 : Bool) (m0 : Mem) : Option (Unit × Mem) :=
bnd (F_Ma_batting_2 m0) fun x3 m1 =>
bnd (F_Gr_levelOf (gI m1 18 3) (gI m1 18 1) x3 m1) fun x6 m4 =>
lt (fun (x8 : Int32) (m7 : Mem) => ((bnd (F_Gr_outsIn (gI m7 18 3) x6 a2 m7) fun x11 m9 =>
lt (fun (x13 : Int32) (m12 : Mem) => ((lt (fun (m14 : Mem) => ((lt (sI m14 18 2 (mnI (10 : Int32) ((gI m14 18 2) + x13))) fun m15 =>
lt (sZ m15 18 6 false) fun m16 =>
bnd (F_Ma_setLog_2 (0 : Int32) (gI m16 18 1) m16) fun _ m17 =>
bnd (F_Ma_setLog_2 (1 : Int32) x3 m17) fun _ m20 =>
bnd (F_Ma_setLog_2 (2 : Int32) x6 m20) fun _ m23 =>
bnd (F_Ma_setLog_2 (3 : Int32) a2 m23) fun _ m26 =>
bnd (F_Ma_leadOf_2 x3 m26) fun x31 m29 =>
bnd (F_Ma_setLog_2 (4 : Int32) x31 m29) fun _ m32 =>
bnd (F_Ma_setLog_2 (5 : Int32) (gI m32 18 2) m32) fun _ m35 =>
bnd (F_Ma_setLog_2 (6 : Int32) x8 m35) fun _ m38 =>
lt (sI m38 18 3 ((gI m38 18 3) + (1 : Int32))) fun m41 =>
lt (fun (m42 : Mem) => ((bnd (F_Ma_judge_2 (gI m42 3 0) m42) fun _ m43 =>
some ((), m43)) : Option (Unit × Mem))) fun k209_42 =>
if (gI m41 18 2) = (10 : Int32) then (
if (gI m41 18 1) = (3 : Int32) then (
k209_42 m41) else (
bnd (F_Ma_beginNext_2 m41) fun _ m46 =>
k209_42 m46)) else (
k209_42 m41)) : Option (Unit × Mem))) fun k100_14 =>
if x3 = 0 then (
lt (sI m12 18 8 ((gI m12 18 8) + x8)) fun m50 =>
k100_14 m50) else (
lt (sI m12 18 9 ((gI m12 18 9) + x8)) fun m49 =>
k100_14 m49)) : Option (Unit × Mem))) fun k70_13 =>
if a3 = true then (
lt (mxI (0 : Int32) (x11 - (1 : Int32)) : Int32) fun x51 =>
k70_13 x51 m9) else (
k70_13 x11 m9)) : Option (Unit × Mem))) fun k41_8 =>
if a3 = true then (
k41_8 (0 : Int32) m4) else (
bnd (F_Gr_runsIn (gI m4 18 3) x6 a2 m4) fun x54 m52 =>
k41_8 x54 m52)
def F_T_swing_L61 (x3 : Int32) (k107_14 : Mem → Option ((Nat ⊕ Int32) × Mem)) : Nat → Int32 → Mem → Option ((Nat ⊕ Int32) × Mem)
  | 0, _, _ => none
  | nf17 + 1, x16, m15 =>
    if x3 ≤ x16 then (
    k107_14 m15) else (
    if (400 : Int32) ≤ x16 then (
    k107_14 m15) else (
    bnd (F_Ma_isOn_2 m15) fun z21 m19 =>
    lt (fun (m22 : Mem) => ((lt (x16 + (1 : Int32) : Int32) fun x23 =>
    F_T_swing_L61 x3 k107_14 nf17 x23 m22) : Option ((Nat ⊕ Int32) × Mem))) fun k101_22 =>
    if z21 = true then (
    ckB (inb x16 400) <|
    lt (gI m19 1 x16.toNatClampNeg) fun x25 =>
    bnd (F_Ma_playSession_2 x25 false m19) fun _ m26 =>
    k101_22 m26) else (
    k101_22 m19)))
def F_T_swing (m0 : Mem) : Option ((Nat ⊕ Int32) × Mem) :=
bnd (F_T_useTape m0) fun x3 m1 =>
bndX (F_T_mustBeOn m1) fun _ m4 =>
lt (fun (m7 : Mem) => ((some (.inl 1, m7)) : Option ((Nat ⊕ Int32) × Mem))) fun k37_7 =>
if x3 = ((gI m4 3 0) - (gI m4 16 3)) then (
bnd (F_T_tapeIsBelow x3 (4 : Int32) m4) fun z10 m8 =>
if z10 = true then (
bnd (F_Ma_copyFrom_4 m8) fun _ m11 =>
lt (fun (m14 : Mem) => ((some (.inr (gI m14 18 4), m14)) : Option ((Nat ⊕ Int32) × Mem))) fun k107_14 =>
F_T_swing_L61 x3 k107_14 1000000 (0 : Int32) m11) else (
k37_7 m8)) else (
k37_7 m4)
def F_T_table_L42 (a1 : Int32) (a4 : Bool) (x12 : Int32) : Nat → Int32 → Int32 → Mem → Option ((Nat ⊕ Int32) × Mem)
  | 0, _, _, _ => none
  | nf16 + 1, x14, x15, m13 =>
    if (4 : Int32) ≤ x15 then (
    some (.inr x14, m13)) else (
    lt (fun (x19 : Int32) (m18 : Mem) => ((lt (x14 + x19 : Int32) fun x20 =>
    lt (x15 + (1 : Int32) : Int32) fun x21 =>
    F_T_table_L42 a1 a4 x12 nf16 x20 x21 m18) : Option ((Nat ⊕ Int32) × Mem))) fun k82_19 =>
    if a4 = true then (
    bnd (F_Gr_outsIn a1 x12 x15 m13) fun x27 m25 =>
    k82_19 x27 m25) else (
    bnd (F_Gr_runsIn a1 x12 x15 m13) fun x24 m22 =>
    k82_19 x24 m22))
def F_T_table (a1 : Int32) (a2 : Int32) (a3 : Int32) (a4 : Bool) (m0 : Mem) : Option ((Nat ⊕ Int32) × Mem) :=
bndX (F_T_mustBeBelow a1 (gI m0 3 0) m0) fun _ m1 =>
bndX (F_T_mustBeBelow a2 (4 : Int32) m1) fun _ m4 =>
bndX (F_T_mustBeBelow a3 (2 : Int32) m4) fun _ m7 =>
bnd (F_Gr_levelOf a1 a2 a3 m7) fun x12 m10 =>
F_T_table_L42 a1 a4 x12 1000000 (0 : Int32) (0 : Int32) m10
def F_T_target (a1 : Bool) (m0 : Mem) : Option ((Nat ⊕ Int32) × Mem) :=
bndX (F_T_mustBeChase m0) fun _ m1 =>
bnd (F_Ma_batting m1) fun x6 m4 =>
bnd (F_Ma_leadOf x6 m4) fun x9 m7 =>
lt ((1 : Int32) - x9 : Int32) fun x10 =>
lt ((gI m7 3 0) - (gI m7 16 3) : Int32) fun x11 =>
if a1 = true then (
if 0 < x11 then (
ckB (!decide (x11 = 0)) <|
some (.inr (((x10 + x11) - (1 : Int32)) / x11), m7)) else (
some (.inr x10, m7))) else (
some (.inr x10, m7))
def F_Ma_begin (a1 : Int32) (m0 : Mem) : Option (Unit × Mem) :=
lt (sI m0 16 0 a1) fun m1 =>
lt (sZ m1 16 6 true) fun m2 =>
some ((), m2)
def F_T_toss (a1 : Int32) (m0 : Mem) : Option ((Nat ⊕ Int32) × Mem) :=
bndX (F_T_mustBeBelow a1 (2 : Int32) m0) fun _ m1 =>
if (gI m1 16 0) = (-1 : Int32) then (
bnd (F_Pa_remember m1) fun _ m4 =>
bnd (F_Ma_begin a1 m4) fun _ m7 =>
bnd (F_Gr_levelOf (0 : Int32) (0 : Int32) a1 m7) fun x12 m10 =>
some (.inr x12, m10)) else (
some (.inl 0, m1))
def F_T_turning_L35 (a1 : Bool) (z8 : Bool) : Nat → Int32 → Int64 → Int32 → Mem → Option ((Nat ⊕ Int32) × Mem)
  | 0, _, _, _, _ => none
  | nf13 + 1, x10, y11, x12, m9 =>
    if (4 : Int32) ≤ x12 then (
    some (.inr x10, m9)) else (
    bnd (F_T_waysAfter x12 m9) fun y17 m15 =>
    bnd (F_Od_valueOf y17 ((gI m15 16 3) + (1 : Int32)) z8 (gI m15 3 5) m15) fun y20 m18 =>
    lt (fun (x22 : Int32) (y23 : Int64) (m21 : Mem) => ((lt (x12 + (1 : Int32) : Int32) fun x24 =>
    F_T_turning_L35 a1 z8 nf13 x22 y23 x24 m21) : Option ((Nat ⊕ Int32) × Mem))) fun k112_23 =>
    lt (fun (m25 : Mem) => ((k112_23 x12 y20 m25) : Option ((Nat ⊕ Int32) × Mem))) fun k105_25 =>
    if x12 = 0 then (
    k105_25 m18) else (
    if a1 = true then (
    if y11 ≤ y20 then (
    k112_23 x10 y11 m18) else (
    k105_25 m18)) else (
    if y20 ≤ y11 then (
    k112_23 x10 y11 m18) else (
    k105_25 m18))))
def F_T_turning (a1 : Bool) (m0 : Mem) : Option ((Nat ⊕ Int32) × Mem) :=
bndX (F_T_mustBeOn m0) fun _ m1 =>
bnd (F_Ma_batting m1) fun x6 m4 =>
lt (fun (z8 : Bool) (m7 : Mem) => ((F_T_turning_L35 a1 z8 1000000 (0 : Int32) (0 : Int64) (0 : Int32) m7) : Option ((Nat ⊕ Int32) × Mem))) fun k26_8 =>
if x6 = (gI m4 16 0) then (
k26_8 true m4) else (
k26_8 false m4)
def F_T_turnover_L27 (a1 : Int32) (a2 : Int32) : Nat → Int32 → Mem → Option ((Nat ⊕ Int32) × Mem)
  | 0, _, _ => none
  | nf9 + 1, x8, m7 =>
    if x8 < 0 then (
    some (.inr (-1 : Int32), m7)) else (
    bnd (F_Od_kindOf (3 : Int32) false m7) fun x13 m11 =>
    bnd (F_Od_choosesTold a1 x13 (-x8) a2 m11) fun z16 m14 =>
    if z16 = true then (
    lt (x8 + (-1 : Int32) : Int32) fun x17 =>
    F_T_turnover_L27 a1 a2 nf9 x17 m14) else (
    some (.inr x8, m14)))
def F_T_turnover (a1 : Int32) (a2 : Int32) (m0 : Mem) : Option ((Nat ⊕ Int32) × Mem) :=
bndX (F_T_mustBeState a1 (3 : Int32) (0 : Int32) a2 m0) fun _ m1 =>
bnd (F_Od_ready (0 : Int32) (gI m1 3 5) false m1) fun _ m4 =>
F_T_turnover_L27 a1 a2 1000000 (81 : Int32) m4
def F_Ma_copyFrom_5_L82 (o1 : Nat) : Nat → Int32 → Mem → Option (Unit × Mem)
  | 0, _, _ => none
  | nf13 + 1, x12, m11 =>
    if (63 : Int32) ≤ x12 then (
    some ((), m11)) else (
    ckB (inb x12 63) <|
    lt (gI m11 (o1 + 1) x12.toNatClampNeg) fun x16 =>
    ckB (inb x12 63) <|
    lt (sI m11 17 x12.toNatClampNeg x16) fun m17 =>
    lt (x12 + (1 : Int32) : Int32) fun x19 =>
    F_Ma_copyFrom_5_L82 o1 nf13 x19 m17)
def F_Ma_copyFrom_5 (o1 : Nat) (m0 : Mem) : Option (Unit × Mem) :=
lt (sI m0 16 0 (gI m0 o1 0)) fun m1 =>
lt (sI m1 16 1 (gI m1 o1 1)) fun m2 =>
lt (sI m2 16 2 (gI m2 o1 2)) fun m3 =>
lt (sI m3 16 3 (gI m3 o1 3)) fun m4 =>
lt (sI m4 16 4 (gI m4 o1 4)) fun m5 =>
lt (sZ m5 16 5 (gZ m5 o1 5)) fun m6 =>
lt (sZ m6 16 6 (gZ m6 o1 6)) fun m7 =>
lt (sI m7 16 7 (gI m7 o1 7)) fun m8 =>
lt (sI m8 16 8 (gI m8 o1 8)) fun m9 =>
lt (sI m9 16 9 (gI m9 o1 9)) fun m10 =>
F_Ma_copyFrom_5_L82 o1 1000000 (0 : Int32) m10
def F_Pa_giveBack (m0 : Mem) : Option (Bool × Mem) :=
lt ((((gI m0 20 1) + (12 : Int32)) - (1 : Int32)) - (((gI m0 20 1) + (12 : Int32)) - (1 : Int32)) / (12 : Int32) * (12 : Int32) : Int32) fun x1 =>
bnd (F_Pa_roomAt x1 m0) fun q4 m2 =>
oMat q4 (
if (gI m2 20 0) ≤ 0 then (
some (false, m2)) else (
some (false, m2))) fun o5 =>
if (gI m2 20 0) ≤ 0 then (
some (false, m2)) else (
bnd (F_Ma_copyFrom_5 o5 m2) fun _ m6 =>
lt ((((gI m6 20 1) + (12 : Int32)) - (1 : Int32)) - (((gI m6 20 1) + (12 : Int32)) - (1 : Int32)) / (12 : Int32) * (12 : Int32) : Int32) fun x9 =>
lt (sI m6 20 1 x9) fun m10 =>
lt (sI m10 20 0 ((gI m10 20 0) - (1 : Int32))) fun m11 =>
some (true, m11))
def F_T_undo (m0 : Mem) : Option (Bool × Mem) :=
bnd (F_Pa_giveBack m0) fun z3 m1 =>
some (z3, m1)
def F_T_betterToBat (a1 : Int32) (m0 : Mem) : Option (Int32 × Mem) :=
bnd (F_T_tossValue a1 a1 m0) fun y3 m1 =>
bnd (F_T_tossValue a1 ((1 : Int32) - a1) m1) fun y6 m4 =>
some (lcI y3 y6, m4)
def F_T_well_L17 (x3 : Int32) (x6 : Int32) : Nat → Int32 → Int32 → Mem → Option (Int32 × Mem)
  | 0, _, _, _ => none
  | nf10 + 1, x8, x9, m7 =>
    if (gI m7 12 0) ≤ x9 then (
    some (x8, m7)) else (
    bnd (F_Bk_cell x9 (0 : Int32) m7) fun x14 m12 =>
    lt (fun (x16 : Int32) (m15 : Mem) => ((bnd (F_Bk_cell x9 (1 : Int32) m15) fun x19 m17 =>
    lt (fun (z21 : Bool) (m20 : Mem) => ((lt (fun (x23 : Int32) (m22 : Mem) => ((lt (x9 + (1 : Int32) : Int32) fun x24 =>
    F_T_well_L17 x3 x6 nf10 x23 x24 m22) : Option (Int32 × Mem))) fun k107_23 =>
    lt (fun (m25 : Mem) => ((lt (x8 + (1 : Int32) : Int32) fun x26 =>
    k107_23 x26 m25) : Option (Int32 × Mem))) fun k104_25 =>
    if x16 = 0 then (
    k104_25 m20) else (
    lt (fun (z28 : Bool) (m27 : Mem) => ((if (b2i z28) = (b2i z21) then (
    k104_25 m27) else (
    k107_23 x8 m27)) : Option (Int32 × Mem))) fun k99_28 =>
    if x16 ≤ 0 then (
    k99_28 false m20) else (
    k99_28 true m20))) : Option (Int32 × Mem))) fun k82_21 =>
    if x19 = x14 then (
    k82_21 true m17) else (
    k82_21 false m17)) : Option (Int32 × Mem))) fun k57_16 =>
    if x14 = 0 then (
    k57_16 x3 m12) else (
    k57_16 x6 m12))
def F_T_well (m0 : Mem) : Option (Int32 × Mem) :=
bnd (F_T_betterToBat (0 : Int32) m0) fun x3 m1 =>
bnd (F_T_betterToBat (1 : Int32) m1) fun x6 m4 =>
F_T_well_L17 x3 x6 1000000 (0 : Int32) (0 : Int32) m4
def F_T_when_L27 (a1 : Int32) (a2 : Int32) : Nat → Int32 → Mem → Option ((Nat ⊕ Int32) × Mem)
  | 0, _, _ => none
  | nf9 + 1, x8, m7 =>
    if (81 : Int32) < x8 then (
    some (.inr (-99 : Int32), m7)) else (
    bnd (F_Od_kindOf (2 : Int32) false m7) fun x13 m11 =>
    bnd (F_Od_choosesTold a1 x13 x8 a2 m11) fun z16 m14 =>
    if z16 = true then (
    some (.inr x8, m14)) else (
    lt (x8 + (1 : Int32) : Int32) fun x17 =>
    F_T_when_L27 a1 a2 nf9 x17 m14))
def F_T_when (a1 : Int32) (a2 : Int32) (m0 : Mem) : Option ((Nat ⊕ Int32) × Mem) :=
bndX (F_T_mustBeState a1 (2 : Int32) (0 : Int32) a2 m0) fun _ m1 =>
bnd (F_Od_ready (0 : Int32) (gI m1 3 5) false m1) fun _ m4 =>
F_T_when_L27 a1 a2 1000000 (-81 : Int32) m4
def F_T_wins (a1 : Int32) (a2 : Int32) (a3 : Bool) (a4 : Int32) (a5 : Int32) (a6 : Int32) (m0 : Mem) : Option ((Nat ⊕ Int64) × Mem) :=
bndX (F_T_mustBeState a1 a2 a4 a5 m0) fun _ m1 =>
lt (fun (m4 : Mem) => ((some (.inl 4, m4)) : Option ((Nat ⊕ Int64) × Mem))) fun k21_4 =>
if a6 < 0 then (
k21_4 m1) else (
if a6 ≤ (2 : Int32) then (
bnd (F_Od_ready (0 : Int32) (gI m1 3 5) false m1) fun _ m5 =>
bnd (F_Od_kindOf a2 a3 m5) fun x10 m8 =>
bnd (F_T_winsOf a1 x10 a4 a5 a6 m8) fun y13 m11 =>
some (.inr y13, m11)) else (
k21_4 m1))
def F_T_worth (a1 : Int32) (a2 : Int32) (m0 : Mem) : Option ((Nat ⊕ Int64) × Mem) :=
bndX (F_T_mustBeBelow a1 (2 : Int32) m0) fun _ m1 =>
if a2 = 0 then (
bnd (F_T_tossValue a1 a1 m1) fun y6 m4 =>
some (.inr y6, m4)) else (
if a2 = 1 then (
bnd (F_T_tossValue a1 ((1 : Int32) - a1) m1) fun y9 m7 =>
some (.inr y9, m7)) else (
if a2 = 2 then (
bnd (F_T_tossValue a1 (0 : Int32) m1) fun y12 m10 =>
bnd (F_T_tossValue a1 (1 : Int32) m10) fun y15 m13 =>
some (.inr (abL (y12 - y15)), m13)) else (
if a2 = 3 then (
bnd (F_T_leftValue a1 m1) fun y18 m16 =>
some (.inr y18, m16)) else (
some (.inl 4, m1)))))
def F_M_in (a0 : Int32) (a1 : Int32) (a2 : Int32) (m0 : Mem) : Option (Bool × Mem) :=
if a0 < a1 then (
some (false, m0)) else (
if a2 < a0 then (
some (false, m0)) else (
some (true, m0)))
def F_M_noSlot (a0 : Int32) (m0 : Mem) : Option (Bool × Mem) :=
bnd (F_M_in a0 (0 : Int32) (3 : Int32) m0) fun z3 m1 =>
if z3 = true then (
some (false, m1)) else (
some (true, m1))
def F_M_throwsIf (a1 : Bool) (a2 : Int32) (m0 : Mem) : Option (Bool × Mem) :=
if a1 = true then (
lt (sI m0 78 0 a2) fun m1 =>
some (a1, m1)) else (
some (a1, m0))
def F_M_firstSide (m0 : Mem) : Option (Int32 × Mem) :=
some (gI m0 79 10, m0)
def F_M_isOver (m0 : Mem) : Option (Bool × Mem) :=
if (gI m0 79 18) < 0 then (
some (false, m0)) else (
some (true, m0))
def F_M_isOn (m0 : Mem) : Option (Bool × Mem) :=
bnd (F_M_firstSide m0) fun x3 m1 =>
if x3 < 0 then (
some (false, m1)) else (
bnd (F_M_isOver m1) fun z6 m4 =>
if z6 = true then (
some (false, m4)) else (
some (true, m4)))
def F_M_played (m0 : Mem) : Option (Int32 × Mem) :=
some (gI m0 79 17, m0)
def F_M_isFollowed (m0 : Mem) : Option (Bool × Mem) :=
if (gI m0 79 12) = (1 : Int32) then (
some (true, m0)) else (
some (false, m0))
def F_M_batting (a0 : Int32) (a1 : Int32) (a2 : Bool) (m0 : Mem) : Option (Int32 × Mem) :=
lt (fun (z2 : Bool) (m1 : Mem) => ((if (b2i z2) = (b2i a2) then (
some ((1 : Int32) - a0, m1)) else (
some (a0, m1))) : Option (Int32 × Mem))) fun k14_2 =>
lt (fun (m3 : Mem) => ((k14_2 true m3) : Option (Int32 × Mem))) fun k9_3 =>
if a1 = 0 then (
k9_3 m0) else (
if a1 = (2 : Int32) then (
k9_3 m0) else (
k14_2 false m0))
def F_M_batter (m0 : Mem) : Option (Int32 × Mem) :=
bnd (F_M_firstSide m0) fun x3 m1 =>
bnd (F_M_isFollowed m1) fun z6 m4 =>
bnd (F_M_batting x3 (gI m1 79 11) z6 m4) fun x9 m7 =>
some (x9, m7)
def F_M_leadOf (a1 : Int32) (m0 : Mem) : Option (Int32 × Mem) :=
ckB (inb ((15 : Int32) + a1) 1972) <|
lt (gI m0 79 ((15 : Int32) + a1).toNatClampNeg) fun x2 =>
ckB (inb ((16 : Int32) - a1) 1972) <|
lt (gI m0 79 ((16 : Int32) - a1).toNatClampNeg) fun x4 =>
some (x2 - x4, m0)
def F_M_mostRuns_L4  : Nat → Int32 → Int32 → Mem → Option (Int32 × Mem)
  | 0, _, _, _ => none
  | nf4 + 1, x2, x3, m1 =>
    if (16 : Int32) ≤ x3 then (
    some (x2, m1)) else (
    ckB (inb ((23 : Int32) + ((2 : Int32) * x3)) 1972) <|
    lt (gI m1 79 ((23 : Int32) + ((2 : Int32) * x3)).toNatClampNeg) fun x7 =>
    lt (mxI x2 x7 : Int32) fun x8 =>
    lt (x3 + (1 : Int32) : Int32) fun x9 =>
    F_M_mostRuns_L4 nf4 x8 x9 m1)
def F_M_mostRuns (m0 : Mem) : Option (Int32 × Mem) :=
F_M_mostRuns_L4 1000000 (0 : Int32) (0 : Int32) m0
def F_M_size (m0 : Mem) : Option (Int32 × Mem) :=
some (gI m0 79 0, m0)
def F_M_inningsOf (a0 : Int32) (m0 : Mem) : Option (Int32 × Mem) :=
if (2 : Int32) ≤ a0 then (
if (4 : Int32) ≤ a0 then (
some ((3 : Int32), m0)) else (
some ((2 : Int32), m0))) else (
some (a0, m0))
def F_M_isBehind (a0 : Int32) (m0 : Mem) : Option (Bool × Mem) :=
if a0 = (3 : Int32) then (
some (true, m0)) else (
if a0 = (5 : Int32) then (
some (true, m0)) else (
some (false, m0)))
def F_M_factOf (a1 : Int32) (a2 : Int32) (a3 : Int32) (a4 : Int32) (a5 : Int32) (m0 : Mem) : Option (Int32 × Mem) :=
if a1 = 0 then (
some (a3, m0)) else (
if a1 = 1 then (
some (a3 / (3 : Int32), m0)) else (
if a1 = 2 then (
some (a4, m0)) else (
if a1 = 3 then (
some (a5, m0)) else (
if a1 = 4 then (
ckB (inb ((19 : Int32) + ((2 : Int32) * a5)) 1972) <|
lt (gI m0 79 ((19 : Int32) + ((2 : Int32) * a5)).toNatClampNeg) fun x2 =>
some (x2, m0)) else (
if a1 = 5 then (
lt ((19 : Int32) + ((2 : Int32) * ((1 : Int32) - a5)) : Int32) fun x3 =>
ckB (inb (x3 + (1 : Int32)) 1972) <|
lt (gI m0 79 (x3 + (1 : Int32)).toNatClampNeg) fun x5 =>
some (x5, m0)) else (
if a1 = 6 then (
some (((gI m0 79 6) >>> (a3 &&& 31)) &&& (1 : Int32), m0)) else (
if a1 = 7 then (
some (((gI m0 79 7) >>> (a3 &&& 31)) &&& (1 : Int32), m0)) else (
some (a2, m0)))))))))
def F_M_holdsLine_L23 (a2 : Int32) (a3 : Int32) (a4 : Int32) (x1 : Int32) (k273_5 : Int32 → Mem → Option (Bool × Mem)) : Nat → Int32 → Int32 → Mem → Option (Bool × Mem)
  | 0, _, _, _ => none
  | nf9 + 1, x7, x8, m6 =>
    ckB (inb (x1 + (2 : Int32)) 1972) <|
    lt (gI m6 79 (x1 + (2 : Int32)).toNatClampNeg) fun x12 =>
    if x12 ≤ x8 then (
    k273_5 x7 m6) else (
    ckB (inb ((335 : Int32) + ((2 : Int32) * x8)) 1972) <|
    lt (gI m6 79 ((335 : Int32) + ((2 : Int32) * x8)).toNatClampNeg) fun x14 =>
    lt (fun (x16 : Int32) (m15 : Mem) => ((lt (x8 + (1 : Int32) : Int32) fun x17 =>
    F_M_holdsLine_L23 a2 a3 a4 x1 k273_5 nf9 x16 x17 m15) : Option (Bool × Mem))) fun k267_16 =>
    if (8 : Int32) < x14 then (
    if x14 = (12 : Int32) then (
    ckB (inb (x7 - (1 : Int32)) 400) <|
    lt (gI m6 85 (x7 - (1 : Int32)).toNatClampNeg) fun x30 =>
    ckB (inb (x7 - (1 : Int32)) 400) <|
    lt (sI m6 85 (x7 - (1 : Int32)).toNatClampNeg ((1 : Int32) - x30)) fun m31 =>
    k267_16 x7 m31) else (
    lt (x7 + (-1 : Int32) : Int32) fun x18 =>
    ckB (inb (x18 - (1 : Int32)) 400) <|
    lt (gI m6 85 (x18 - (1 : Int32)).toNatClampNeg) fun x20 =>
    ckB (inb x18 400) <|
    lt (gI m6 85 x18.toNatClampNeg) fun x22 =>
    lt (fun (z24 : Bool) (m23 : Mem) => ((lt (fun (x26 : Int32) (m25 : Mem) => ((ckB (inb (x18 - (1 : Int32)) 400) <|
    lt (sI m25 85 (x18 - (1 : Int32)).toNatClampNeg x26) fun m27 =>
    k267_16 x18 m27) : Option (Bool × Mem))) fun k266_26 =>
    if x14 = (9 : Int32) then (
    k266_26 (x20 + x22) m23) else (
    if z24 = true then (
    k266_26 (1 : Int32) m23) else (
    k266_26 (0 : Int32) m23))) : Option (Bool × Mem))) fun k231_24 =>
    if x14 = (10 : Int32) then (
    if x22 ≤ x20 then (
    k231_24 false m6) else (
    k231_24 true m6)) else (
    if x14 = (11 : Int32) then (
    if x20 ≤ x22 then (
    k231_24 false m6) else (
    k231_24 true m6)) else (
    if x14 = (13 : Int32) then (
    if (x20 + x22) = (2 : Int32) then (
    k231_24 true m6) else (
    k231_24 false m6)) else (
    if (x20 + x22) ≤ 0 then (
    k231_24 false m6) else (
    k231_24 true m6)))))) else (
    lt (((335 : Int32) + ((2 : Int32) * x8)) + (1 : Int32) : Int32) fun x33 =>
    ckB (inb x33 1972) <|
    lt (gI m6 79 x33.toNatClampNeg) fun x35 =>
    bnd (F_M_factOf x14 x35 a2 a3 a4 m6) fun x38 m36 =>
    ckB (inb x7 400) <|
    lt (sI m36 85 x7.toNatClampNeg x38) fun m39 =>
    lt (x7 + (1 : Int32) : Int32) fun x41 =>
    k267_16 x41 m39))
def F_M_holdsLine (a1 : Int32) (a2 : Int32) (a3 : Int32) (a4 : Int32) (m0 : Mem) : Option (Bool × Mem) :=
lt ((299 : Int32) + ((3 : Int32) * a1) : Int32) fun x1 =>
ckB (inb (x1 + (1 : Int32)) 1972) <|
lt (gI m0 79 (x1 + (1 : Int32)).toNatClampNeg) fun x3 =>
lt (fun (x5 : Int32) (m4 : Mem) => ((if x5 = 0 then (
some (true, m4)) else (
if (gI m4 85 0) = (1 : Int32) then (
some (true, m4)) else (
some (false, m4)))) : Option (Bool × Mem))) fun k273_5 =>
F_M_holdsLine_L23 a2 a3 a4 x1 k273_5 1000000 (0 : Int32) x3 m0
def F_M_levelOf_L17 (a1 : Int32) (a2 : Int32) (a3 : Int32) (k70_2 : Int32 → Mem → Option (Int32 × Mem)) : Nat → Int32 → Int32 → Mem → Option (Int32 × Mem)
  | 0, _, _, _ => none
  | nf6 + 1, x4, x5, m3 =>
    if (gI m3 79 298) ≤ x5 then (
    k70_2 x4 m3) else (
    bnd (F_M_holdsLine x5 a1 a2 a3 m3) fun z10 m8 =>
    lt (fun (x12 : Int32) (m11 : Mem) => ((lt (x4 + x12 : Int32) fun x13 =>
    lt (x5 + (1 : Int32) : Int32) fun x14 =>
    F_M_levelOf_L17 a1 a2 a3 k70_2 nf6 x13 x14 m11) : Option (Int32 × Mem))) fun k61_12 =>
    if z10 = true then (
    ckB (inb ((299 : Int32) + ((3 : Int32) * x5)) 1972) <|
    lt (gI m8 79 ((299 : Int32) + ((3 : Int32) * x5)).toNatClampNeg) fun x16 =>
    k61_12 x16 m8) else (
    k61_12 (0 : Int32) m8))
def F_M_levelOf (a1 : Int32) (a2 : Int32) (a3 : Int32) (m0 : Mem) : Option (Int32 × Mem) :=
if (gI m0 79 4) = 0 then (
some ((1 : Int32), m0)) else (
lt (fun (x2 : Int32) (m1 : Mem) => ((some (mnI (3 : Int32) x2, m1)) : Option (Int32 × Mem))) fun k70_2 =>
F_M_levelOf_L17 a1 a2 a3 k70_2 1000000 (0 : Int32) (0 : Int32) m0)
