section INV
/-- a match -/
def Mt : Type := (Int) × (Int) × (Int) × (Int) × (Int) × (Bool) × (Bool) × (Int32) × (Int) × (Int) × (Nat → Int32)
def Mt.fi (t : Mt) : Int := t.1
def Mt.inn (t : Mt) : Int := t.2.1
def Mt.out (t : Mt) : Int := t.2.2.1
def Mt.pl (t : Mt) : Int := t.2.2.2.1
def Mt.win (t : Mt) : Int := t.2.2.2.2.1
def Mt.fol (t : Mt) : Bool := t.2.2.2.2.2.1
def Mt.fr (t : Mt) : Bool := t.2.2.2.2.2.2.1
def Mt.sd (t : Mt) : Int32 := t.2.2.2.2.2.2.2.1
def Mt.r0 (t : Mt) : Int := t.2.2.2.2.2.2.2.2.1
def Mt.r1 (t : Mt) : Int := t.2.2.2.2.2.2.2.2.2.1
def Mt.lg (t : Mt) : Nat → Int32 := t.2.2.2.2.2.2.2.2.2.2
def Mt.mk (fi : Int) (inn : Int) (out : Int) (pl : Int) (win : Int) (fol : Bool) (fr : Bool) (sd : Int32) (r0 : Int) (r1 : Int) (lg : Nat → Int32) : Mt := (fi, inn, out, pl, win, fol, fr, sd, r0, r1, lg)
theorem Mt.fi_mk (fiq : Int) (innq : Int) (outq : Int) (plq : Int) (winq : Int) (folq : Bool) (frq : Bool) (sdq : Int32) (r0q : Int) (r1q : Int) (lgq : Nat → Int32) : (Mt.mk fiq innq outq plq winq folq frq sdq r0q r1q lgq).fi = fiq := rfl
theorem Mt.inn_mk (fiq : Int) (innq : Int) (outq : Int) (plq : Int) (winq : Int) (folq : Bool) (frq : Bool) (sdq : Int32) (r0q : Int) (r1q : Int) (lgq : Nat → Int32) : (Mt.mk fiq innq outq plq winq folq frq sdq r0q r1q lgq).inn = innq := rfl
theorem Mt.out_mk (fiq : Int) (innq : Int) (outq : Int) (plq : Int) (winq : Int) (folq : Bool) (frq : Bool) (sdq : Int32) (r0q : Int) (r1q : Int) (lgq : Nat → Int32) : (Mt.mk fiq innq outq plq winq folq frq sdq r0q r1q lgq).out = outq := rfl
theorem Mt.pl_mk (fiq : Int) (innq : Int) (outq : Int) (plq : Int) (winq : Int) (folq : Bool) (frq : Bool) (sdq : Int32) (r0q : Int) (r1q : Int) (lgq : Nat → Int32) : (Mt.mk fiq innq outq plq winq folq frq sdq r0q r1q lgq).pl = plq := rfl
theorem Mt.win_mk (fiq : Int) (innq : Int) (outq : Int) (plq : Int) (winq : Int) (folq : Bool) (frq : Bool) (sdq : Int32) (r0q : Int) (r1q : Int) (lgq : Nat → Int32) : (Mt.mk fiq innq outq plq winq folq frq sdq r0q r1q lgq).win = winq := rfl
theorem Mt.fol_mk (fiq : Int) (innq : Int) (outq : Int) (plq : Int) (winq : Int) (folq : Bool) (frq : Bool) (sdq : Int32) (r0q : Int) (r1q : Int) (lgq : Nat → Int32) : (Mt.mk fiq innq outq plq winq folq frq sdq r0q r1q lgq).fol = folq := rfl
theorem Mt.fr_mk (fiq : Int) (innq : Int) (outq : Int) (plq : Int) (winq : Int) (folq : Bool) (frq : Bool) (sdq : Int32) (r0q : Int) (r1q : Int) (lgq : Nat → Int32) : (Mt.mk fiq innq outq plq winq folq frq sdq r0q r1q lgq).fr = frq := rfl
theorem Mt.sd_mk (fiq : Int) (innq : Int) (outq : Int) (plq : Int) (winq : Int) (folq : Bool) (frq : Bool) (sdq : Int32) (r0q : Int) (r1q : Int) (lgq : Nat → Int32) : (Mt.mk fiq innq outq plq winq folq frq sdq r0q r1q lgq).sd = sdq := rfl
theorem Mt.r0_mk (fiq : Int) (innq : Int) (outq : Int) (plq : Int) (winq : Int) (folq : Bool) (frq : Bool) (sdq : Int32) (r0q : Int) (r1q : Int) (lgq : Nat → Int32) : (Mt.mk fiq innq outq plq winq folq frq sdq r0q r1q lgq).r0 = r0q := rfl
theorem Mt.r1_mk (fiq : Int) (innq : Int) (outq : Int) (plq : Int) (winq : Int) (folq : Bool) (frq : Bool) (sdq : Int32) (r0q : Int) (r1q : Int) (lgq : Nat → Int32) : (Mt.mk fiq innq outq plq winq folq frq sdq r0q r1q lgq).r1 = r1q := rfl
theorem Mt.lg_mk (fiq : Int) (innq : Int) (outq : Int) (plq : Int) (winq : Int) (folq : Bool) (frq : Bool) (sdq : Int32) (r0q : Int) (r1q : Int) (lgq : Nat → Int32) : (Mt.mk fiq innq outq plq winq folq frq sdq r0q r1q lgq).lg = lgq := rfl
/-- as the class has it, at object o and its log behind -/
def CM (m : Mem) (o : Nat) (t : Mt) : Prop := gI m o 0 = iI t.fi ∧ gI m o 1 = iI t.inn ∧ gI m o 2 = iI t.out ∧ gI m o 3 = iI t.pl ∧ gI m o 4 = iI t.win ∧ gZ m o 5 = t.fol ∧ gZ m o 6 = t.fr ∧ gI m o 7 = t.sd ∧ gI m o 8 = iI t.r0 ∧ gI m o 9 = iI t.r1 ∧ ∀ j : Nat, (j : Int) < 7 * t.pl → gI m (o + 1) j = t.lg j
/-- as the reference has it, in row A from f on -/
def WM (m : Mem) (A f : Nat) (t : Mt) : Prop := gI m A (f + 9) = t.sd ∧ gI m A (f + 10) = iI t.fi ∧ gI m A (f + 11) = iI t.inn ∧ gI m A (f + 12) = b2i t.fol ∧ gI m A (f + 13) = iI t.out ∧ gI m A (f + 14) = b2i t.fr ∧ gI m A (f + 15) = iI t.r0 ∧ gI m A (f + 16) = iI t.r1 ∧ gI m A (f + 17) = iI t.pl ∧ gI m A (f + 18) = iI t.win ∧ ∀ j : Nat, (j : Int) < 7 * t.pl → gI m A (f + 235 + j) = t.lg j
/-- what a match always is, of n sessions -/
def MtOk (t : Mt) (n : Int) : Prop := (-1 ≤ t.fi) ∧ (t.fi ≤ 1) ∧ (0 ≤ t.inn) ∧ (t.inn ≤ 3) ∧ (0 ≤ t.out) ∧ (t.out ≤ 10) ∧ (0 ≤ t.pl) ∧ (t.pl ≤ n) ∧ (-1 ≤ t.win) ∧ (t.win ≤ 2) ∧ (0 ≤ t.r0) ∧ (t.r0 ≤ 9 * t.pl) ∧ (0 ≤ t.r1) ∧ (t.r1 ≤ 9 * t.pl) ∧ (t.fol = true → 2 ≤ t.inn) ∧ (t.fi = -1 → t.win = -1 ∧ t.pl = 0 ∧ t.inn = 0 ∧ t.out = 0 ∧ t.fr = false) ∧ (t.win = -1 → t.out < 10) ∧ (0 ≤ t.fi → t.win = -1 → t.pl < n) ∧ (t.fr = true → t.out = 0)
theorem MtOk.fi0 {t : Mt} {n : Int} (h : MtOk t n) : -1 ≤ t.fi := h.1
theorem MtOk.fi1 {t : Mt} {n : Int} (h : MtOk t n) : t.fi ≤ 1 := h.2.1
theorem MtOk.in0 {t : Mt} {n : Int} (h : MtOk t n) : 0 ≤ t.inn := h.2.2.1
theorem MtOk.in3 {t : Mt} {n : Int} (h : MtOk t n) : t.inn ≤ 3 := h.2.2.2.1
theorem MtOk.ou0 {t : Mt} {n : Int} (h : MtOk t n) : 0 ≤ t.out := h.2.2.2.2.1
theorem MtOk.ou1 {t : Mt} {n : Int} (h : MtOk t n) : t.out ≤ 10 := h.2.2.2.2.2.1
theorem MtOk.pl0 {t : Mt} {n : Int} (h : MtOk t n) : 0 ≤ t.pl := h.2.2.2.2.2.2.1
theorem MtOk.pl1 {t : Mt} {n : Int} (h : MtOk t n) : t.pl ≤ n := h.2.2.2.2.2.2.2.1
theorem MtOk.wi0 {t : Mt} {n : Int} (h : MtOk t n) : -1 ≤ t.win := h.2.2.2.2.2.2.2.2.1
theorem MtOk.wi2 {t : Mt} {n : Int} (h : MtOk t n) : t.win ≤ 2 := h.2.2.2.2.2.2.2.2.2.1
theorem MtOk.a0 {t : Mt} {n : Int} (h : MtOk t n) : 0 ≤ t.r0 := h.2.2.2.2.2.2.2.2.2.2.1
theorem MtOk.a1 {t : Mt} {n : Int} (h : MtOk t n) : t.r0 ≤ 9 * t.pl := h.2.2.2.2.2.2.2.2.2.2.2.1
theorem MtOk.b0 {t : Mt} {n : Int} (h : MtOk t n) : 0 ≤ t.r1 := h.2.2.2.2.2.2.2.2.2.2.2.2.1
theorem MtOk.b1 {t : Mt} {n : Int} (h : MtOk t n) : t.r1 ≤ 9 * t.pl := h.2.2.2.2.2.2.2.2.2.2.2.2.2.1
theorem MtOk.fo {t : Mt} {n : Int} (h : MtOk t n) : t.fol = true → 2 ≤ t.inn := h.2.2.2.2.2.2.2.2.2.2.2.2.2.2.1
theorem MtOk.no {t : Mt} {n : Int} (h : MtOk t n) : t.fi = -1 → t.win = -1 ∧ t.pl = 0 ∧ t.inn = 0 ∧ t.out = 0 ∧ t.fr = false := h.2.2.2.2.2.2.2.2.2.2.2.2.2.2.2.1
theorem MtOk.on {t : Mt} {n : Int} (h : MtOk t n) : t.win = -1 → t.out < 10 := h.2.2.2.2.2.2.2.2.2.2.2.2.2.2.2.2.1
theorem MtOk.pn {t : Mt} {n : Int} (h : MtOk t n) : 0 ≤ t.fi → t.win = -1 → t.pl < n := h.2.2.2.2.2.2.2.2.2.2.2.2.2.2.2.2.2.1
theorem MtOk.fre {t : Mt} {n : Int} (h : MtOk t n) : t.fr = true → t.out = 0 := h.2.2.2.2.2.2.2.2.2.2.2.2.2.2.2.2.2.2
theorem MtOk.mk {t : Mt} {n : Int} (h : (-1 ≤ t.fi) ∧ (t.fi ≤ 1) ∧ (0 ≤ t.inn) ∧ (t.inn ≤ 3) ∧ (0 ≤ t.out) ∧ (t.out ≤ 10) ∧ (0 ≤ t.pl) ∧ (t.pl ≤ n) ∧ (-1 ≤ t.win) ∧ (t.win ≤ 2) ∧ (0 ≤ t.r0) ∧ (t.r0 ≤ 9 * t.pl) ∧ (0 ≤ t.r1) ∧ (t.r1 ≤ 9 * t.pl) ∧ (t.fol = true → 2 ≤ t.inn) ∧ (t.fi = -1 → t.win = -1 ∧ t.pl = 0 ∧ t.inn = 0 ∧ t.out = 0 ∧ t.fr = false) ∧ (t.win = -1 → t.out < 10) ∧ (0 ≤ t.fi → t.win = -1 → t.pl < n) ∧ (t.fr = true → t.out = 0)) : MtOk t n := h
/-- the ground as the class has it and as the reference has it -/
def GR (m : Mem) (o bt bw ro uo lo co bk ce A : Nat) (law : Option (List (Int × List Int))) (n mg dw tx bc : Int) : Prop := (1 ≤ n) ∧ (n ≤ 9) ∧ (0 ≤ mg) ∧ (mg ≤ 99) ∧ (0 ≤ dw) ∧ (dw ≤ 100) ∧ (0 ≤ tx) ∧ (tx ≤ 12) ∧ (0 ≤ bc) ∧ (bc ≤ 60) ∧ (gI m o 0 = iI n) ∧ (gI m A 0 = iI n) ∧ (gI m o 4 = iI mg) ∧ (gI m A 1 = iI mg) ∧ (gI m o 5 = iI dw) ∧ (gI m A 2 = iI dw) ∧ (gI m o 6 = iI tx) ∧ (gI m A 3 = iI tx) ∧ (gI m bk 0 = iI bc) ∧ (gI m A 5 = iI bc) ∧ (gI m o 1 = gI m A 6) ∧ (gI m o 2 = gI m A 7) ∧ (gI m o 3 = gI m A 8) ∧ (SidesRep m bt bw A) ∧ (SlotRep m ro uo A) ∧ (∀ j : Nat, j < 4 → ∃ z : Int, gI m A (19 + j) = iI z ∧ 0 ≤ z ∧ z ≤ 9) ∧ (∀ j : Nat, j < 32 → ∃ z : Int, gI m A (23 + j) = iI z ∧ 0 ≤ z ∧ z ≤ 9) ∧ (∀ j : Nat, (j : Int) < 3 * bc → gI m ce j = gI m A (55 + j)) ∧ (∀ j : Nat, (j : Int) < bc → (∃ z : Int, gI m A (55 + 3 * j) = iI z ∧ 0 ≤ z ∧ z ≤ 1) ∧ (∃ z : Int, gI m A (55 + 3 * j + 1) = iI z ∧ 0 ≤ z ∧ z ≤ 1) ∧ ∃ z : Int, gI m A (55 + 3 * j + 2) = iI z ∧ 0 ≤ z ∧ z ≤ 2) ∧ (LawRep law m lo co A)
theorem GR.n1 {m : Mem} {o bt bw ro uo lo co bk ce A : Nat} {law : Option (List (Int × List Int))} {n mg dw tx bc : Int} (h : GR m o bt bw ro uo lo co bk ce A law n mg dw tx bc) : 1 ≤ n := h.1
theorem GR.n9 {m : Mem} {o bt bw ro uo lo co bk ce A : Nat} {law : Option (List (Int × List Int))} {n mg dw tx bc : Int} (h : GR m o bt bw ro uo lo co bk ce A law n mg dw tx bc) : n ≤ 9 := h.2.1
theorem GR.mg0 {m : Mem} {o bt bw ro uo lo co bk ce A : Nat} {law : Option (List (Int × List Int))} {n mg dw tx bc : Int} (h : GR m o bt bw ro uo lo co bk ce A law n mg dw tx bc) : 0 ≤ mg := h.2.2.1
theorem GR.mg9 {m : Mem} {o bt bw ro uo lo co bk ce A : Nat} {law : Option (List (Int × List Int))} {n mg dw tx bc : Int} (h : GR m o bt bw ro uo lo co bk ce A law n mg dw tx bc) : mg ≤ 99 := h.2.2.2.1
theorem GR.dw0 {m : Mem} {o bt bw ro uo lo co bk ce A : Nat} {law : Option (List (Int × List Int))} {n mg dw tx bc : Int} (h : GR m o bt bw ro uo lo co bk ce A law n mg dw tx bc) : 0 ≤ dw := h.2.2.2.2.1
theorem GR.dw9 {m : Mem} {o bt bw ro uo lo co bk ce A : Nat} {law : Option (List (Int × List Int))} {n mg dw tx bc : Int} (h : GR m o bt bw ro uo lo co bk ce A law n mg dw tx bc) : dw ≤ 100 := h.2.2.2.2.2.1
theorem GR.tx0 {m : Mem} {o bt bw ro uo lo co bk ce A : Nat} {law : Option (List (Int × List Int))} {n mg dw tx bc : Int} (h : GR m o bt bw ro uo lo co bk ce A law n mg dw tx bc) : 0 ≤ tx := h.2.2.2.2.2.2.1
theorem GR.tx9 {m : Mem} {o bt bw ro uo lo co bk ce A : Nat} {law : Option (List (Int × List Int))} {n mg dw tx bc : Int} (h : GR m o bt bw ro uo lo co bk ce A law n mg dw tx bc) : tx ≤ 12 := h.2.2.2.2.2.2.2.1
theorem GR.bc0 {m : Mem} {o bt bw ro uo lo co bk ce A : Nat} {law : Option (List (Int × List Int))} {n mg dw tx bc : Int} (h : GR m o bt bw ro uo lo co bk ce A law n mg dw tx bc) : 0 ≤ bc := h.2.2.2.2.2.2.2.2.1
theorem GR.bc9 {m : Mem} {o bt bw ro uo lo co bk ce A : Nat} {law : Option (List (Int × List Int))} {n mg dw tx bc : Int} (h : GR m o bt bw ro uo lo co bk ce A law n mg dw tx bc) : bc ≤ 60 := h.2.2.2.2.2.2.2.2.2.1
theorem GR.cn {m : Mem} {o bt bw ro uo lo co bk ce A : Nat} {law : Option (List (Int × List Int))} {n mg dw tx bc : Int} (h : GR m o bt bw ro uo lo co bk ce A law n mg dw tx bc) : gI m o 0 = iI n := h.2.2.2.2.2.2.2.2.2.2.1
theorem GR.wn {m : Mem} {o bt bw ro uo lo co bk ce A : Nat} {law : Option (List (Int × List Int))} {n mg dw tx bc : Int} (h : GR m o bt bw ro uo lo co bk ce A law n mg dw tx bc) : gI m A 0 = iI n := h.2.2.2.2.2.2.2.2.2.2.2.1
theorem GR.cmg {m : Mem} {o bt bw ro uo lo co bk ce A : Nat} {law : Option (List (Int × List Int))} {n mg dw tx bc : Int} (h : GR m o bt bw ro uo lo co bk ce A law n mg dw tx bc) : gI m o 4 = iI mg := h.2.2.2.2.2.2.2.2.2.2.2.2.1
theorem GR.wmg {m : Mem} {o bt bw ro uo lo co bk ce A : Nat} {law : Option (List (Int × List Int))} {n mg dw tx bc : Int} (h : GR m o bt bw ro uo lo co bk ce A law n mg dw tx bc) : gI m A 1 = iI mg := h.2.2.2.2.2.2.2.2.2.2.2.2.2.1
theorem GR.cdw {m : Mem} {o bt bw ro uo lo co bk ce A : Nat} {law : Option (List (Int × List Int))} {n mg dw tx bc : Int} (h : GR m o bt bw ro uo lo co bk ce A law n mg dw tx bc) : gI m o 5 = iI dw := h.2.2.2.2.2.2.2.2.2.2.2.2.2.2.1
theorem GR.wdw {m : Mem} {o bt bw ro uo lo co bk ce A : Nat} {law : Option (List (Int × List Int))} {n mg dw tx bc : Int} (h : GR m o bt bw ro uo lo co bk ce A law n mg dw tx bc) : gI m A 2 = iI dw := h.2.2.2.2.2.2.2.2.2.2.2.2.2.2.2.1
theorem GR.ctx {m : Mem} {o bt bw ro uo lo co bk ce A : Nat} {law : Option (List (Int × List Int))} {n mg dw tx bc : Int} (h : GR m o bt bw ro uo lo co bk ce A law n mg dw tx bc) : gI m o 6 = iI tx := h.2.2.2.2.2.2.2.2.2.2.2.2.2.2.2.2.1
theorem GR.wtx {m : Mem} {o bt bw ro uo lo co bk ce A : Nat} {law : Option (List (Int × List Int))} {n mg dw tx bc : Int} (h : GR m o bt bw ro uo lo co bk ce A law n mg dw tx bc) : gI m A 3 = iI tx := h.2.2.2.2.2.2.2.2.2.2.2.2.2.2.2.2.2.1
theorem GR.cbc {m : Mem} {o bt bw ro uo lo co bk ce A : Nat} {law : Option (List (Int × List Int))} {n mg dw tx bc : Int} (h : GR m o bt bw ro uo lo co bk ce A law n mg dw tx bc) : gI m bk 0 = iI bc := h.2.2.2.2.2.2.2.2.2.2.2.2.2.2.2.2.2.2.1
theorem GR.wbc {m : Mem} {o bt bw ro uo lo co bk ce A : Nat} {law : Option (List (Int × List Int))} {n mg dw tx bc : Int} (h : GR m o bt bw ro uo lo co bk ce A law n mg dw tx bc) : gI m A 5 = iI bc := h.2.2.2.2.2.2.2.2.2.2.2.2.2.2.2.2.2.2.2.1
theorem GR.cl {m : Mem} {o bt bw ro uo lo co bk ce A : Nat} {law : Option (List (Int × List Int))} {n mg dw tx bc : Int} (h : GR m o bt bw ro uo lo co bk ce A law n mg dw tx bc) : gI m o 1 = gI m A 6 := h.2.2.2.2.2.2.2.2.2.2.2.2.2.2.2.2.2.2.2.2.1
theorem GR.ti {m : Mem} {o bt bw ro uo lo co bk ce A : Nat} {law : Option (List (Int × List Int))} {n mg dw tx bc : Int} (h : GR m o bt bw ro uo lo co bk ce A law n mg dw tx bc) : gI m o 2 = gI m A 7 := h.2.2.2.2.2.2.2.2.2.2.2.2.2.2.2.2.2.2.2.2.2.1
theorem GR.ra {m : Mem} {o bt bw ro uo lo co bk ce A : Nat} {law : Option (List (Int × List Int))} {n mg dw tx bc : Int} (h : GR m o bt bw ro uo lo co bk ce A law n mg dw tx bc) : gI m o 3 = gI m A 8 := h.2.2.2.2.2.2.2.2.2.2.2.2.2.2.2.2.2.2.2.2.2.2.1
theorem GR.si {m : Mem} {o bt bw ro uo lo co bk ce A : Nat} {law : Option (List (Int × List Int))} {n mg dw tx bc : Int} (h : GR m o bt bw ro uo lo co bk ce A law n mg dw tx bc) : SidesRep m bt bw A := h.2.2.2.2.2.2.2.2.2.2.2.2.2.2.2.2.2.2.2.2.2.2.2.1
theorem GR.sl {m : Mem} {o bt bw ro uo lo co bk ce A : Nat} {law : Option (List (Int × List Int))} {n mg dw tx bc : Int} (h : GR m o bt bw ro uo lo co bk ce A law n mg dw tx bc) : SlotRep m ro uo A := h.2.2.2.2.2.2.2.2.2.2.2.2.2.2.2.2.2.2.2.2.2.2.2.2.1
theorem GR.sir {m : Mem} {o bt bw ro uo lo co bk ce A : Nat} {law : Option (List (Int × List Int))} {n mg dw tx bc : Int} (h : GR m o bt bw ro uo lo co bk ce A law n mg dw tx bc) : ∀ j : Nat, j < 4 → ∃ z : Int, gI m A (19 + j) = iI z ∧ 0 ≤ z ∧ z ≤ 9 := h.2.2.2.2.2.2.2.2.2.2.2.2.2.2.2.2.2.2.2.2.2.2.2.2.2.1
theorem GR.slr {m : Mem} {o bt bw ro uo lo co bk ce A : Nat} {law : Option (List (Int × List Int))} {n mg dw tx bc : Int} (h : GR m o bt bw ro uo lo co bk ce A law n mg dw tx bc) : ∀ j : Nat, j < 32 → ∃ z : Int, gI m A (23 + j) = iI z ∧ 0 ≤ z ∧ z ≤ 9 := h.2.2.2.2.2.2.2.2.2.2.2.2.2.2.2.2.2.2.2.2.2.2.2.2.2.2.1
theorem GR.bo {m : Mem} {o bt bw ro uo lo co bk ce A : Nat} {law : Option (List (Int × List Int))} {n mg dw tx bc : Int} (h : GR m o bt bw ro uo lo co bk ce A law n mg dw tx bc) : ∀ j : Nat, (j : Int) < 3 * bc → gI m ce j = gI m A (55 + j) := h.2.2.2.2.2.2.2.2.2.2.2.2.2.2.2.2.2.2.2.2.2.2.2.2.2.2.2.1
theorem GR.bor {m : Mem} {o bt bw ro uo lo co bk ce A : Nat} {law : Option (List (Int × List Int))} {n mg dw tx bc : Int} (h : GR m o bt bw ro uo lo co bk ce A law n mg dw tx bc) : ∀ j : Nat, (j : Int) < bc → (∃ z : Int, gI m A (55 + 3 * j) = iI z ∧ 0 ≤ z ∧ z ≤ 1) ∧ (∃ z : Int, gI m A (55 + 3 * j + 1) = iI z ∧ 0 ≤ z ∧ z ≤ 1) ∧ ∃ z : Int, gI m A (55 + 3 * j + 2) = iI z ∧ 0 ≤ z ∧ z ≤ 2 := h.2.2.2.2.2.2.2.2.2.2.2.2.2.2.2.2.2.2.2.2.2.2.2.2.2.2.2.2.1
theorem GR.la {m : Mem} {o bt bw ro uo lo co bk ce A : Nat} {law : Option (List (Int × List Int))} {n mg dw tx bc : Int} (h : GR m o bt bw ro uo lo co bk ce A law n mg dw tx bc) : LawRep law m lo co A := h.2.2.2.2.2.2.2.2.2.2.2.2.2.2.2.2.2.2.2.2.2.2.2.2.2.2.2.2.2
theorem GR.mk {m : Mem} {o bt bw ro uo lo co bk ce A : Nat} {law : Option (List (Int × List Int))} {n mg dw tx bc : Int} (h : (1 ≤ n) ∧ (n ≤ 9) ∧ (0 ≤ mg) ∧ (mg ≤ 99) ∧ (0 ≤ dw) ∧ (dw ≤ 100) ∧ (0 ≤ tx) ∧ (tx ≤ 12) ∧ (0 ≤ bc) ∧ (bc ≤ 60) ∧ (gI m o 0 = iI n) ∧ (gI m A 0 = iI n) ∧ (gI m o 4 = iI mg) ∧ (gI m A 1 = iI mg) ∧ (gI m o 5 = iI dw) ∧ (gI m A 2 = iI dw) ∧ (gI m o 6 = iI tx) ∧ (gI m A 3 = iI tx) ∧ (gI m bk 0 = iI bc) ∧ (gI m A 5 = iI bc) ∧ (gI m o 1 = gI m A 6) ∧ (gI m o 2 = gI m A 7) ∧ (gI m o 3 = gI m A 8) ∧ (SidesRep m bt bw A) ∧ (SlotRep m ro uo A) ∧ (∀ j : Nat, j < 4 → ∃ z : Int, gI m A (19 + j) = iI z ∧ 0 ≤ z ∧ z ≤ 9) ∧ (∀ j : Nat, j < 32 → ∃ z : Int, gI m A (23 + j) = iI z ∧ 0 ≤ z ∧ z ≤ 9) ∧ (∀ j : Nat, (j : Int) < 3 * bc → gI m ce j = gI m A (55 + j)) ∧ (∀ j : Nat, (j : Int) < bc → (∃ z : Int, gI m A (55 + 3 * j) = iI z ∧ 0 ≤ z ∧ z ≤ 1) ∧ (∃ z : Int, gI m A (55 + 3 * j + 1) = iI z ∧ 0 ≤ z ∧ z ≤ 1) ∧ ∃ z : Int, gI m A (55 + 3 * j + 2) = iI z ∧ 0 ≤ z ∧ z ≤ 2) ∧ (LawRep law m lo co A)) : GR m o bt bw ro uo lo co bk ce A law n mg dw tx bc := h
theorem RowIs_cg {m m' : Mem} {o o' : Nat} : ∀ {cs : List Int} {i i' : Nat}, (∀ j, j < cs.length → gI m' o' (i' + j) = gI m o (i + j)) → RowIs m o i cs → RowIs m' o' i' cs
  | [], _, _, _, _ => trivial
  | c :: cs, i, i', h, hr => by
    refine ⟨(h 0 (by simp)).trans hr.1, RowIs_cg (fun j hj => ?_) hr.2⟩
    have h1 := h (j + 1) (by simp; omega)
    rw [show i' + (j + 1) = i' + 1 + j by omega, show i + (j + 1) = i + 1 + j by omega] at h1
    exact h1
theorem MRow_cg {m m' : Mem} {o off o' off' N : Nat} (h : ∀ j, j < N → gI m' o' (off' + j) = gI m o (off + j)) : ∀ {cs : List Int} {i : Nat}, 2 * (i + cs.length) ≤ N → MRow m o off i cs → MRow m' o' off' i cs
  | [], _, _, _ => trivial
  | c :: cs, i, hN, hr => by
    simp only [List.length_cons] at hN
    refine ⟨(h _ (by omega)).trans hr.1, ?_, MRow_cg h (by omega) hr.2.2⟩
    rw [Nat.add_assoc, h _ (by omega), ← Nat.add_assoc]
    exact hr.2.1
theorem LinesAt_cg {m m' : Mem} {o off o' off' : Nat} (h : ∀ j, j < 837 → gI m' o' (off' + j) = gI m o (off + j)) : ∀ {law : List (Int × List Int)} {k st : Nat}, k + law.length ≤ 12 → st + stepsL law ≤ 400 → LinesAt m o off k st law → LinesAt m' o' off' k st law
  | [], _, _, _, _, _ => trivial
  | x :: r, k, st, hk, hs, hr => by
    simp only [List.length_cons] at hk
    simp only [stepsL] at hs
    obtain ⟨h1, h2, h3, h4, h5⟩ := hr
    refine ⟨?_, ?_, ?_, MRow_cg (N := 800) (fun j hj => ?_) (by omega) h4, LinesAt_cg h (by omega) (by omega) h5⟩
    · rw [Nat.add_assoc, h _ (by omega), ← Nat.add_assoc]; exact h1
    · rw [Nat.add_assoc, h _ (by omega), ← Nat.add_assoc]; exact h2
    · rw [Nat.add_assoc, h _ (by omega), ← Nat.add_assoc]; exact h3
    · rw [Nat.add_assoc, h _ (by omega), ← Nat.add_assoc]
theorem LawRep.cg {law : Option (List (Int × List Int))} {m m' : Mem} {lo co A lo' co' A' : Nat} (h : LawRep law m lo co A) (h1 : ∀ j, gI m' lo' j = gI m lo j) (h2 : ∀ j, j < 400 → gI m' co' j = gI m co j) (h3 : gI m' A' 4 = gI m A 4) (h4 : ∀ j, j < 837 → gI m' A' (298 + j) = gI m A (298 + j)) : LawRep law m' lo' co' A' := by
  match law, h with
  | none, h => exact ⟨by rw [h3]; exact h.1, by rw [h1]; exact h.2⟩
  | some law, ⟨k1, k2, k3, k4, k5, k6, k7, k8, k9⟩ =>
    refine ⟨by rw [h3]; exact k1, k2, by rw [h1]; exact k3, by rw [h1]; exact k4, k5, ?_, (h4 0 (by omega)).trans k7, ?_, k9⟩
    · exact RowIs_cg (fun j hj => by rw [Nat.zero_add]; exact h2 j (by omega)) k6
    · exact LinesAt_cg h4 (by have := k2.1; omega) (by omega) k8
theorem CM.cg {m m' : Mem} {o o' : Nat} {t : Mt} (h : CM m o t) (h1 : ∀ j, gI m' o' j = gI m o j) (h2 : ∀ j, gI m' (o' + 1) j = gI m (o + 1) j) (h3 : ∀ j, gZ m' o' j = gZ m o j) : CM m' o' t := by
  obtain ⟨k1, k2, k3, k4, k5, k6, k7, k8, k9, ka, kb⟩ := h
  refine ⟨(h1 _).trans k1, (h1 _).trans k2, (h1 _).trans k3, (h1 _).trans k4, (h1 _).trans k5, (h3 _).trans k6, (h3 _).trans k7, (h1 _).trans k8, (h1 _).trans k9, (h1 _).trans ka, fun j hj => (h2 _).trans (kb j hj)⟩
theorem WM.cg {m m' : Mem} {A A' f f' : Nat} {t : Mt} (h : WM m A f t) (h1 : ∀ j, j < 298 → gI m' A' (f' + j) = gI m A (f + j)) (hp : t.pl ≤ 9) : WM m' A' f' t := by
  obtain ⟨k1, k2, k3, k4, k5, k6, k7, k8, k9, ka, kb⟩ := h
  refine ⟨(h1 9 (by omega)).trans k1, (h1 10 (by omega)).trans k2, (h1 11 (by omega)).trans k3, (h1 12 (by omega)).trans k4, (h1 13 (by omega)).trans k5, (h1 14 (by omega)).trans k6, (h1 15 (by omega)).trans k7, (h1 16 (by omega)).trans k8, (h1 17 (by omega)).trans k9, (h1 18 (by omega)).trans ka, fun j hj => ?_⟩
  rw [Nat.add_assoc, h1 (235 + j) (by omega), ← Nat.add_assoc]
  exact kb j hj
/-- objects that stay -/
def Eqs (S : List Nat) (m m' : Mem) : Prop := ∀ o, o ∈ S → ∀ j, gI m' o j = gI m o j ∧ gL m' o j = gL m o j ∧ gZ m' o j = gZ m o j
theorem Fr.eqs {A : List Nat} {L : List (Nat × Nat)} {S : List Nat} {m m' : Mem} (h : Fr A L m m') (hd : S.all (fun o => !A.contains o && !(L.map Prod.fst).contains o) = true) : Eqs S m m' := by
  intro o ho j
  rw [List.all_eq_true] at hd
  have h1 := hd o ho
  simp only [Bool.and_eq_true, Bool.not_eq_true', List.contains_eq_mem, decide_eq_false_iff_not] at h1
  refine h o j h1.1 (fun h2 => h1.2 ?_)
  exact List.mem_map_of_mem h2
theorem GR.cg {m m' : Mem} {o bt bw ro uo lo co bk ce A o' bt' bw' ro' uo' lo' co' bk' ce' A' : Nat} {law : Option (List (Int × List Int))} {n mg dw tx bc : Int} (h : GR m o bt bw ro uo lo co bk ce A law n mg dw tx bc)
    (ho : ∀ j, j < 7 → gI m' o' j = gI m o j) (hbt : ∀ j, j < 2 → gI m' bt' j = gI m bt j) (hbw : ∀ j, j < 2 → gI m' bw' j = gI m bw j) (hro : ∀ j, j < 16 → gI m' ro' j = gI m ro j) (huo : ∀ j, j < 16 → gI m' uo' j = gI m uo j) (hlo : ∀ j, gI m' lo' j = gI m lo j) (hco : ∀ j, j < 400 → gI m' co' j = gI m co j) (hbk : gI m' bk' 0 = gI m bk 0) (hce : ∀ j, j < 180 → gI m' ce' j = gI m ce j) (hA : ∀ j, j < 1135 → (j < 9 ∨ (19 ≤ j ∧ j < 235) ∨ 298 ≤ j) → gI m' A' j = gI m A j) : GR m' o' bt' bw' ro' uo' lo' co' bk' ce' A' law n mg dw tx bc := by
  refine GR.mk ⟨h.n1, h.n9, h.mg0, h.mg9, h.dw0, h.dw9, h.tx0, h.tx9, h.bc0, h.bc9, (ho _ (by omega)).trans h.cn, (hA _ (by omega) (by omega)).trans h.wn, (ho _ (by omega)).trans h.cmg, (hA _ (by omega) (by omega)).trans h.wmg, (ho _ (by omega)).trans h.cdw, (hA _ (by omega) (by omega)).trans h.wdw, (ho _ (by omega)).trans h.ctx, (hA _ (by omega) (by omega)).trans h.wtx, hbk.trans h.cbc, (hA _ (by omega) (by omega)).trans h.wbc, ?_, ?_, ?_, ?_, ?_, ?_, ?_, ?_, ?_, ?_⟩
  · rw [ho _ (by omega), hA _ (by omega) (by omega)]; exact h.cl
  · rw [ho _ (by omega), hA _ (by omega) (by omega)]; exact h.ti
  · rw [ho _ (by omega), hA _ (by omega) (by omega)]; exact h.ra
  · have h1 := h.si
    unfold SidesRep at h1 ⊢
    rw [hbt _ (by omega), hbt _ (by omega), hbw _ (by omega), hbw _ (by omega), hA _ (by omega) (by omega), hA _ (by omega) (by omega), hA _ (by omega) (by omega), hA _ (by omega) (by omega)]; exact h1
  · intro k hk
    rw [hro _ hk, huo _ hk, hA _ (by omega) (by omega), hA _ (by omega) (by omega)]; exact h.sl k hk
  · intro j hj
    rw [hA _ (by omega) (by omega)]; exact h.sir j hj
  · intro j hj
    rw [hA _ (by omega) (by omega)]; exact h.slr j hj
  · intro j hj
    have := h.bc9
    rw [hce _ (by omega), hA _ (by omega) (by omega)]; exact h.bo j hj
  · intro j hj
    have := h.bc9
    rw [hA _ (by omega) (by omega), hA _ (by omega) (by omega), hA _ (by omega) (by omega)]; exact h.bor j hj
  · exact h.la.cg hlo hco (hA _ (by omega) (by omega)) (fun j hj => hA _ (by omega) (by omega))
theorem LevOK.cg {law : Option (List (Int × List Int))} {m m' : Mem} (h : LevOK law m) (h14 : ∀ j, gI m' 14 j = gI m 14 j) (hA : ∀ s i b : Int, levZ (gI m' 79) law s i b = levZ (gI m 79) law s i b) : LevOK law m' := by
  intro k hk
  rw [h14, hA]
  exact h k hk
end INV
