section CG
theorem fcW_cg {w w' : Nat → Int32} (h6 : w' 6 = w 6) (h7 : w' 7 = w 7) (hs : ∀ j, 19 ≤ j → j ≤ 22 → w' j = w j) {s i b : Int} (b0 : 0 ≤ b) (b1 : b ≤ 1) : fcW w' s i b = fcW w s i b := by
  funext c
  unfold fcW
  rw [h6, h7, hs (19 + 2 * b).toNat (by omega) (by omega), hs (20 + 2 * (1 - b)).toNat (by omega) (by omega)]
theorem levZ_cg {w w' : Nat → Int32} (law : Option (List (Int × List Int))) (h6 : w' 6 = w 6) (h7 : w' 7 = w 7) (hs : ∀ j, 19 ≤ j → j ≤ 22 → w' j = w j) {s i b : Int} (b0 : 0 ≤ b) (b1 : b ≤ 1) : levZ w' law s i b = levZ w law s i b := by
  unfold levZ
  rw [fcW_cg h6 h7 hs b0 b1]
theorem LevOK.cg2 {law : Option (List (Int × List Int))} {m m' : Mem} (h : LevOK law m) (h14 : ∀ j, gI m' 14 j = gI m 14 j) (h6 : gI m' 79 6 = gI m 79 6) (h7 : gI m' 79 7 = gI m 79 7) (hs : ∀ j, 19 ≤ j → j ≤ 22 → gI m' 79 j = gI m 79 j) : LevOK law m' := by
  intro k hk
  rw [h14, levZ_cg law h6 h7 hs (by omega) (by omega)]
  exact h k hk
def OPeq (P P' : OP) : Prop := P.n = P'.n ∧ P.mg = P'.mg ∧ P.dw = P'.dw ∧ P.bl = P'.bl ∧ ∀ p k s : Int, 0 ≤ s → s ≤ 3 → P.R p k s = P'.R p k s ∧ P.U p k s = P'.U p k s
theorem ses_cg {P P' : OP} (h : OPeq P P') (al : Int) (pv : Int → Int → Int → Int × Int) (p k o l : Int) (hd : Bool) : ses P al pv p k o l hd = ses P' al pv p k o l hd := by
  have e : ∀ s, 0 ≤ s → s ≤ 3 → slt P al pv p k o l hd s = slt P' al pv p k o l hd s := by
    intro s a b
    unfold slt ou ru
    rw [(h.2.2.2.2 p k s a b).1, (h.2.2.2.2 p k s a b).2]
  unfold ses
  rw [e 0 (by omega) (by omega), e 1 (by omega) (by omega), e 2 (by omega) (by omega), e 3 (by omega) (by omega)]
theorem pick_cg {P P' : OP} (h : OPeq P P') (al : Int) (v w : Int × Int) : pick P al v w = pick P' al v w := by
  unfold pick vl
  rw [h.2.2.1]
theorem frV_cg {P P' : OP} (h : OPeq P P') (al : Int) (pv : Int → Int → Int → Int × Int) (p k l : Int) : frV P al pv p k l = frV P' al pv p k l := by
  unfold frV
  simp only [ses_cg h, pick_cg h, h.2.2.2.1, h.2.1]
theorem atV_cg {P P' : OP} (h : OPeq P P') (al : Int) (pv : Int → Int → Int → Int × Int) (p k o l : Int) : atV P al pv p k o l = atV P' al pv p k o l := by
  unfold atV
  simp only [ses_cg h, pick_cg h, frV_cg h, h.2.2.2.1]
theorem V_cg {P P' : OP} (h : OPeq P P') : ∀ r, V P r = V P' r
  | 0 => rfl
  | r + 1 => by
    funext k o l
    show atV P (four r) (V P r) (P.n - ((r : Int) + 1)) k o l = atV P' (four r) (V P' r) (P'.n - ((r : Int) + 1)) k o l
    rw [V_cg h r, atV_cg h, h.1]
/-- the ground's part of a row stays -/
def GrEq (w' w : Nat → Int32) : Prop := ∀ j, (j < 9 ∨ (19 ≤ j ∧ j < 235) ∨ (298 ≤ j ∧ j < 1135)) → w' j = w j
theorem opOf_n (w : Nat → Int32) (law : Option (List (Int × List Int))) (n mg f dw : Int) (bl : Bool) : (opOf w law n mg f dw bl).n = n := rfl
theorem opOf_mg (w : Nat → Int32) (law : Option (List (Int × List Int))) (n mg f dw : Int) (bl : Bool) : (opOf w law n mg f dw bl).mg = mg := rfl
theorem opOf_dw (w : Nat → Int32) (law : Option (List (Int × List Int))) (n mg f dw : Int) (bl : Bool) : (opOf w law n mg f dw bl).dw = dw := rfl
theorem opOf_bl (w : Nat → Int32) (law : Option (List (Int × List Int))) (n mg f dw : Int) (bl : Bool) : (opOf w law n mg f dw bl).bl = bl := rfl
theorem opOf_R (w : Nat → Int32) (law : Option (List (Int × List Int))) (n mg f dw : Int) (bl : Bool) (p k s : Int) : (opOf w law n mg f dw bl).R p k s = if rainB w p = true then 0 else (w (23 + 2 * (4 * levZ w law p (inn k) (btK f k) + s)).toNat).toInt := rfl
theorem opOf_U (w : Nat → Int32) (law : Option (List (Int × List Int))) (n mg f dw : Int) (bl : Bool) (p k s : Int) : (opOf w law n mg f dw bl).U p k s = if rainB w p = true then 0 else (w (24 + 2 * (4 * levZ w law p (inn k) (btK f k) + s)).toNat).toInt := rfl
theorem op_cg {w w' : Nat → Int32} (hg : GrEq w' w) {law : Option (List (Int × List Int))} (hl : ∀ l, law = some l → okLaw l) {n mg f dw : Int} {bl : Bool} (f0 : 0 ≤ f) (f1 : f ≤ 1) : OPeq (opOf w' law n mg f dw bl) (opOf w law n mg f dw bl) := by
  refine ⟨by rw [opOf_n, opOf_n], by rw [opOf_mg, opOf_mg], by rw [opOf_dw, opOf_dw], by rw [opOf_bl, opOf_bl], fun p k s s0 s3 => ?_⟩
  have hb : 0 ≤ btK f k ∧ btK f k ≤ 1 := by unfold btK; split <;> omega
  have hv : levZ w' law p (inn k) (btK f k) = levZ w law p (inn k) (btK f k) := levZ_cg law (hg 6 (by omega)) (hg 7 (by omega)) (fun j a b => hg j (by omega)) hb.1 hb.2
  have hr : rainB w' p = rainB w p := by unfold rainB; rw [hg 8 (by omega)]
  have hv2 := levZ_rng (w := w) (s := p) (i := inn k) (b := btK f k) hl
  constructor
  · rw [opOf_R, opOf_R, hv, hr, hg _ (by omega)]
  · rw [opOf_U, opOf_U, hv, hr, hg _ (by omega)]
theorem Memo_cg {P P' : OP} {mk : Nat} {m m' : Mem} (h : OPeq P P') (h15 : ∀ j, gL m' 15 j = gL m 15 j) (hm : Memo P mk m) : Memo P' mk m' := by
  intro p k o l a b c d e f g i
  unfold kn
  rw [h15, ← h.1, ← V_cg h]
  exact hm p k o l a (by rw [h.1]; exact b) c d e f g i
theorem OdR.cg {B : Nat} {law : Option (List (Int × List Int))} {n mg wd : Int} {m m' : Mem} (h : OdR B law n mg wd m) (hl : ∀ l, law = some l → okLaw l) (hg : GrEq (gI m' 79) (gI m 79)) (h15 : ∀ j, gL m' 15 j = gL m 15 j) (h2 : ∀ j, gI m' 2 j = gI m 2 j ∧ gL m' 2 j = gL m 2 j ∧ gZ m' 2 j = gZ m 2 j) : OdR B law n mg wd m' := by
  obtain ⟨a, b, c, d, e⟩ := h
  have hg' : GrEq (gI m 79) (gI m' 79) := fun j hj => (hg j hj).symm
  refine ⟨by rw [(h2 2).2.1]; exact a, fun i hi => ?_, fun hz => ?_, ?_, ?_⟩
  · unfold kn
    rw [h15, (h2 2).2.1]
    exact b i hi
  · obtain ⟨f, dw, f0, f1, d0, d1, e1, e2, e3⟩ := c (by rw [← (h2 3).2.2]; exact hz)
    refine ⟨f, dw, f0, f1, d0, d1, by rw [(h2 4).1]; exact e1, by rw [(h2 5).1]; exact e2, ?_⟩
    rw [(h2 2).2.1, (h2 6).2.2]
    exact Memo_cg (op_cg hg' hl f0 f1) h15 e3
  · rw [(h2 7).2.1, V_cg (op_cg hg hl (f := 0) (by omega) (by omega))]
    exact d
  · rw [(h2 8).2.1, V_cg (op_cg hg hl (f := 1) (by omega) (by omega))]
    exact e
end CG
