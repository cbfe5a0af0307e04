section GTELL
/-- a memory with another row of the reference's world -/
def wG (m : Mem) (w : Nat → Int32) : Mem := (fun o j => if o = 79 then w j else m.1 o j, m.2.1, m.2.2)
theorem wG_79 {m : Mem} {w : Nat → Int32} (j : Nat) : gI (wG m w) 79 j = w j := by
  show (if (79 : Nat) = 79 then w j else m.1 79 j) = w j
  exact if_pos rfl
theorem wG_o {m : Mem} {w : Nat → Int32} {o : Nat} (h : o ≠ 79) (j : Nat) : gI (wG m w) o j = gI m o j := by
  show (if o = 79 then w j else m.1 o j) = m.1 o j
  exact if_neg h
def GRw (m : Mem) (w : Nat → Int32) (law : Option (List (Int × List Int))) (n mg dw tx bc : Int) : Prop := GR (wG m w) 3 4 5 6 7 8 9 12 13 79 law n mg dw tx bc
theorem GRw.tx {g g' : Mem} {law : Option (List (Int × List Int))} {n mg dw tx bc : Int} (k : GR g 3 4 5 6 7 8 9 12 13 79 law n mg dw tx bc) (ge : ∀ o j, (3 ≤ o ∧ o ≤ 13 ∧ ¬ (o = 3 ∧ j = 6) ∨ o = 79 ∧ j < 1135 ∧ j ≠ 3) → gI g' o j = gI g o j) (h3 : gI g' 3 6 = iI (tx + 1)) (h79 : gI g' 79 3 = iI (tx + 1)) (ht : tx < 12) : GR g' 3 4 5 6 7 8 9 12 13 79 law n mg dw (tx + 1) bc := by
  refine GR.mk ⟨(k.n1), (k.n9), (k.mg0), (k.mg9), (k.dw0), (k.dw9), ((by have := k.tx0; omega)), ((by omega)), (k.bc0), (k.bc9), ((ge 3 0 (by omega)).trans k.cn), ((ge 79 0 (by omega)).trans k.wn), ((ge 3 4 (by omega)).trans k.cmg), ((ge 79 1 (by omega)).trans k.wmg), ((ge 3 5 (by omega)).trans k.cdw), ((ge 79 2 (by omega)).trans k.wdw), (h3), (h79), ((ge 12 0 (by omega)).trans k.cbc), ((ge 79 5 (by omega)).trans k.wbc), ((ge 3 1 (by omega)).trans (k.cl.trans (ge 79 6 (by omega)).symm)), ((ge 3 2 (by omega)).trans (k.ti.trans (ge 79 7 (by omega)).symm)), ((ge 3 3 (by omega)).trans (k.ra.trans (ge 79 8 (by omega)).symm)), (⟨(ge 4 0 (by omega)).trans (k.si.1.trans (ge 79 19 (by omega)).symm), (ge 4 1 (by omega)).trans (k.si.2.1.trans (ge 79 21 (by omega)).symm), (ge 5 0 (by omega)).trans (k.si.2.2.1.trans (ge 79 20 (by omega)).symm), (ge 5 1 (by omega)).trans (k.si.2.2.2.trans (ge 79 22 (by omega)).symm)⟩), (fun j hj => ⟨(ge 6 j (by omega)).trans ((k.sl j hj).1.trans (ge 79 (23 + 2 * j) (by omega)).symm), (ge 7 j (by omega)).trans ((k.sl j hj).2.trans (ge 79 (24 + 2 * j) (by omega)).symm)⟩), ?_, ?_, ?_, ?_, (k.la.cg2 (fun j hj => ge 8 j (by omega)) (fun j hj => ge 9 j (by omega)) (ge 79 4 (by omega)) (fun j hj => ge 79 (298 + j) (by omega)))⟩
  · intro j hj
    rw [ge 79 (19 + j) (by omega)]
    exact k.sir j hj
  · intro j hj
    rw [ge 79 (23 + j) (by omega)]
    exact k.slr j hj
  · intro j hj
    have := k.bc9
    exact (ge 13 j (by omega)).trans ((k.bo j hj).trans (ge 79 (55 + j) (by omega)).symm)
  · intro j hj
    have := k.bc9
    rw [ge 79 (55 + 3 * j) (by omega), ge 79 (55 + 3 * j + 1) (by omega), ge 79 (55 + 3 * j + 2) (by omega)]
    exact k.bor j hj
theorem setSide_eq {m : Mem} {a : Nat} (ha : a ≤ 1) (x y : Int32) : F_Gr_setSide (iI a) x y m = some ((), sI (sI m 4 a x) 5 a y) := by
  unfold F_Gr_setSide
  rw [if_neg (by rw [lt0, iI_lt (by omega) (by omega) (by omega) (by omega)]; omega), if_neg (by rw [lt2, iI_le (by omega) (by omega) (by omega) (by omega)]; omega), ckB_t (iI_inb (by omega) (by omega) (by omega)), lt_def, ckB_t (iI_inb (by omega) (by omega) (by omega)), lt_def, iI_idx (by omega) (by omega), Int.toNat_natCast]
theorem setSlot_eq {m : Mem} {a c : Nat} (ha : a ≤ 3) (hc : c ≤ 3) (x y : Int32) : F_Gr_setSlot (iI a) (iI c) x y m = some ((), sI (sI m 6 (4 * a + c) x) 7 (4 * a + c) y) := by
  unfold F_Gr_setSlot
  rw [lt4, iI_mul, iI_add, lt_def, if_neg (by rw [lt0, iI_lt (by omega) (by omega) (by omega) (by omega)]; omega), if_neg (by rw [lt16, iI_le (by omega) (by omega) (by omega) (by omega)]; omega), ckB_t (iI_inb (by omega) (by omega) (by omega)), lt_def, ckB_t (iI_inb (by omega) (by omega) (by omega)), lt_def, iI_idx (by omega) (by omega), show ((a : Int) * 4 + (c : Int)).toNat = 4 * a + c by omega]
theorem bkAdd_eq {m : Mem} {bc : Nat} (hb : bc < 60) (h : gI m 12 0 = iI bc) (x y z : Int32) : F_Bk_add x y z m = some ((), sI (sI (sI (sI m 13 (3 * bc) x) 13 (3 * bc + 1) y) 13 (3 * bc + 2) z) 12 0 (iI (bc + 1 : Nat))) := by
  have e1 : ∀ (j : Nat) (v : Int32) (s : Mem), gI (sI s 13 j v) 12 0 = gI s 12 0 := fun j v s => by rw [gI_sI, if_neg (fun q => absurd q.1 (by decide))]
  unfold F_Bk_add
  rw [h, if_neg (by rw [lt0, iI_lt (by omega) (by omega) (by omega) (by omega)]; omega), if_neg (by rw [lt60, iI_le (by omega) (by omega) (by omega) (by omega)]; omega), lt3, iI_mul, ckB_t (iI_inb (by omega) (by omega) (by omega)), lt_def, iI_idx (by omega) (by omega), show ((bc : Int) * 3).toNat = 3 * bc by omega, e1, h, iI_mul, lt1, iI_add, ckB_t (iI_inb (by omega) (by omega) (by omega)), lt_def, iI_idx (by omega) (by omega), show ((bc : Int) * 3 + 1).toNat = 3 * bc + 1 by omega, e1, e1, h, iI_mul, lt2, iI_add, ckB_t (iI_inb (by omega) (by omega) (by omega)), lt_def, iI_idx (by omega) (by omega), show ((bc : Int) * 3 + 2).toNat = 3 * bc + 2 by omega, e1, e1, e1, h, lt_def, iI_add]
  rfl
theorem tl_0 {ah : Bool} {law : Option (List (Int × List Int))} {n mg dw tx bc : Int} {m : Mem} {w w' : Nat → Int32} {q : GLn} {i : Nat} (hi : i < 14) (k : GRw m w law n mg dw tx bc) (hr : RowsG m i [q]) (eq1 : q.1 = 0) (ha : ah = true) {a : Nat} (a1 : 1 ≤ a) (a9 : a ≤ 9) (e1 : q.2.1 = iI a) (e : ∀ j, w' j = if j = 0 then iI a else w j) : ∃ m', F_GT_tellLine (iI (5 * i : Nat)) m = some ((), m') ∧ ∃ n' mg' dw' bc', GRw m' w' law n' mg' dw' tx bc' ∧ (ah = false → n' = n) := by
  obtain ⟨r0, r1, r2, r3, r4, -⟩ := hr
  have x1 : iI ((5 * i : Nat) : Int) + (1 : Int32) = iI (5 * i + 1 : Nat) := by rw [lt1, iI_add]; rfl
  have x2 : iI ((5 * i : Nat) : Int) + (2 : Int32) = iI (5 * i + 2 : Nat) := by rw [lt2, iI_add]; rfl
  have x3 : iI ((5 * i : Nat) : Int) + (3 : Int32) = iI (5 * i + 3 : Nat) := by rw [lt3, iI_add]; rfl
  have x4 : iI ((5 * i : Nat) : Int) + (4 : Int32) = iI (5 * i + 4 : Nat) := by rw [lt4, iI_add]; rfl
  obtain ⟨m1, hm1⟩ : ∃ z9, z9 = sI m 3 0 (iI a) := ⟨_, rfl⟩
  have ge : ∀ o j, ¬ ((o = 3 ∧ j = 0) ∨ (o = 79 ∧ j = 0)) → gI (wG m1 w') o j = gI (wG m w) o j := by
    intro o j hne
    by_cases ho : o = 79
    · subst ho
      rw [wG_79, wG_79, e, if_neg (fun q => hne (by omega))]
    · rw [wG_o ho, wG_o ho, hm1, gI_sI, if_neg (fun q => hne (by omega))]
  refine ⟨m1, ?_, a, mg, dw, bc, ?_, (fun q => by rw [ha] at q; cases q)⟩
  · unfold F_GT_tellLine
    rw [if_neg (by rw [lt0, iI_lt (by omega) (by omega) (by omega) (by omega)]; omega), if_pos (by rw [lt5, lt70, iI_add, iI_le (by omega) (by omega) (by omega) (by omega)]; omega), x1, ckB_t (iI_inb (by omega) (by omega) (by omega)), lt_def, iI_idx (by omega) (by omega), Int.toNat_natCast, x2, ckB_t (iI_inb (by omega) (by omega) (by omega)), lt_def, iI_idx (by omega) (by omega), Int.toNat_natCast, x3, ckB_t (iI_inb (by omega) (by omega) (by omega)), lt_def, iI_idx (by omega) (by omega), Int.toNat_natCast, ckB_t (iI_inb (by omega) (by omega) (by omega)), lt_def, iI_idx (by omega) (by omega), Int.toNat_natCast, r0, r1, r2, r3, eq1]
    rw [if_pos (show iI 0 = (0 : Int32) from rfl)]
    rw [lt_def, e1, hm1]
  · unfold GRw at k ⊢
    refine GR.mk ⟨((by omega)), ((by omega)), (k.mg0), (k.mg9), (k.dw0), (k.dw9), (k.tx0), (k.tx9), (k.bc0), (k.bc9), (((wG_o (by decide) _).trans (by rw [hm1, gI_sI, if_pos ⟨rfl, rfl⟩]))), (((wG_79 _).trans (by rw [e, if_pos rfl]))), ((ge 3 4 (by omega)).trans k.cmg), ((ge 79 1 (by omega)).trans k.wmg), ((ge 3 5 (by omega)).trans k.cdw), ((ge 79 2 (by omega)).trans k.wdw), ((ge 3 6 (by omega)).trans k.ctx), ((ge 79 3 (by omega)).trans k.wtx), ((ge 12 0 (by omega)).trans k.cbc), ((ge 79 5 (by omega)).trans k.wbc), ((ge 3 1 (by omega)).trans (k.cl.trans (ge 79 6 (by omega)).symm)), ((ge 3 2 (by omega)).trans (k.ti.trans (ge 79 7 (by omega)).symm)), ((ge 3 3 (by omega)).trans (k.ra.trans (ge 79 8 (by omega)).symm)), (⟨(ge 4 0 (by omega)).trans (k.si.1.trans (ge 79 19 (by omega)).symm), (ge 4 1 (by omega)).trans (k.si.2.1.trans (ge 79 21 (by omega)).symm), (ge 5 0 (by omega)).trans (k.si.2.2.1.trans (ge 79 20 (by omega)).symm), (ge 5 1 (by omega)).trans (k.si.2.2.2.trans (ge 79 22 (by omega)).symm)⟩), (fun j hj => ⟨(ge 6 j (by omega)).trans ((k.sl j hj).1.trans (ge 79 (23 + 2 * j) (by omega)).symm), (ge 7 j (by omega)).trans ((k.sl j hj).2.trans (ge 79 (24 + 2 * j) (by omega)).symm)⟩), ?_, ?_, ?_, ?_, (k.la.cg2 (fun j hj => ge 8 j (by omega)) (fun j hj => ge 9 j (by omega)) (ge 79 4 (by omega)) (fun j hj => ge 79 (298 + j) (by omega)))⟩
    · intro j hj
      rw [ge 79 (19 + j) (by omega)]
      exact k.sir j hj
    · intro j hj
      rw [ge 79 (23 + j) (by omega)]
      exact k.slr j hj
    · intro j hj
      have := k.bc9
      exact (ge 13 j (by omega)).trans ((k.bo j hj).trans (ge 79 (55 + j) (by omega)).symm)
    · intro j hj
      have := k.bc9
      rw [ge 79 (55 + 3 * j) (by omega), ge 79 (55 + 3 * j + 1) (by omega), ge 79 (55 + 3 * j + 2) (by omega)]
      exact k.bor j hj
theorem tl_1 {ah : Bool} {law : Option (List (Int × List Int))} {n mg dw tx bc : Int} {m : Mem} {w w' : Nat → Int32} {q : GLn} {i : Nat} (hi : i < 14) (k : GRw m w law n mg dw tx bc) (hr : RowsG m i [q]) (eq1 : q.1 = 1) {a x y : Nat} (a1 : a ≤ 1) (hx : x ≤ 9) (hy : y ≤ 9) (e1 : q.2.1 = iI a) (e2 : q.2.2.1 = iI x) (e3 : q.2.2.2.1 = iI y) (e : ∀ j, w' j = if j = 19 + 2 * a then iI x else if j = 20 + 2 * a then iI y else w j) : ∃ m', F_GT_tellLine (iI (5 * i : Nat)) m = some ((), m') ∧ ∃ n' mg' dw' bc', GRw m' w' law n' mg' dw' tx bc' ∧ (ah = false → n' = n) := by
  obtain ⟨r0, r1, r2, r3, r4, -⟩ := hr
  have x1 : iI ((5 * i : Nat) : Int) + (1 : Int32) = iI (5 * i + 1 : Nat) := by rw [lt1, iI_add]; rfl
  have x2 : iI ((5 * i : Nat) : Int) + (2 : Int32) = iI (5 * i + 2 : Nat) := by rw [lt2, iI_add]; rfl
  have x3 : iI ((5 * i : Nat) : Int) + (3 : Int32) = iI (5 * i + 3 : Nat) := by rw [lt3, iI_add]; rfl
  have x4 : iI ((5 * i : Nat) : Int) + (4 : Int32) = iI (5 * i + 4 : Nat) := by rw [lt4, iI_add]; rfl
  obtain ⟨m1, hm1⟩ : ∃ z9, z9 = sI (sI m 4 a (iI x)) 5 a (iI y) := ⟨_, rfl⟩
  have ge : ∀ o j, ¬ ((o = 4 ∧ j = a) ∨ (o = 5 ∧ j = a) ∨ (o = 79 ∧ (j = 19 + 2 * a ∨ j = 20 + 2 * a))) → gI (wG m1 w') o j = gI (wG m w) o j := by
    intro o j hne
    by_cases ho : o = 79
    · subst ho
      rw [wG_79, wG_79, e, if_neg (fun q => hne (by omega)), if_neg (fun q => hne (by omega))]
    · rw [wG_o ho, wG_o ho, hm1, gI_sI, if_neg (fun q => hne (by omega)), gI_sI, if_neg (fun q => hne (by omega))]
  have v4 : gI (wG m1 w') 4 a = iI x := by rw [wG_o (by decide), hm1, gI_sI, if_neg (fun q => absurd q.1 (by decide)), gI_sI, if_pos ⟨rfl, rfl⟩]
  have v5 : gI (wG m1 w') 5 a = iI y := by rw [wG_o (by decide), hm1, gI_sI, if_pos ⟨rfl, rfl⟩]
  have w4 : gI (wG m1 w') 79 (19 + 2 * a) = iI x := by rw [wG_79, e, if_pos rfl]
  have w5 : gI (wG m1 w') 79 (20 + 2 * a) = iI y := by rw [wG_79, e, if_neg (by omega), if_pos rfl]
  have sides : SidesRep (wG m1 w') 4 5 79 := by
    have k' : GR (wG m w) 3 4 5 6 7 8 9 12 13 79 law n mg dw tx bc := k
    rcases (show a = 0 ∨ a = 1 by omega) with rfl | rfl
    · exact ⟨v4.trans w4.symm, (ge 4 1 (by omega)).trans (k'.si.2.1.trans (ge 79 21 (by omega)).symm), v5.trans w5.symm, (ge 5 1 (by omega)).trans (k'.si.2.2.2.trans (ge 79 22 (by omega)).symm)⟩
    · exact ⟨(ge 4 0 (by omega)).trans (k'.si.1.trans (ge 79 19 (by omega)).symm), v4.trans w4.symm, (ge 5 0 (by omega)).trans (k'.si.2.2.1.trans (ge 79 20 (by omega)).symm), v5.trans w5.symm⟩
  refine ⟨m1, ?_, n, mg, dw, bc, ?_, (fun _ => rfl)⟩
  · unfold F_GT_tellLine
    rw [if_neg (by rw [lt0, iI_lt (by omega) (by omega) (by omega) (by omega)]; omega), if_pos (by rw [lt5, lt70, iI_add, iI_le (by omega) (by omega) (by omega) (by omega)]; omega), x1, ckB_t (iI_inb (by omega) (by omega) (by omega)), lt_def, iI_idx (by omega) (by omega), Int.toNat_natCast, x2, ckB_t (iI_inb (by omega) (by omega) (by omega)), lt_def, iI_idx (by omega) (by omega), Int.toNat_natCast, x3, ckB_t (iI_inb (by omega) (by omega) (by omega)), lt_def, iI_idx (by omega) (by omega), Int.toNat_natCast, ckB_t (iI_inb (by omega) (by omega) (by omega)), lt_def, iI_idx (by omega) (by omega), Int.toNat_natCast, r0, r1, r2, r3, eq1]
    rw [if_neg (by decide), if_pos (show iI 1 = (1 : Int32) from rfl)]
    rw [e1, e2, e3, bnd_some (setSide_eq a1 _ _), hm1]
  · unfold GRw at k ⊢
    refine GR.mk ⟨(k.n1), (k.n9), (k.mg0), (k.mg9), (k.dw0), (k.dw9), (k.tx0), (k.tx9), (k.bc0), (k.bc9), ((ge 3 0 (by omega)).trans k.cn), ((ge 79 0 (by omega)).trans k.wn), ((ge 3 4 (by omega)).trans k.cmg), ((ge 79 1 (by omega)).trans k.wmg), ((ge 3 5 (by omega)).trans k.cdw), ((ge 79 2 (by omega)).trans k.wdw), ((ge 3 6 (by omega)).trans k.ctx), ((ge 79 3 (by omega)).trans k.wtx), ((ge 12 0 (by omega)).trans k.cbc), ((ge 79 5 (by omega)).trans k.wbc), ((ge 3 1 (by omega)).trans (k.cl.trans (ge 79 6 (by omega)).symm)), ((ge 3 2 (by omega)).trans (k.ti.trans (ge 79 7 (by omega)).symm)), ((ge 3 3 (by omega)).trans (k.ra.trans (ge 79 8 (by omega)).symm)), (sides), (fun j hj => ⟨(ge 6 j (by omega)).trans ((k.sl j hj).1.trans (ge 79 (23 + 2 * j) (by omega)).symm), (ge 7 j (by omega)).trans ((k.sl j hj).2.trans (ge 79 (24 + 2 * j) (by omega)).symm)⟩), ?_, ?_, ?_, ?_, (k.la.cg2 (fun j hj => ge 8 j (by omega)) (fun j hj => ge 9 j (by omega)) (ge 79 4 (by omega)) (fun j hj => ge 79 (298 + j) (by omega)))⟩
    · intro j hj
      by_cases h1 : j = 2 * a
      · exact ⟨x, by rw [wG_79, e, if_pos (by omega)], by omega, by omega⟩
      · by_cases h2 : j = 2 * a + 1
        · exact ⟨y, by rw [wG_79, e, if_neg (by omega), if_pos (by omega)], by omega, by omega⟩
        · rw [ge 79 (19 + j) (by omega)]
          exact k.sir j hj
    · intro j hj
      rw [ge 79 (23 + j) (by omega)]
      exact k.slr j hj
    · intro j hj
      have := k.bc9
      exact (ge 13 j (by omega)).trans ((k.bo j hj).trans (ge 79 (55 + j) (by omega)).symm)
    · intro j hj
      have := k.bc9
      rw [ge 79 (55 + 3 * j) (by omega), ge 79 (55 + 3 * j + 1) (by omega), ge 79 (55 + 3 * j + 2) (by omega)]
      exact k.bor j hj
theorem tl_2 {ah : Bool} {law : Option (List (Int × List Int))} {n mg dw tx bc : Int} {m : Mem} {w w' : Nat → Int32} {q : GLn} {i : Nat} (hi : i < 14) (k : GRw m w law n mg dw tx bc) (hr : RowsG m i [q]) (eq1 : q.1 = 2) {a c x y : Nat} (a1 : a ≤ 3) (c1 : c ≤ 3) (hx : x ≤ 9) (hy : y ≤ 9) (e1 : q.2.1 = iI a) (e2 : q.2.2.1 = iI c) (e3 : q.2.2.2.1 = iI x) (e4 : q.2.2.2.2 = iI y) (e : ∀ j, w' j = if j = 23 + 2 * (4 * a + c) then iI x else if j = 24 + 2 * (4 * a + c) then iI y else w j) : ∃ m', F_GT_tellLine (iI (5 * i : Nat)) m = some ((), m') ∧ ∃ n' mg' dw' bc', GRw m' w' law n' mg' dw' tx bc' ∧ (ah = false → n' = n) := by
  obtain ⟨r0, r1, r2, r3, r4, -⟩ := hr
  have x1 : iI ((5 * i : Nat) : Int) + (1 : Int32) = iI (5 * i + 1 : Nat) := by rw [lt1, iI_add]; rfl
  have x2 : iI ((5 * i : Nat) : Int) + (2 : Int32) = iI (5 * i + 2 : Nat) := by rw [lt2, iI_add]; rfl
  have x3 : iI ((5 * i : Nat) : Int) + (3 : Int32) = iI (5 * i + 3 : Nat) := by rw [lt3, iI_add]; rfl
  have x4 : iI ((5 * i : Nat) : Int) + (4 : Int32) = iI (5 * i + 4 : Nat) := by rw [lt4, iI_add]; rfl
  obtain ⟨m1, hm1⟩ : ∃ z9, z9 = sI (sI m 6 (4 * a + c) (iI x)) 7 (4 * a + c) (iI y) := ⟨_, rfl⟩
  have ge : ∀ o j, ¬ ((o = 6 ∧ j = 4 * a + c) ∨ (o = 7 ∧ j = 4 * a + c) ∨ (o = 79 ∧ (j = 23 + 2 * (4 * a + c) ∨ j = 24 + 2 * (4 * a + c)))) → gI (wG m1 w') o j = gI (wG m w) o j := by
    intro o j hne
    by_cases ho : o = 79
    · subst ho
      rw [wG_79, wG_79, e, if_neg (fun q => hne (by omega)), if_neg (fun q => hne (by omega))]
    · rw [wG_o ho, wG_o ho, hm1, gI_sI, if_neg (fun q => hne (by omega)), gI_sI, if_neg (fun q => hne (by omega))]
  have v6 : gI (wG m1 w') 6 (4 * a + c) = iI x := by rw [wG_o (by decide), hm1, gI_sI, if_neg (fun q => absurd q.1 (by decide)), gI_sI, if_pos ⟨rfl, rfl⟩]
  have v7 : gI (wG m1 w') 7 (4 * a + c) = iI y := by rw [wG_o (by decide), hm1, gI_sI, if_pos ⟨rfl, rfl⟩]
  have w6 : gI (wG m1 w') 79 (23 + 2 * (4 * a + c)) = iI x := by rw [wG_79, e, if_pos rfl]
  have w7 : gI (wG m1 w') 79 (24 + 2 * (4 * a + c)) = iI y := by rw [wG_79, e, if_neg (by omega), if_pos rfl]
  refine ⟨m1, ?_, n, mg, dw, bc, ?_, (fun _ => rfl)⟩
  · unfold F_GT_tellLine
    rw [if_neg (by rw [lt0, iI_lt (by omega) (by omega) (by omega) (by omega)]; omega), if_pos (by rw [lt5, lt70, iI_add, iI_le (by omega) (by omega) (by omega) (by omega)]; omega), x1, ckB_t (iI_inb (by omega) (by omega) (by omega)), lt_def, iI_idx (by omega) (by omega), Int.toNat_natCast, x2, ckB_t (iI_inb (by omega) (by omega) (by omega)), lt_def, iI_idx (by omega) (by omega), Int.toNat_natCast, x3, ckB_t (iI_inb (by omega) (by omega) (by omega)), lt_def, iI_idx (by omega) (by omega), Int.toNat_natCast, ckB_t (iI_inb (by omega) (by omega) (by omega)), lt_def, iI_idx (by omega) (by omega), Int.toNat_natCast, r0, r1, r2, r3, eq1]
    rw [if_neg (by decide), if_neg (by decide), if_pos (show iI 2 = (2 : Int32) from rfl)]
    rw [x4, ckB_t (iI_inb (by omega) (by omega) (by omega)), lt_def, iI_idx (by omega) (by omega), Int.toNat_natCast, r4, e1, e2, e3, e4, bnd_some (setSlot_eq a1 c1 _ _), hm1]
  · unfold GRw at k ⊢
    refine GR.mk ⟨(k.n1), (k.n9), (k.mg0), (k.mg9), (k.dw0), (k.dw9), (k.tx0), (k.tx9), (k.bc0), (k.bc9), ((ge 3 0 (by omega)).trans k.cn), ((ge 79 0 (by omega)).trans k.wn), ((ge 3 4 (by omega)).trans k.cmg), ((ge 79 1 (by omega)).trans k.wmg), ((ge 3 5 (by omega)).trans k.cdw), ((ge 79 2 (by omega)).trans k.wdw), ((ge 3 6 (by omega)).trans k.ctx), ((ge 79 3 (by omega)).trans k.wtx), ((ge 12 0 (by omega)).trans k.cbc), ((ge 79 5 (by omega)).trans k.wbc), ((ge 3 1 (by omega)).trans (k.cl.trans (ge 79 6 (by omega)).symm)), ((ge 3 2 (by omega)).trans (k.ti.trans (ge 79 7 (by omega)).symm)), ((ge 3 3 (by omega)).trans (k.ra.trans (ge 79 8 (by omega)).symm)), (⟨(ge 4 0 (by omega)).trans (k.si.1.trans (ge 79 19 (by omega)).symm), (ge 4 1 (by omega)).trans (k.si.2.1.trans (ge 79 21 (by omega)).symm), (ge 5 0 (by omega)).trans (k.si.2.2.1.trans (ge 79 20 (by omega)).symm), (ge 5 1 (by omega)).trans (k.si.2.2.2.trans (ge 79 22 (by omega)).symm)⟩), ?_, ?_, ?_, ?_, ?_, (k.la.cg2 (fun j hj => ge 8 j (by omega)) (fun j hj => ge 9 j (by omega)) (ge 79 4 (by omega)) (fun j hj => ge 79 (298 + j) (by omega)))⟩
    · intro j hj
      by_cases h1 : j = 4 * a + c
      · subst h1
        exact ⟨v6.trans w6.symm, v7.trans w7.symm⟩
      · exact ⟨(ge 6 j (by omega)).trans ((k.sl j hj).1.trans (ge 79 (23 + 2 * j) (by omega)).symm), (ge 7 j (by omega)).trans ((k.sl j hj).2.trans (ge 79 (24 + 2 * j) (by omega)).symm)⟩
    · intro j hj
      rw [ge 79 (19 + j) (by omega)]
      exact k.sir j hj
    · intro j hj
      by_cases h1 : j = 2 * (4 * a + c)
      · exact ⟨x, by rw [wG_79, e, if_pos (by omega)], by omega, by omega⟩
      · by_cases h2 : j = 2 * (4 * a + c) + 1
        · exact ⟨y, by rw [wG_79, e, if_neg (by omega), if_pos (by omega)], by omega, by omega⟩
        · rw [ge 79 (23 + j) (by omega)]
          exact k.slr j hj
    · intro j hj
      have := k.bc9
      exact (ge 13 j (by omega)).trans ((k.bo j hj).trans (ge 79 (55 + j) (by omega)).symm)
    · intro j hj
      have := k.bc9
      rw [ge 79 (55 + 3 * j) (by omega), ge 79 (55 + 3 * j + 1) (by omega), ge 79 (55 + 3 * j + 2) (by omega)]
      exact k.bor j hj
theorem tl_3 {ah : Bool} {law : Option (List (Int × List Int))} {n mg dw tx bc : Int} {m : Mem} {w w' : Nat → Int32} {q : GLn} {i : Nat} (hi : i < 14) (k : GRw m w law n mg dw tx bc) (hr : RowsG m i [q]) (eq1 : q.1 = 3) (e : ∀ j, w' j = if j = 6 then w 6 ||| q.2.1 else w j) : ∃ m', F_GT_tellLine (iI (5 * i : Nat)) m = some ((), m') ∧ ∃ n' mg' dw' bc', GRw m' w' law n' mg' dw' tx bc' ∧ (ah = false → n' = n) := by
  obtain ⟨r0, r1, r2, r3, r4, -⟩ := hr
  have x1 : iI ((5 * i : Nat) : Int) + (1 : Int32) = iI (5 * i + 1 : Nat) := by rw [lt1, iI_add]; rfl
  have x2 : iI ((5 * i : Nat) : Int) + (2 : Int32) = iI (5 * i + 2 : Nat) := by rw [lt2, iI_add]; rfl
  have x3 : iI ((5 * i : Nat) : Int) + (3 : Int32) = iI (5 * i + 3 : Nat) := by rw [lt3, iI_add]; rfl
  have x4 : iI ((5 * i : Nat) : Int) + (4 : Int32) = iI (5 * i + 4 : Nat) := by rw [lt4, iI_add]; rfl
  obtain ⟨m1, hm1⟩ : ∃ z9, z9 = sI m 3 1 (gI m 3 1 ||| q.2.1) := ⟨_, rfl⟩
  have ge : ∀ o j, ¬ ((o = 3 ∧ j = 1) ∨ (o = 79 ∧ j = 6)) → gI (wG m1 w') o j = gI (wG m w) o j := by
    intro o j hne
    by_cases ho : o = 79
    · subst ho
      rw [wG_79, wG_79, e, if_neg (fun q => hne (by omega))]
    · rw [wG_o ho, wG_o ho, hm1, gI_sI, if_neg (fun q => hne (by omega))]
  have bits : gI (wG m1 w') 3 1 = gI (wG m1 w') 79 6 := by
    have k' : GR (wG m w) 3 4 5 6 7 8 9 12 13 79 law n mg dw tx bc := k
    have h1 := k'.cl
    rw [wG_o (by decide), wG_79] at h1
    rw [wG_o (by decide), wG_79, hm1, gI_sI, if_pos ⟨rfl, rfl⟩, e, if_pos rfl, h1]
  refine ⟨m1, ?_, n, mg, dw, bc, ?_, (fun _ => rfl)⟩
  · unfold F_GT_tellLine
    rw [if_neg (by rw [lt0, iI_lt (by omega) (by omega) (by omega) (by omega)]; omega), if_pos (by rw [lt5, lt70, iI_add, iI_le (by omega) (by omega) (by omega) (by omega)]; omega), x1, ckB_t (iI_inb (by omega) (by omega) (by omega)), lt_def, iI_idx (by omega) (by omega), Int.toNat_natCast, x2, ckB_t (iI_inb (by omega) (by omega) (by omega)), lt_def, iI_idx (by omega) (by omega), Int.toNat_natCast, x3, ckB_t (iI_inb (by omega) (by omega) (by omega)), lt_def, iI_idx (by omega) (by omega), Int.toNat_natCast, ckB_t (iI_inb (by omega) (by omega) (by omega)), lt_def, iI_idx (by omega) (by omega), Int.toNat_natCast, r0, r1, r2, r3, eq1]
    rw [if_neg (by decide), if_neg (by decide), if_neg (by decide), if_pos (show iI 3 = (3 : Int32) from rfl)]
    rw [lt_def, hm1]
  · unfold GRw at k ⊢
    refine GR.mk ⟨(k.n1), (k.n9), (k.mg0), (k.mg9), (k.dw0), (k.dw9), (k.tx0), (k.tx9), (k.bc0), (k.bc9), ((ge 3 0 (by omega)).trans k.cn), ((ge 79 0 (by omega)).trans k.wn), ((ge 3 4 (by omega)).trans k.cmg), ((ge 79 1 (by omega)).trans k.wmg), ((ge 3 5 (by omega)).trans k.cdw), ((ge 79 2 (by omega)).trans k.wdw), ((ge 3 6 (by omega)).trans k.ctx), ((ge 79 3 (by omega)).trans k.wtx), ((ge 12 0 (by omega)).trans k.cbc), ((ge 79 5 (by omega)).trans k.wbc), (bits), ((ge 3 2 (by omega)).trans (k.ti.trans (ge 79 7 (by omega)).symm)), ((ge 3 3 (by omega)).trans (k.ra.trans (ge 79 8 (by omega)).symm)), (⟨(ge 4 0 (by omega)).trans (k.si.1.trans (ge 79 19 (by omega)).symm), (ge 4 1 (by omega)).trans (k.si.2.1.trans (ge 79 21 (by omega)).symm), (ge 5 0 (by omega)).trans (k.si.2.2.1.trans (ge 79 20 (by omega)).symm), (ge 5 1 (by omega)).trans (k.si.2.2.2.trans (ge 79 22 (by omega)).symm)⟩), (fun j hj => ⟨(ge 6 j (by omega)).trans ((k.sl j hj).1.trans (ge 79 (23 + 2 * j) (by omega)).symm), (ge 7 j (by omega)).trans ((k.sl j hj).2.trans (ge 79 (24 + 2 * j) (by omega)).symm)⟩), ?_, ?_, ?_, ?_, (k.la.cg2 (fun j hj => ge 8 j (by omega)) (fun j hj => ge 9 j (by omega)) (ge 79 4 (by omega)) (fun j hj => ge 79 (298 + j) (by omega)))⟩
    · intro j hj
      rw [ge 79 (19 + j) (by omega)]
      exact k.sir j hj
    · intro j hj
      rw [ge 79 (23 + j) (by omega)]
      exact k.slr j hj
    · intro j hj
      have := k.bc9
      exact (ge 13 j (by omega)).trans ((k.bo j hj).trans (ge 79 (55 + j) (by omega)).symm)
    · intro j hj
      have := k.bc9
      rw [ge 79 (55 + 3 * j) (by omega), ge 79 (55 + 3 * j + 1) (by omega), ge 79 (55 + 3 * j + 2) (by omega)]
      exact k.bor j hj
theorem tl_4 {ah : Bool} {law : Option (List (Int × List Int))} {n mg dw tx bc : Int} {m : Mem} {w w' : Nat → Int32} {q : GLn} {i : Nat} (hi : i < 14) (k : GRw m w law n mg dw tx bc) (hr : RowsG m i [q]) (eq1 : q.1 = 4) (e : ∀ j, w' j = if j = 7 then w 7 ||| q.2.1 else w j) : ∃ m', F_GT_tellLine (iI (5 * i : Nat)) m = some ((), m') ∧ ∃ n' mg' dw' bc', GRw m' w' law n' mg' dw' tx bc' ∧ (ah = false → n' = n) := by
  obtain ⟨r0, r1, r2, r3, r4, -⟩ := hr
  have x1 : iI ((5 * i : Nat) : Int) + (1 : Int32) = iI (5 * i + 1 : Nat) := by rw [lt1, iI_add]; rfl
  have x2 : iI ((5 * i : Nat) : Int) + (2 : Int32) = iI (5 * i + 2 : Nat) := by rw [lt2, iI_add]; rfl
  have x3 : iI ((5 * i : Nat) : Int) + (3 : Int32) = iI (5 * i + 3 : Nat) := by rw [lt3, iI_add]; rfl
  have x4 : iI ((5 * i : Nat) : Int) + (4 : Int32) = iI (5 * i + 4 : Nat) := by rw [lt4, iI_add]; rfl
  obtain ⟨m1, hm1⟩ : ∃ z9, z9 = sI m 3 2 (gI m 3 2 ||| q.2.1) := ⟨_, rfl⟩
  have ge : ∀ o j, ¬ ((o = 3 ∧ j = 2) ∨ (o = 79 ∧ j = 7)) → gI (wG m1 w') o j = gI (wG m w) o j := by
    intro o j hne
    by_cases ho : o = 79
    · subst ho
      rw [wG_79, wG_79, e, if_neg (fun q => hne (by omega))]
    · rw [wG_o ho, wG_o ho, hm1, gI_sI, if_neg (fun q => hne (by omega))]
  have bits : gI (wG m1 w') 3 2 = gI (wG m1 w') 79 7 := by
    have k' : GR (wG m w) 3 4 5 6 7 8 9 12 13 79 law n mg dw tx bc := k
    have h1 := k'.ti
    rw [wG_o (by decide), wG_79] at h1
    rw [wG_o (by decide), wG_79, hm1, gI_sI, if_pos ⟨rfl, rfl⟩, e, if_pos rfl, h1]
  refine ⟨m1, ?_, n, mg, dw, bc, ?_, (fun _ => rfl)⟩
  · unfold F_GT_tellLine
    rw [if_neg (by rw [lt0, iI_lt (by omega) (by omega) (by omega) (by omega)]; omega), if_pos (by rw [lt5, lt70, iI_add, iI_le (by omega) (by omega) (by omega) (by omega)]; omega), x1, ckB_t (iI_inb (by omega) (by omega) (by omega)), lt_def, iI_idx (by omega) (by omega), Int.toNat_natCast, x2, ckB_t (iI_inb (by omega) (by omega) (by omega)), lt_def, iI_idx (by omega) (by omega), Int.toNat_natCast, x3, ckB_t (iI_inb (by omega) (by omega) (by omega)), lt_def, iI_idx (by omega) (by omega), Int.toNat_natCast, ckB_t (iI_inb (by omega) (by omega) (by omega)), lt_def, iI_idx (by omega) (by omega), Int.toNat_natCast, r0, r1, r2, r3, eq1]
    rw [if_neg (by decide), if_neg (by decide), if_neg (by decide), if_neg (by decide), if_pos (show iI 4 = (4 : Int32) from rfl)]
    rw [lt_def, hm1]
  · unfold GRw at k ⊢
    refine GR.mk ⟨(k.n1), (k.n9), (k.mg0), (k.mg9), (k.dw0), (k.dw9), (k.tx0), (k.tx9), (k.bc0), (k.bc9), ((ge 3 0 (by omega)).trans k.cn), ((ge 79 0 (by omega)).trans k.wn), ((ge 3 4 (by omega)).trans k.cmg), ((ge 79 1 (by omega)).trans k.wmg), ((ge 3 5 (by omega)).trans k.cdw), ((ge 79 2 (by omega)).trans k.wdw), ((ge 3 6 (by omega)).trans k.ctx), ((ge 79 3 (by omega)).trans k.wtx), ((ge 12 0 (by omega)).trans k.cbc), ((ge 79 5 (by omega)).trans k.wbc), ((ge 3 1 (by omega)).trans (k.cl.trans (ge 79 6 (by omega)).symm)), (bits), ((ge 3 3 (by omega)).trans (k.ra.trans (ge 79 8 (by omega)).symm)), (⟨(ge 4 0 (by omega)).trans (k.si.1.trans (ge 79 19 (by omega)).symm), (ge 4 1 (by omega)).trans (k.si.2.1.trans (ge 79 21 (by omega)).symm), (ge 5 0 (by omega)).trans (k.si.2.2.1.trans (ge 79 20 (by omega)).symm), (ge 5 1 (by omega)).trans (k.si.2.2.2.trans (ge 79 22 (by omega)).symm)⟩), (fun j hj => ⟨(ge 6 j (by omega)).trans ((k.sl j hj).1.trans (ge 79 (23 + 2 * j) (by omega)).symm), (ge 7 j (by omega)).trans ((k.sl j hj).2.trans (ge 79 (24 + 2 * j) (by omega)).symm)⟩), ?_, ?_, ?_, ?_, (k.la.cg2 (fun j hj => ge 8 j (by omega)) (fun j hj => ge 9 j (by omega)) (ge 79 4 (by omega)) (fun j hj => ge 79 (298 + j) (by omega)))⟩
    · intro j hj
      rw [ge 79 (19 + j) (by omega)]
      exact k.sir j hj
    · intro j hj
      rw [ge 79 (23 + j) (by omega)]
      exact k.slr j hj
    · intro j hj
      have := k.bc9
      exact (ge 13 j (by omega)).trans ((k.bo j hj).trans (ge 79 (55 + j) (by omega)).symm)
    · intro j hj
      have := k.bc9
      rw [ge 79 (55 + 3 * j) (by omega), ge 79 (55 + 3 * j + 1) (by omega), ge 79 (55 + 3 * j + 2) (by omega)]
      exact k.bor j hj
theorem tl_5 {ah : Bool} {law : Option (List (Int × List Int))} {n mg dw tx bc : Int} {m : Mem} {w w' : Nat → Int32} {q : GLn} {i : Nat} (hi : i < 14) (k : GRw m w law n mg dw tx bc) (hr : RowsG m i [q]) (eq1 : q.1 = 5) (e : ∀ j, w' j = if j = 8 then w 8 ||| q.2.1 else w j) : ∃ m', F_GT_tellLine (iI (5 * i : Nat)) m = some ((), m') ∧ ∃ n' mg' dw' bc', GRw m' w' law n' mg' dw' tx bc' ∧ (ah = false → n' = n) := by
  obtain ⟨r0, r1, r2, r3, r4, -⟩ := hr
  have x1 : iI ((5 * i : Nat) : Int) + (1 : Int32) = iI (5 * i + 1 : Nat) := by rw [lt1, iI_add]; rfl
  have x2 : iI ((5 * i : Nat) : Int) + (2 : Int32) = iI (5 * i + 2 : Nat) := by rw [lt2, iI_add]; rfl
  have x3 : iI ((5 * i : Nat) : Int) + (3 : Int32) = iI (5 * i + 3 : Nat) := by rw [lt3, iI_add]; rfl
  have x4 : iI ((5 * i : Nat) : Int) + (4 : Int32) = iI (5 * i + 4 : Nat) := by rw [lt4, iI_add]; rfl
  obtain ⟨m1, hm1⟩ : ∃ z9, z9 = sI m 3 3 (gI m 3 3 ||| q.2.1) := ⟨_, rfl⟩
  have ge : ∀ o j, ¬ ((o = 3 ∧ j = 3) ∨ (o = 79 ∧ j = 8)) → gI (wG m1 w') o j = gI (wG m w) o j := by
    intro o j hne
    by_cases ho : o = 79
    · subst ho
      rw [wG_79, wG_79, e, if_neg (fun q => hne (by omega))]
    · rw [wG_o ho, wG_o ho, hm1, gI_sI, if_neg (fun q => hne (by omega))]
  have bits : gI (wG m1 w') 3 3 = gI (wG m1 w') 79 8 := by
    have k' : GR (wG m w) 3 4 5 6 7 8 9 12 13 79 law n mg dw tx bc := k
    have h1 := k'.ra
    rw [wG_o (by decide), wG_79] at h1
    rw [wG_o (by decide), wG_79, hm1, gI_sI, if_pos ⟨rfl, rfl⟩, e, if_pos rfl, h1]
  refine ⟨m1, ?_, n, mg, dw, bc, ?_, (fun _ => rfl)⟩
  · unfold F_GT_tellLine
    rw [if_neg (by rw [lt0, iI_lt (by omega) (by omega) (by omega) (by omega)]; omega), if_pos (by rw [lt5, lt70, iI_add, iI_le (by omega) (by omega) (by omega) (by omega)]; omega), x1, ckB_t (iI_inb (by omega) (by omega) (by omega)), lt_def, iI_idx (by omega) (by omega), Int.toNat_natCast, x2, ckB_t (iI_inb (by omega) (by omega) (by omega)), lt_def, iI_idx (by omega) (by omega), Int.toNat_natCast, x3, ckB_t (iI_inb (by omega) (by omega) (by omega)), lt_def, iI_idx (by omega) (by omega), Int.toNat_natCast, ckB_t (iI_inb (by omega) (by omega) (by omega)), lt_def, iI_idx (by omega) (by omega), Int.toNat_natCast, r0, r1, r2, r3, eq1]
    rw [if_neg (by decide), if_neg (by decide), if_neg (by decide), if_neg (by decide), if_neg (by decide), if_pos (show iI 5 = (5 : Int32) from rfl)]
    rw [lt_def, hm1]
  · unfold GRw at k ⊢
    refine GR.mk ⟨(k.n1), (k.n9), (k.mg0), (k.mg9), (k.dw0), (k.dw9), (k.tx0), (k.tx9), (k.bc0), (k.bc9), ((ge 3 0 (by omega)).trans k.cn), ((ge 79 0 (by omega)).trans k.wn), ((ge 3 4 (by omega)).trans k.cmg), ((ge 79 1 (by omega)).trans k.wmg), ((ge 3 5 (by omega)).trans k.cdw), ((ge 79 2 (by omega)).trans k.wdw), ((ge 3 6 (by omega)).trans k.ctx), ((ge 79 3 (by omega)).trans k.wtx), ((ge 12 0 (by omega)).trans k.cbc), ((ge 79 5 (by omega)).trans k.wbc), ((ge 3 1 (by omega)).trans (k.cl.trans (ge 79 6 (by omega)).symm)), ((ge 3 2 (by omega)).trans (k.ti.trans (ge 79 7 (by omega)).symm)), (bits), (⟨(ge 4 0 (by omega)).trans (k.si.1.trans (ge 79 19 (by omega)).symm), (ge 4 1 (by omega)).trans (k.si.2.1.trans (ge 79 21 (by omega)).symm), (ge 5 0 (by omega)).trans (k.si.2.2.1.trans (ge 79 20 (by omega)).symm), (ge 5 1 (by omega)).trans (k.si.2.2.2.trans (ge 79 22 (by omega)).symm)⟩), (fun j hj => ⟨(ge 6 j (by omega)).trans ((k.sl j hj).1.trans (ge 79 (23 + 2 * j) (by omega)).symm), (ge 7 j (by omega)).trans ((k.sl j hj).2.trans (ge 79 (24 + 2 * j) (by omega)).symm)⟩), ?_, ?_, ?_, ?_, (k.la.cg2 (fun j hj => ge 8 j (by omega)) (fun j hj => ge 9 j (by omega)) (ge 79 4 (by omega)) (fun j hj => ge 79 (298 + j) (by omega)))⟩
    · intro j hj
      rw [ge 79 (19 + j) (by omega)]
      exact k.sir j hj
    · intro j hj
      rw [ge 79 (23 + j) (by omega)]
      exact k.slr j hj
    · intro j hj
      have := k.bc9
      exact (ge 13 j (by omega)).trans ((k.bo j hj).trans (ge 79 (55 + j) (by omega)).symm)
    · intro j hj
      have := k.bc9
      rw [ge 79 (55 + 3 * j) (by omega), ge 79 (55 + 3 * j + 1) (by omega), ge 79 (55 + 3 * j + 2) (by omega)]
      exact k.bor j hj
theorem tl_6 {ah : Bool} {law : Option (List (Int × List Int))} {n mg dw tx bc : Int} {m : Mem} {w w' : Nat → Int32} {q : GLn} {i : Nat} (hi : i < 14) (k : GRw m w law n mg dw tx bc) (hr : RowsG m i [q]) (eq1 : q.1 = 6) {a : Nat} (a9 : a ≤ 99) (e1 : q.2.1 = iI a) (e : ∀ j, w' j = if j = 1 then iI a else w j) : ∃ m', F_GT_tellLine (iI (5 * i : Nat)) m = some ((), m') ∧ ∃ n' mg' dw' bc', GRw m' w' law n' mg' dw' tx bc' ∧ (ah = false → n' = n) := by
  obtain ⟨r0, r1, r2, r3, r4, -⟩ := hr
  have x1 : iI ((5 * i : Nat) : Int) + (1 : Int32) = iI (5 * i + 1 : Nat) := by rw [lt1, iI_add]; rfl
  have x2 : iI ((5 * i : Nat) : Int) + (2 : Int32) = iI (5 * i + 2 : Nat) := by rw [lt2, iI_add]; rfl
  have x3 : iI ((5 * i : Nat) : Int) + (3 : Int32) = iI (5 * i + 3 : Nat) := by rw [lt3, iI_add]; rfl
  have x4 : iI ((5 * i : Nat) : Int) + (4 : Int32) = iI (5 * i + 4 : Nat) := by rw [lt4, iI_add]; rfl
  obtain ⟨m1, hm1⟩ : ∃ z9, z9 = sI m 3 4 (iI a) := ⟨_, rfl⟩
  have ge : ∀ o j, ¬ ((o = 3 ∧ j = 4) ∨ (o = 79 ∧ j = 1)) → gI (wG m1 w') o j = gI (wG m w) o j := by
    intro o j hne
    by_cases ho : o = 79
    · subst ho
      rw [wG_79, wG_79, e, if_neg (fun q => hne (by omega))]
    · rw [wG_o ho, wG_o ho, hm1, gI_sI, if_neg (fun q => hne (by omega))]
  refine ⟨m1, ?_, n, a, dw, bc, ?_, (fun _ => rfl)⟩
  · unfold F_GT_tellLine
    rw [if_neg (by rw [lt0, iI_lt (by omega) (by omega) (by omega) (by omega)]; omega), if_pos (by rw [lt5, lt70, iI_add, iI_le (by omega) (by omega) (by omega) (by omega)]; omega), x1, ckB_t (iI_inb (by omega) (by omega) (by omega)), lt_def, iI_idx (by omega) (by omega), Int.toNat_natCast, x2, ckB_t (iI_inb (by omega) (by omega) (by omega)), lt_def, iI_idx (by omega) (by omega), Int.toNat_natCast, x3, ckB_t (iI_inb (by omega) (by omega) (by omega)), lt_def, iI_idx (by omega) (by omega), Int.toNat_natCast, ckB_t (iI_inb (by omega) (by omega) (by omega)), lt_def, iI_idx (by omega) (by omega), Int.toNat_natCast, r0, r1, r2, r3, eq1]
    rw [if_neg (by decide), if_neg (by decide), if_neg (by decide), if_neg (by decide), if_neg (by decide), if_neg (by decide), if_pos (show iI 6 = (6 : Int32) from rfl)]
    rw [lt_def, e1, hm1]
  · unfold GRw at k ⊢
    refine GR.mk ⟨(k.n1), (k.n9), ((by omega)), ((by omega)), (k.dw0), (k.dw9), (k.tx0), (k.tx9), (k.bc0), (k.bc9), ((ge 3 0 (by omega)).trans k.cn), ((ge 79 0 (by omega)).trans k.wn), (((wG_o (by decide) _).trans (by rw [hm1, gI_sI, if_pos ⟨rfl, rfl⟩]))), (((wG_79 _).trans (by rw [e, if_pos rfl]))), ((ge 3 5 (by omega)).trans k.cdw), ((ge 79 2 (by omega)).trans k.wdw), ((ge 3 6 (by omega)).trans k.ctx), ((ge 79 3 (by omega)).trans k.wtx), ((ge 12 0 (by omega)).trans k.cbc), ((ge 79 5 (by omega)).trans k.wbc), ((ge 3 1 (by omega)).trans (k.cl.trans (ge 79 6 (by omega)).symm)), ((ge 3 2 (by omega)).trans (k.ti.trans (ge 79 7 (by omega)).symm)), ((ge 3 3 (by omega)).trans (k.ra.trans (ge 79 8 (by omega)).symm)), (⟨(ge 4 0 (by omega)).trans (k.si.1.trans (ge 79 19 (by omega)).symm), (ge 4 1 (by omega)).trans (k.si.2.1.trans (ge 79 21 (by omega)).symm), (ge 5 0 (by omega)).trans (k.si.2.2.1.trans (ge 79 20 (by omega)).symm), (ge 5 1 (by omega)).trans (k.si.2.2.2.trans (ge 79 22 (by omega)).symm)⟩), (fun j hj => ⟨(ge 6 j (by omega)).trans ((k.sl j hj).1.trans (ge 79 (23 + 2 * j) (by omega)).symm), (ge 7 j (by omega)).trans ((k.sl j hj).2.trans (ge 79 (24 + 2 * j) (by omega)).symm)⟩), ?_, ?_, ?_, ?_, (k.la.cg2 (fun j hj => ge 8 j (by omega)) (fun j hj => ge 9 j (by omega)) (ge 79 4 (by omega)) (fun j hj => ge 79 (298 + j) (by omega)))⟩
    · intro j hj
      rw [ge 79 (19 + j) (by omega)]
      exact k.sir j hj
    · intro j hj
      rw [ge 79 (23 + j) (by omega)]
      exact k.slr j hj
    · intro j hj
      have := k.bc9
      exact (ge 13 j (by omega)).trans ((k.bo j hj).trans (ge 79 (55 + j) (by omega)).symm)
    · intro j hj
      have := k.bc9
      rw [ge 79 (55 + 3 * j) (by omega), ge 79 (55 + 3 * j + 1) (by omega), ge 79 (55 + 3 * j + 2) (by omega)]
      exact k.bor j hj
theorem tl_7 {ah : Bool} {law : Option (List (Int × List Int))} {n mg dw tx bc : Int} {m : Mem} {w w' : Nat → Int32} {q : GLn} {i : Nat} (hi : i < 14) (k : GRw m w law n mg dw tx bc) (hr : RowsG m i [q]) (eq1 : q.1 = 7) {a : Nat} (a9 : a ≤ 100) (e1 : q.2.1 = iI a) (e : ∀ j, w' j = if j = 2 then iI a else w j) : ∃ m', F_GT_tellLine (iI (5 * i : Nat)) m = some ((), m') ∧ ∃ n' mg' dw' bc', GRw m' w' law n' mg' dw' tx bc' ∧ (ah = false → n' = n) := by
  obtain ⟨r0, r1, r2, r3, r4, -⟩ := hr
  have x1 : iI ((5 * i : Nat) : Int) + (1 : Int32) = iI (5 * i + 1 : Nat) := by rw [lt1, iI_add]; rfl
  have x2 : iI ((5 * i : Nat) : Int) + (2 : Int32) = iI (5 * i + 2 : Nat) := by rw [lt2, iI_add]; rfl
  have x3 : iI ((5 * i : Nat) : Int) + (3 : Int32) = iI (5 * i + 3 : Nat) := by rw [lt3, iI_add]; rfl
  have x4 : iI ((5 * i : Nat) : Int) + (4 : Int32) = iI (5 * i + 4 : Nat) := by rw [lt4, iI_add]; rfl
  obtain ⟨m1, hm1⟩ : ∃ z9, z9 = sI m 3 5 (iI a) := ⟨_, rfl⟩
  have ge : ∀ o j, ¬ ((o = 3 ∧ j = 5) ∨ (o = 79 ∧ j = 2)) → gI (wG m1 w') o j = gI (wG m w) o j := by
    intro o j hne
    by_cases ho : o = 79
    · subst ho
      rw [wG_79, wG_79, e, if_neg (fun q => hne (by omega))]
    · rw [wG_o ho, wG_o ho, hm1, gI_sI, if_neg (fun q => hne (by omega))]
  refine ⟨m1, ?_, n, mg, a, bc, ?_, (fun _ => rfl)⟩
  · unfold F_GT_tellLine
    rw [if_neg (by rw [lt0, iI_lt (by omega) (by omega) (by omega) (by omega)]; omega), if_pos (by rw [lt5, lt70, iI_add, iI_le (by omega) (by omega) (by omega) (by omega)]; omega), x1, ckB_t (iI_inb (by omega) (by omega) (by omega)), lt_def, iI_idx (by omega) (by omega), Int.toNat_natCast, x2, ckB_t (iI_inb (by omega) (by omega) (by omega)), lt_def, iI_idx (by omega) (by omega), Int.toNat_natCast, x3, ckB_t (iI_inb (by omega) (by omega) (by omega)), lt_def, iI_idx (by omega) (by omega), Int.toNat_natCast, ckB_t (iI_inb (by omega) (by omega) (by omega)), lt_def, iI_idx (by omega) (by omega), Int.toNat_natCast, r0, r1, r2, r3, eq1]
    rw [if_neg (by decide), if_neg (by decide), if_neg (by decide), if_neg (by decide), if_neg (by decide), if_neg (by decide), if_neg (by decide), if_pos (show iI 7 = (7 : Int32) from rfl)]
    rw [lt_def, e1, hm1]
  · unfold GRw at k ⊢
    refine GR.mk ⟨(k.n1), (k.n9), (k.mg0), (k.mg9), ((by omega)), ((by omega)), (k.tx0), (k.tx9), (k.bc0), (k.bc9), ((ge 3 0 (by omega)).trans k.cn), ((ge 79 0 (by omega)).trans k.wn), ((ge 3 4 (by omega)).trans k.cmg), ((ge 79 1 (by omega)).trans k.wmg), (((wG_o (by decide) _).trans (by rw [hm1, gI_sI, if_pos ⟨rfl, rfl⟩]))), (((wG_79 _).trans (by rw [e, if_pos rfl]))), ((ge 3 6 (by omega)).trans k.ctx), ((ge 79 3 (by omega)).trans k.wtx), ((ge 12 0 (by omega)).trans k.cbc), ((ge 79 5 (by omega)).trans k.wbc), ((ge 3 1 (by omega)).trans (k.cl.trans (ge 79 6 (by omega)).symm)), ((ge 3 2 (by omega)).trans (k.ti.trans (ge 79 7 (by omega)).symm)), ((ge 3 3 (by omega)).trans (k.ra.trans (ge 79 8 (by omega)).symm)), (⟨(ge 4 0 (by omega)).trans (k.si.1.trans (ge 79 19 (by omega)).symm), (ge 4 1 (by omega)).trans (k.si.2.1.trans (ge 79 21 (by omega)).symm), (ge 5 0 (by omega)).trans (k.si.2.2.1.trans (ge 79 20 (by omega)).symm), (ge 5 1 (by omega)).trans (k.si.2.2.2.trans (ge 79 22 (by omega)).symm)⟩), (fun j hj => ⟨(ge 6 j (by omega)).trans ((k.sl j hj).1.trans (ge 79 (23 + 2 * j) (by omega)).symm), (ge 7 j (by omega)).trans ((k.sl j hj).2.trans (ge 79 (24 + 2 * j) (by omega)).symm)⟩), ?_, ?_, ?_, ?_, (k.la.cg2 (fun j hj => ge 8 j (by omega)) (fun j hj => ge 9 j (by omega)) (ge 79 4 (by omega)) (fun j hj => ge 79 (298 + j) (by omega)))⟩
    · intro j hj
      rw [ge 79 (19 + j) (by omega)]
      exact k.sir j hj
    · intro j hj
      rw [ge 79 (23 + j) (by omega)]
      exact k.slr j hj
    · intro j hj
      have := k.bc9
      exact (ge 13 j (by omega)).trans ((k.bo j hj).trans (ge 79 (55 + j) (by omega)).symm)
    · intro j hj
      have := k.bc9
      rw [ge 79 (55 + 3 * j) (by omega), ge 79 (55 + 3 * j + 1) (by omega), ge 79 (55 + 3 * j + 2) (by omega)]
      exact k.bor j hj
theorem tl_8 {ah : Bool} {law : Option (List (Int × List Int))} {n mg dw tx bc : Int} {m : Mem} {w w' : Nat → Int32} {q : GLn} {i : Nat} (hi : i < 14) (k : GRw m w law n mg dw tx bc) (hr : RowsG m i [q]) (eq1 : q.1 = 8) {b1 a x y : Nat} (hb1 : b1 < 60) (hw : w 5 = iI b1) (ha : a ≤ 1) (hx : x ≤ 1) (hy : y ≤ 2) (e1 : q.2.1 = iI a) (e2 : q.2.2.1 = iI x) (e3 : q.2.2.2.1 = iI y) (e : ∀ j, w' j = if j = 55 + 3 * b1 then iI a else if j = 56 + 3 * b1 then iI x else if j = 57 + 3 * b1 then iI y else if j = 5 then iI (b1 + 1 : Nat) else w j) : ∃ m', F_GT_tellLine (iI (5 * i : Nat)) m = some ((), m') ∧ ∃ n' mg' dw' bc', GRw m' w' law n' mg' dw' tx bc' ∧ (ah = false → n' = n) := by
  obtain ⟨r0, r1, r2, r3, r4, -⟩ := hr
  have x1 : iI ((5 * i : Nat) : Int) + (1 : Int32) = iI (5 * i + 1 : Nat) := by rw [lt1, iI_add]; rfl
  have x2 : iI ((5 * i : Nat) : Int) + (2 : Int32) = iI (5 * i + 2 : Nat) := by rw [lt2, iI_add]; rfl
  have x3 : iI ((5 * i : Nat) : Int) + (3 : Int32) = iI (5 * i + 3 : Nat) := by rw [lt3, iI_add]; rfl
  have x4 : iI ((5 * i : Nat) : Int) + (4 : Int32) = iI (5 * i + 4 : Nat) := by rw [lt4, iI_add]; rfl
  have k0 : GR (wG m w) 3 4 5 6 7 8 9 12 13 79 law n mg dw tx bc := k
  have kb0 := k0.bc0
  have kb9 := k0.bc9
  have hbb : bc = b1 := by
    have h1 := k0.wbc
    rw [wG_79, hw, iI_eq (by omega) (by omega) (by omega) (by omega)] at h1
    omega
  have h12 : gI m 12 0 = iI b1 := by
    have h1 := k0.cbc
    rw [wG_o (by decide), hbb] at h1
    exact h1
  obtain ⟨m1, hm1⟩ : ∃ z9, z9 = sI (sI (sI (sI m 13 (3 * b1) (iI a)) 13 (3 * b1 + 1) (iI x)) 13 (3 * b1 + 2) (iI y)) 12 0 (iI (b1 + 1 : Nat)) := ⟨_, rfl⟩
  have ge : ∀ o j, ¬ ((o = 12 ∧ j = 0) ∨ (o = 13 ∧ 3 * b1 ≤ j ∧ j ≤ 3 * b1 + 2) ∨ (o = 79 ∧ (j = 5 ∨ (55 + 3 * b1 ≤ j ∧ j ≤ 57 + 3 * b1)))) → gI (wG m1 w') o j = gI (wG m w) o j := by
    intro o j hne
    by_cases ho : o = 79
    · subst ho
      rw [wG_79, wG_79, e, if_neg (fun q => hne (by omega)), if_neg (fun q => hne (by omega)), if_neg (fun q => hne (by omega)), if_neg (fun q => hne (by omega))]
    · rw [wG_o ho, wG_o ho, hm1, gI_sI, if_neg (fun q => hne (by omega)), gI_sI, if_neg (fun q => hne (by omega)), gI_sI, if_neg (fun q => hne (by omega)), gI_sI, if_neg (fun q => hne (by omega))]
  have v0 : gI m1 13 (3 * b1) = iI a := by rw [hm1, gI_sI, if_neg (fun q => absurd q.1 (by decide)), gI_sI, if_neg (fun q => by have := q.2; omega), gI_sI, if_neg (fun q => by have := q.2; omega), gI_sI, if_pos ⟨rfl, rfl⟩]
  have v1 : gI m1 13 (3 * b1 + 1) = iI x := by rw [hm1, gI_sI, if_neg (fun q => absurd q.1 (by decide)), gI_sI, if_neg (fun q => by have := q.2; omega), gI_sI, if_pos ⟨rfl, rfl⟩]
  have v2 : gI m1 13 (3 * b1 + 2) = iI y := by rw [hm1, gI_sI, if_neg (fun q => absurd q.1 (by decide)), gI_sI, if_pos ⟨rfl, rfl⟩]
  refine ⟨m1, ?_, n, mg, dw, ((b1 + 1 : Nat) : Int), ?_, (fun _ => rfl)⟩
  · unfold F_GT_tellLine
    rw [if_neg (by rw [lt0, iI_lt (by omega) (by omega) (by omega) (by omega)]; omega), if_pos (by rw [lt5, lt70, iI_add, iI_le (by omega) (by omega) (by omega) (by omega)]; omega), x1, ckB_t (iI_inb (by omega) (by omega) (by omega)), lt_def, iI_idx (by omega) (by omega), Int.toNat_natCast, x2, ckB_t (iI_inb (by omega) (by omega) (by omega)), lt_def, iI_idx (by omega) (by omega), Int.toNat_natCast, x3, ckB_t (iI_inb (by omega) (by omega) (by omega)), lt_def, iI_idx (by omega) (by omega), Int.toNat_natCast, ckB_t (iI_inb (by omega) (by omega) (by omega)), lt_def, iI_idx (by omega) (by omega), Int.toNat_natCast, r0, r1, r2, r3, eq1]
    rw [if_neg (by decide), if_neg (by decide), if_neg (by decide), if_neg (by decide), if_neg (by decide), if_neg (by decide), if_neg (by decide), if_neg (by decide)]
    rw [e1, e2, e3, bnd_some (bkAdd_eq hb1 h12 _ _ _), hm1]
  · unfold GRw at k ⊢
    refine GR.mk ⟨(k.n1), (k.n9), (k.mg0), (k.mg9), (k.dw0), (k.dw9), (k.tx0), (k.tx9), ((by omega)), ((by omega)), ((ge 3 0 (by omega)).trans k.cn), ((ge 79 0 (by omega)).trans k.wn), ((ge 3 4 (by omega)).trans k.cmg), ((ge 79 1 (by omega)).trans k.wmg), ((ge 3 5 (by omega)).trans k.cdw), ((ge 79 2 (by omega)).trans k.wdw), ((ge 3 6 (by omega)).trans k.ctx), ((ge 79 3 (by omega)).trans k.wtx), (((wG_o (by decide) _).trans (by rw [hm1, gI_sI, if_pos ⟨rfl, rfl⟩]))), (((wG_79 _).trans (by rw [e, if_neg (by omega), if_neg (by omega), if_neg (by omega), if_pos rfl]))), ((ge 3 1 (by omega)).trans (k.cl.trans (ge 79 6 (by omega)).symm)), ((ge 3 2 (by omega)).trans (k.ti.trans (ge 79 7 (by omega)).symm)), ((ge 3 3 (by omega)).trans (k.ra.trans (ge 79 8 (by omega)).symm)), (⟨(ge 4 0 (by omega)).trans (k.si.1.trans (ge 79 19 (by omega)).symm), (ge 4 1 (by omega)).trans (k.si.2.1.trans (ge 79 21 (by omega)).symm), (ge 5 0 (by omega)).trans (k.si.2.2.1.trans (ge 79 20 (by omega)).symm), (ge 5 1 (by omega)).trans (k.si.2.2.2.trans (ge 79 22 (by omega)).symm)⟩), (fun j hj => ⟨(ge 6 j (by omega)).trans ((k.sl j hj).1.trans (ge 79 (23 + 2 * j) (by omega)).symm), (ge 7 j (by omega)).trans ((k.sl j hj).2.trans (ge 79 (24 + 2 * j) (by omega)).symm)⟩), ?_, ?_, ?_, ?_, (k.la.cg2 (fun j hj => ge 8 j (by omega)) (fun j hj => ge 9 j (by omega)) (ge 79 4 (by omega)) (fun j hj => ge 79 (298 + j) (by omega)))⟩
    · intro j hj
      rw [ge 79 (19 + j) (by omega)]
      exact k.sir j hj
    · intro j hj
      rw [ge 79 (23 + j) (by omega)]
      exact k.slr j hj
    · intro j hj
      by_cases h1 : j = 3 * b1
      · rw [h1, wG_o (by decide), v0, wG_79, e, if_pos (by omega)]
      · by_cases h2 : j = 3 * b1 + 1
        · rw [h2, wG_o (by decide), v1, wG_79, e, if_neg (by omega), if_pos (by omega)]
        · by_cases h3 : j = 3 * b1 + 2
          · rw [h3, wG_o (by decide), v2, wG_79, e, if_neg (by omega), if_neg (by omega), if_pos (by omega)]
          · exact (ge 13 j (by omega)).trans ((k.bo j (by omega)).trans (ge 79 (55 + j) (by omega)).symm)
    · intro j hj
      by_cases h1 : j = b1
      · refine ⟨⟨a, ?_, by omega, by omega⟩, ⟨x, ?_, by omega, by omega⟩, ⟨y, ?_, by omega, by omega⟩⟩
        · rw [h1, wG_79, e, if_pos (by omega)]
        · rw [h1, wG_79, e, if_neg (by omega), if_pos (by omega)]
        · rw [h1, wG_79, e, if_neg (by omega), if_neg (by omega), if_pos (by omega)]
      · rw [ge 79 (55 + 3 * j) (by omega), ge 79 (55 + 3 * j + 1) (by omega), ge 79 (55 + 3 * j + 2) (by omega)]
        exact k.bor j (by omega)
theorem tline {ah : Bool} {law : Option (List (Int × List Int))} {n mg dw tx bc : Int} {m : Mem} {w w' : Nat → Int32} {q : GLn} {i : Nat} (hi : i < 14) (k : GRw m w law n mg dw tx bc) (hr : RowsG m i [q]) (hq : AP ah w q w') : ∃ m', F_GT_tellLine (iI (5 * i : Nat)) m = some ((), m') ∧ ∃ n' mg' dw' bc', GRw m' w' law n' mg' dw' tx bc' ∧ (ah = false → n' = n) := by
  rcases hq with ⟨h1, h2, a, h3, h4, h5, e⟩ | ⟨h1, a, x, y, h2, h3, h4, h5, h6, h7, e⟩ | ⟨h1, a, c, x, y, h2, h3, h4, h5, h6, h7, h8, h9, e⟩ | ⟨t, ht, h1, e⟩ | ⟨h1, a, h2, h3, e⟩ | ⟨h1, a, h2, h3, e⟩ | ⟨h1, b1, a, x, y, h2, h3, h4, h5, h6, h7, h8, h9, e⟩
  · exact tl_0 hi k hr h1 h2 h3 h4 h5 e
  · exact tl_1 hi k hr h1 h2 h3 h4 h5 h6 h7 e
  · exact tl_2 hi k hr h1 h2 h3 h4 h5 h6 h7 h8 h9 e
  · rcases (show t = 0 ∨ t = 1 ∨ t = 2 by omega) with rfl | rfl | rfl
    · exact tl_3 hi k hr h1 e
    · exact tl_4 hi k hr h1 e
    · exact tl_5 hi k hr h1 e
  · exact tl_6 hi k hr h1 h2 h3 e
  · exact tl_7 hi k hr h1 h2 h3 e
  · exact tl_8 hi k hr h1 h2 h3 h4 h5 h6 h7 h8 h9 e
/-- the lines are told, one behind another -/
theorem tell_L {ah : Bool} {law : Option (List (Int × List Int))} {tx : Int} {w' : Nat → Int32} {N0 : Nat} (hN0 : N0 ≤ 14) : ∀ (l : List GLn) (i nf : Nat) (m : Mem) (w : Nat → Int32) (n mg dw bc : Int), i + l.length = N0 → l.length < nf → gI m 46 8 = iI N0 → RowsG m i l → GRw m w law n mg dw tx bc → APs ah w l w' → ∃ m', F_GT_tell_L2 nf (iI i) m = some ((), m') ∧ ∃ n' mg' dw' bc', GRw m' w' law n' mg' dw' tx bc' ∧ (ah = false → n' = n)
  | [], i, nf, m, w, n, mg, dw, bc, hi, hnf, h8, _, k, ha => by
    obtain ⟨nf, rfl⟩ : ∃ x, nf = x + 1 := ⟨nf - 1, by omega⟩
    have e : w' = w := funext ha
    simp only [List.length_nil] at hi
    refine ⟨m, ?_, n, mg, dw, bc, by rw [e]; exact k, fun _ => rfl⟩
    rw [F_GT_tell_L2, h8, if_pos (by rw [iI_le (by omega) (by omega) (by omega) (by omega)]; omega)]
  | q :: r, i, nf, m, w, n, mg, dw, bc, hi, hnf, h8, ⟨r0, r1, r2, r3, r4, hrr⟩, k, ⟨w1, ha, has⟩ => by
    simp only [List.length_cons] at hi hnf
    obtain ⟨nf, rfl⟩ : ∃ x, nf = x + 1 := ⟨nf - 1, by omega⟩
    obtain ⟨m1, e1, n1, mg1, dw1, bc1, k1, hn1⟩ := tline (i := i) (by omega) k ⟨r0, r1, r2, r3, r4, trivial⟩ ha
    have f1 := fr_GT_tellLine _ _ _ _ e1
    obtain ⟨m2, e2, n2, mg2, dw2, bc2, k2, hn2⟩ := tell_L hN0 r (i + 1) nf m1 w1 n1 mg1 dw1 bc1 (by omega) (by omega) ((f1.gI (by simp) (by simp)).trans h8) (RowsG_cg (fun j _ => f1.gI (by simp) (by simp)) hrr) k1 has
    refine ⟨m2, ?_, n2, mg2, dw2, bc2, k2, fun q => (hn2 q).trans (hn1 q)⟩
    rw [F_GT_tell_L2, h8, if_neg (by rw [iI_le (by omega) (by omega) (by omega) (by omega)]; omega), if_neg (by rw [lt14, iI_le (by omega) (by omega) (by omega) (by omega)]; omega), show iI (i : Int) * (5 : Int32) = iI (5 * i : Nat) by rw [lt5, iI_mul]; congr 1; omega, bnd_some e1, lt_def, lt1, iI_add]
    exact e2
theorem tell_ok {ah : Bool} {law : Option (List (Int × List Int))} {tx n mg dw bc : Int} {w w' : Nat → Int32} {m : Mem} {l : List GLn} (hl : l.length ≤ 14) (h8 : gI m 46 8 = iI l.length) (hr : RowsG m 0 l) (k : GRw m w law n mg dw tx bc) (ha : APs ah w l w') : ∃ m', F_GT_tell m = some ((), m') ∧ ∃ n' mg' dw' bc', GRw m' w' law n' mg' dw' tx bc' ∧ (ah = false → n' = n) := by
  obtain ⟨N, hN⟩ : ∃ N : Nat, N = 1000000 := ⟨_, rfl⟩
  unfold F_GT_tell
  rw [← hN]
  exact tell_L hl l 0 N m w n mg dw bc (by omega) (by omega) h8 hr k ha
theorem AP_3 {ah : Bool} {w w' : Nat → Int32} {q : GLn} (h : AP ah w q w') : w' 3 = w 3 := by
  rcases h with ⟨-, -, a, -, -, -, e⟩ | ⟨-, a, x, y, -, -, -, -, -, -, e⟩ | ⟨-, a, c, x, y, -, -, -, -, -, -, -, -, e⟩ | ⟨i, hi, -, e⟩ | ⟨-, a, -, -, e⟩ | ⟨-, a, -, -, e⟩ | ⟨-, bc1, a, x, y, hb1, h51, -, -, -, -, -, -, e⟩
  · rw [e, if_neg (by omega)]
  · rw [e, if_neg (by omega), if_neg (by omega)]
  · rw [e, if_neg (by omega), if_neg (by omega)]
  · rw [e, if_neg (by omega)]
  · rw [e, if_neg (by omega)]
  · rw [e, if_neg (by omega)]
  · rw [e, if_neg (by omega), if_neg (by omega), if_neg (by omega), if_neg (by omega)]
theorem APs_3 {ah : Bool} {w' : Nat → Int32} : ∀ {l : List GLn} {w : Nat → Int32}, APs ah w l w' → w' 3 = w 3
  | [], _, h => h 3
  | _ :: _, _, ⟨_, h1, h2⟩ => (APs_3 h2).trans (AP_3 h1)
/-- what a text of the ground leaves alone: the match's own cells, the law -/
theorem AP_o {ah : Bool} {w w' : Nat → Int32} {q : GLn} (h : AP ah w q w') {j : Nat} (hj : j = 4 ∨ (9 ≤ j ∧ j ≤ 18) ∨ 235 ≤ j) : w' j = w j := by
  rcases h with ⟨-, -, a, -, -, -, e⟩ | ⟨-, a, x, y, g1, -, -, -, -, -, e⟩ | ⟨-, a, c, x, y, g1, g2, -, -, -, -, -, -, e⟩ | ⟨i, hi, -, e⟩ | ⟨-, a, -, -, e⟩ | ⟨-, a, -, -, e⟩ | ⟨-, bc1, a, x, y, hb1, h51, -, -, -, -, -, -, e⟩
  · rw [e, if_neg (by omega)]
  · rw [e, if_neg (by omega), if_neg (by omega)]
  · rw [e, if_neg (by omega), if_neg (by omega)]
  · rw [e, if_neg (by omega)]
  · rw [e, if_neg (by omega)]
  · rw [e, if_neg (by omega)]
  · rw [e, if_neg (by omega), if_neg (by omega), if_neg (by omega), if_neg (by omega)]
theorem APs_o {ah : Bool} {w' : Nat → Int32} {j : Nat} (hj : j = 4 ∨ (9 ≤ j ∧ j ≤ 18) ∨ 235 ≤ j) : ∀ {l : List GLn} {w : Nat → Int32}, APs ah w l w' → w' j = w j
  | [], _, h => h j
  | _ :: _, _, ⟨_, h1, h2⟩ => (APs_o hj h2).trans (AP_o h1 hj)
end GTELL
