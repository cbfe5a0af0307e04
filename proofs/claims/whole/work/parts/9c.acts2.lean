section ACTSB
theorem GR_told {law : Option (List (Int × List Int))} {m m' : Mem} {n mg dw tx bc : Int} (h : GR m 3 4 5 6 7 8 9 12 13 79 law n mg dw tx bc) (e : ∀ o, o = 3 ∨ o = 4 ∨ o = 5 ∨ o = 6 ∨ o = 7 ∨ o = 8 ∨ o = 9 ∨ o = 12 ∨ o = 13 → ∀ j, gI m' o j = gI m o j) (e79 : ∀ j, (j < 9 ∨ (19 ≤ j ∧ j < 235) ∨ 298 ≤ j) → gI m' 79 j = gI m 79 j) : GR m' 3 4 5 6 7 8 9 12 13 79 law n mg dw tx bc :=
  h.cg (fun j _ => e 3 (by omega) j) (fun j _ => e 4 (by omega) j) (fun j _ => e 5 (by omega) j) (fun j _ => e 6 (by omega) j) (fun j _ => e 7 (by omega) j) (fun j => e 8 (by omega) j) (fun j _ => e 9 (by omega) j) (e 12 (by omega) 0) (fun j _ => e 13 (by omega) j) (fun j _ hj => e79 j hj)
theorem WM.to {m m' : Mem} {t : Mt} (h : WM m 79 0 t) (e : ∀ j, gI m' 79 j = gI m 79 j) : WM m' 79 0 t := by
  obtain ⟨k1, k2, k3, k4, k5, k6, k7, k8, k9, ka, kb⟩ := h
  exact ⟨(e _).trans k1, (e _).trans k2, (e _).trans k3, (e _).trans k4, (e _).trans k5, (e _).trans k6, (e _).trans k7, (e _).trans k8, (e _).trans k9, (e _).trans ka, fun j hj => (e _).trans (kb j hj)⟩
theorem act_both {B : Nat} {law : Option (List (Int × List Int))} {n mg wd tx bc : Int} {t t' : Mt} {m : Mem} (h : IV B law n mg wd tx bc t m) (mo' : MtOk t' n) (vT : Int32) {α : Type} (rT : α) (T : Mem → Option (α × Mem)) (M : Mem → Option (Int32 × Mem))
    (hT : ∀ m1, CM m1 16 t → GR m1 3 4 5 6 7 8 9 12 13 79 law n mg wd tx bc → LevOK law m1 → gI m1 79 = gI m 79 → Ok (T m1) (fun r m2 => r = rT ∧ CM m2 16 t' ∧ LevOK law m2 ∧ Fr [10, 11, 14, 16, 17] [] m1 m2))
    (hM : ∀ m3, WM m3 79 0 t → GR m3 3 4 5 6 7 8 9 12 13 79 law n mg wd tx bc → gI m3 79 = gI m 79 → Ok (M m3) (fun r m4 => r = vT ∧ WM m4 79 0 t' ∧ GrEq (gI m4 79) (gI m3 79) ∧ Fr [79, 85] [] m3 m4)) :
    ∃ m2 m4, bnd (F_Pa_remember m) (fun _ m1 => T m1) = some (rT, m2) ∧ gI m2 79 = gI m 79 ∧ bnd (F_M_remembers (sI m2 78 0 0)) (fun _ m3 => M m3) = some (vT, m4) ∧ IV B law n mg wd tx bc t' m4 ∧ gI m4 78 0 = iI 0 := by
  have p9 : t.pl ≤ 9 := by have := h.mo.pl1; have := h.gr.n9; omega
  obtain ⟨s, nx, s12, n12, p1, p2, p3, -⟩ := h.pa
  obtain ⟨m1, e1, c1, g1, g2, f1⟩ := Trem_ok h.cm p9 p1 p2 s12 n12
  have q1 : ∀ o, (o < 20 ∨ 45 < o) → ∀ j, gI m1 o j = gI m o j ∧ gL m1 o j = gL m o j ∧ gZ m1 o j = gZ m o j := fun o ho j => f1 o (by omega) (by omega) (by omega) j
  have h79 : gI m1 79 = gI m 79 := by funext j; exact (q1 79 (by omega) j).1
  have hcm1 : CM m1 16 t := h.cm.cg (fun j => (q1 16 (by omega) j).1) (fun j => (q1 17 (by omega) j).1) (fun j => (q1 16 (by omega) j).2.2)
  have hgr1 : GR m1 3 4 5 6 7 8 9 12 13 79 law n mg wd tx bc := GR_told h.gr (fun o ho j => (q1 o (by omega) j).1) (fun j _ => (q1 79 (by omega) j).1)
  have hlv1 : LevOK law m1 := h.lv.cg2 (fun j => (q1 14 (by omega) j).1) (q1 79 (by omega) 6).1 (q1 79 (by omega) 7).1 (fun j _ _ => (q1 79 (by omega) j).1)
  obtain ⟨r, m2, e2, rfl, c2, l2, f2⟩ := hT m1 hcm1 hgr1 hlv1 h79
  have h79b : gI m2 79 = gI m 79 := (Fr_row f2 rfl rfl).trans h79
  have f2i : ∀ o, o ≠ 10 → o ≠ 11 → o ≠ 14 → o ≠ 16 → o ≠ 17 → ∀ j, gI m2 o j = gI m1 o j ∧ gL m2 o j = gL m1 o j ∧ gZ m2 o j = gZ m1 o j := fun o a b c d e j => f2 o j (by simp; omega) (by simp)
  have ht : Thr m2 (sI m2 78 0 0) := thr_s
  have p3b : gI (sI m2 78 0 0) 78 6 = iI s := by
    rw [gI_sI, if_neg (fun q => absurd q.2 (by decide)), (f2i 78 (by omega) (by omega) (by omega) (by omega) (by omega) 6).1, (q1 78 (by omega) 6).1]
    exact p3
  obtain ⟨m3, e3, a3, b3, f3⟩ := Mrem_ok p3b s12
  have h79c : gI m3 79 = gI m 79 := (Fr_row f3 rfl rfl).trans ((Fr_row ht rfl rfl).trans h79b)
  have hwm3 : WM m3 79 0 t := h.wm.to (fun j => by rw [h79c])
  have hgr3 : GR m3 3 4 5 6 7 8 9 12 13 79 law n mg wd tx bc := by
    refine GR_told h.gr (fun o ho j => ?_) (fun j _ => by rw [h79c])
    rw [f3.gI (by simp; omega) (by simp; omega), gI_sI, if_neg (fun q => by have := q.1; omega), (f2i o (by omega) (by omega) (by omega) (by omega) (by omega) j).1, (q1 o (by omega) j).1]
  obtain ⟨r, m4, e4, rfl, w4, g4, f4⟩ := hM m3 hwm3 hgr3 h79c
  have t4 : gI m4 78 0 = iI 0 := by
    rw [f4.gI (by simp) (by simp), f3.gI (by simp) (by simp), gI_sI, if_pos ⟨rfl, rfl⟩]
    rfl
  refine ⟨m2, m4, by rw [bnd_some e1]; exact e2, h79b, by rw [bnd_some e3]; exact e4, ?_, t4⟩
  refine act_inv h s12 n12 p1 p2 (t' := t') (m1 := m2) (m2 := m4) ?_ ?_ ?_ ?_ ?_ c2 l2 ?_ ?_ w4 ?_ ?_ mo'
  · intro o j a b
    simp only [ringA, List.mem_cons, List.not_mem_nil, or_false, not_or] at a
    have x1 := f2i o (by omega) (by omega) (by omega) (by omega) (by omega) j
    have x2 := f1 o (by omega) (by omega) (by omega) j
    exact ⟨x1.1.trans x2.1, x1.2.1.trans x2.2.1, x1.2.2.trans x2.2.2⟩
  · exact c1.cg (fun j => (f2i _ (by omega) (by omega) (by omega) (by omega) (by omega) j).1) (fun j => (f2i _ (by omega) (by omega) (by omega) (by omega) (by omega) j).1) (fun j => (f2i _ (by omega) (by omega) (by omega) (by omega) (by omega) j).2.2)
  · rw [(f2i 20 (by omega) (by omega) (by omega) (by omega) (by omega) 0).1]
    exact g1
  · rw [(f2i 20 (by omega) (by omega) (by omega) (by omega) (by omega) 1).1]
    exact g2
  · intro k hk hne j
    have x1 := f2i (22 + 2 * k) (by omega) (by omega) (by omega) (by omega) (by omega) j
    have x2 := f1 (22 + 2 * k) (by omega) (by omega) (by omega) j
    have y1 := f2i (23 + 2 * k) (by omega) (by omega) (by omega) (by omega) (by omega) j
    have y2 := f1 (23 + 2 * k) (by omega) (by omega) (by omega) j
    exact ⟨x1.1.trans x2.1, x1.2.2.trans x2.2.2, y1.1.trans y2.1⟩
  · exact Fr_tr (Fr_tr (Fr_wk ht (by simp) (by simp)) f3 (by simp) (by simp)) f4 (by simp) (by simp)
  · intro j hj
    rw [g4 j hj, h79c, h79b]
  · rw [f4.gI (by simp) (by simp)]
    exact a3
  · intro i j hi hj
    rw [f4.gI (by simp) (by simp), b3 i j hi hj]
    have z79 : gI (sI m2 78 0 0) 79 j = gI m 79 j := by
      rw [gI_sI, if_neg (fun q => absurd q.1 (by decide)), h79b]
    have z82 : ∀ x, gI (sI m2 78 0 0) 82 x = gI m 82 x := by
      intro x
      rw [gI_sI, if_neg (fun q => absurd q.1 (by decide)), (f2i 82 (by omega) (by omega) (by omega) (by omega) (by omega) x).1, (q1 82 (by omega) x).1]
    rw [z79, z82]
/-- what the prefix of the reference reads behind the class's call -/
theorem bring_op {B : Nat} {law : Option (List (Int × List Int))} {n mg wd tx bc : Int} {t : Mt} {m : Mem} (h : IV B law n mg wd tx bc t m) (a : Int32) : Both B (fun e => if e = 2 then 1 else if e = 0 then 2 else 0) (F_T_bring a) (F_M_bring a) m := by
  obtain ⟨z, rfl, z1, z2⟩ := iI_ex a
  obtain ⟨c0, c1, c2, c3, c4, c5, c6, c7, c8, c9, clg⟩ := h.cm
  obtain ⟨w9, w10, w11, w12, w13, w14, w15, w16, w17, w18, wlg⟩ := h.wm
  simp only [Nat.zero_add] at w9 w10 w11 w12 w13 w14 w15 w16 w17 w18 wlg
  have k_fi0 := h.mo.fi0
  have k_fi1 := h.mo.fi1
  have k_in0 := h.mo.in0
  have k_in3 := h.mo.in3
  have k_ou0 := h.mo.ou0
  have k_ou1 := h.mo.ou1
  have k_pl0 := h.mo.pl0
  have k_pl1 := h.mo.pl1
  have k_wi0 := h.mo.wi0
  have k_wi2 := h.mo.wi2
  have k_a0 := h.mo.a0
  have k_a1 := h.mo.a1
  have k_b0 := h.mo.b0
  have k_b1 := h.mo.b1
  have k_fo := h.mo.fo
  have k_no := h.mo.no
  have k_on := h.mo.on
  have k_pn := h.mo.pn
  have k_fre := h.mo.fre
  have k_n1 := h.gr.n1
  have k_n9 := h.gr.n9
  have k_cn := h.gr.cn
  have k_wn := h.gr.wn
  have k_cmg := h.gr.cmg
  have k_wmg := h.gr.wmg
  have k_mg0 := h.gr.mg0
  have k_mg9 := h.gr.mg9
  unfold Both
  have x1 := Ton_eq (t := t) (m := m) c0 c4 k_fi0 k_fi1 k_wi0 k_wi2
  by_cases hr : (0 ≤ z ∧ z < 4) ∧ 0 ≤ t.fi ∧ t.win = -1
  · obtain ⟨hz, on⟩ := hr
    rw [decide_eq_true on] at x1
    have hbr := batZ_rng on.1 k_fi1
    have mo' := plT_ok false h.gr h.mo on hz.1 hz.2 (w := gI m 79) rfl
    obtain ⟨m2, m4, e1, h79, e2, iv, t0⟩ := act_both h mo' (iI (leadZ (adR t (ruT t (gI m 79) law z false)) (batZ t))) (α := Nat ⊕ Int32) (.inr (iI (leadZ (adR t (ruT t (gI m 79) law z false)) (batZ t)))) (fun mq7 => bnd (F_Ma_batting mq7) fun xq12 mq10 => bnd (F_Ma_playSession (iI z) false mq10) fun _ mq13 => bnd (F_Ma_leadOf xq12 mq13) fun xq18 mq16 => some (.inr xq18, mq16)) (fun mq16 => bnd (F_M_plays (iI z) false mq16) fun xq21 mq19 => some (xq21, mq19)) (by
        intro m1 hc1 hg1 hl1 hw1
        obtain ⟨d0, d1, d2, d3, d4, d5, d6, d7, d8, d9, dlg⟩ := id hc1
        rw [bnd_some (Tbatting_eq d0 d1 d5 k_in0 k_in3 k_fo)]
        obtain ⟨_, mx, ex, cx1, lx1⟩ := play_ok false hg1 hl1 hc1 h.mo on hz.1 hz.2 (w := gI m 79) hw1.symm
        have hfx := fr_Ma_playSession _ _ _ _ _ ex
        rw [bnd_some ex]
        have hl0 : (plT t n (gI m 79) law z false).r0 = (adR t (ruT t (gI m 79) law z false)).r0 := by unfold plT plR jd nxI; split <;> rfl
        have hl1' : (plT t n (gI m 79) law z false).r1 = (adR t (ruT t (gI m 79) law z false)).r1 := by unfold plT plR jd nxI; split <;> rfl
        have e8 : gI mx 16 8 = iI (adR t (ruT t (gI m 79) law z false)).r0 := by rw [← hl0]; exact cx1.2.2.2.2.2.2.2.2.1
        have e9 : gI mx 16 9 = iI (adR t (ruT t (gI m 79) law z false)).r1 := by rw [← hl1']; exact cx1.2.2.2.2.2.2.2.2.2.1
        refine ok_bnd_e (Tlead_eq (t := adR t (ruT t (gI m 79) law z false)) e8 e9 hbr.1 hbr.2) (ok_some ⟨rfl, cx1, lx1, ?_⟩)
        intro o j q1 q2
        simp only [List.mem_cons, List.not_mem_nil, or_false, not_or] at q1
        exact hfx o j (by simp; omega) (by simp; omega)) (by
        intro m3 hw3 hg3 hw4
        obtain ⟨r, mx, ex, rfl, wx, gx⟩ := Mplays_ok false hg3 hw3 h.mo on hz.1 hz.2 (w := gI m 79) hw4.symm
        refine ok_bnd_e ex (ok_some ⟨rfl, wx, fun j hj => gx j (by omega), fr_M_plays _ _ _ _ _ ex⟩))
    have x2 := Mon_eq (t := t) (m := sI m2 78 0 0) (by rw [gI_sI, if_neg (fun q => absurd q.1 (by decide)), h79]; exact w10) (by rw [gI_sI, if_neg (fun q => absurd q.1 (by decide)), h79]; exact w18) k_fi0 k_fi1 k_wi0 k_wi2
    rw [decide_eq_true on] at x2
    repeat' (first
      | (with_reducible refine ok_ck ?_ ?_; focus (simp (disch := omega) only [↓lt_def, ↓reduceIte, ckB_true, bnd_e, Int.reduceAdd, Int.reduceSub, Int.reduceMul, Int.reduceNeg, Int.reduceToNat, Bool.false_eq_true, eq_self, not_false_eq_true, not_true_eq_false, Int.toNat_natCast, lt0, lt1, lt2, lt3, lt4, lt5, lt6, lt7, lt8, lt9, lt10, lt11, lt12, lt13, lt14, lt15, lt16, lt17, lt18, lt19, lt20, lt21, lt22, lt23, lt24, lt25, lt26, lt27, lt28, lt29, lt30, lt31, lt32, lt40, lt41, lt43, lt48, lt55, lt57, lt59, lt60, lt62, lt63, lt64, lt70, lt72, lt81, lt97, lt99, lt100, lt122, lt162, lt180, lt235, lt255, lt298, lt299, lt325, lt335, lt400, lt837, lt999, lt1000, lt1001, lt1002, lt1003, lt1004, lt1005, lt1006, lt1007, lt1008, lt1100, lt1101, lt1102, lt1103, lt1104, lt1105, lt1135, lt1136, lt1172, lt2000, lt3278, lt3575, lt10000, lt12345, lt21450, lt32767, lt193050, lt1103515245, ltm162, ltm99, ltm81, ltm8, ltm1, iI_add, iI_sub, iI_mul, iI_neg, iI_divn, iI_lt_t, iI_lt_f, iI_le_t, iI_le_f, iI_eq_t, iI_eq_f, iI_lt, iI_le, iI_eq, iI_idx, iI_inb, gI_sI, gL_sL, gZ_sZ, gI_sL, gI_sZ, gL_sI, gL_sZ, gZ_sI, gZ_sL, Nat.reduceEqDiff, false_and, and_false, and_true, true_and, and_self]; done))
      | (with_reducible refine ok_bnd_e (x1) ?_)
      | (with_reducible refine ok_bnd_e (x2) ?_)
      | (with_reducible refine ok_e e1 ?_)
      | (with_reducible refine ok_e e2 ?_)
      | (with_reducible refine ok_bnd ?_)
      | (with_reducible refine ok_bndX ?_)
      | (with_reducible refine ok_lt ?_)
      | (with_reducible refine ok_t ?_ ?_; focus (simp (disch := omega) only [↓lt_def, ↓reduceIte, ckB_true, bnd_e, Int.reduceAdd, Int.reduceSub, Int.reduceMul, Int.reduceNeg, Int.reduceToNat, Bool.false_eq_true, eq_self, not_false_eq_true, not_true_eq_false, Int.toNat_natCast, lt0, lt1, lt2, lt3, lt4, lt5, lt6, lt7, lt8, lt9, lt10, lt11, lt12, lt13, lt14, lt15, lt16, lt17, lt18, lt19, lt20, lt21, lt22, lt23, lt24, lt25, lt26, lt27, lt28, lt29, lt30, lt31, lt32, lt40, lt41, lt43, lt48, lt55, lt57, lt59, lt60, lt62, lt63, lt64, lt70, lt72, lt81, lt97, lt99, lt100, lt122, lt162, lt180, lt235, lt255, lt298, lt299, lt325, lt335, lt400, lt837, lt999, lt1000, lt1001, lt1002, lt1003, lt1004, lt1005, lt1006, lt1007, lt1008, lt1100, lt1101, lt1102, lt1103, lt1104, lt1105, lt1135, lt1136, lt1172, lt2000, lt3278, lt3575, lt10000, lt12345, lt21450, lt32767, lt193050, lt1103515245, ltm162, ltm99, ltm81, ltm8, ltm1, iI_add, iI_sub, iI_mul, iI_neg, iI_divn, iI_lt_t, iI_lt_f, iI_le_t, iI_le_f, iI_eq_t, iI_eq_f, iI_lt, iI_le, iI_eq, iI_idx, iI_inb, gI_sI, gL_sL, gZ_sZ, gI_sL, gI_sZ, gL_sI, gL_sZ, gZ_sI, gZ_sL, Nat.reduceEqDiff, false_and, and_false, and_true, true_and, and_self]; done))
      | (with_reducible refine ok_f ?_ ?_; focus (simp (disch := omega) only [↓lt_def, ↓reduceIte, ckB_true, bnd_e, Int.reduceAdd, Int.reduceSub, Int.reduceMul, Int.reduceNeg, Int.reduceToNat, Bool.false_eq_true, eq_self, not_false_eq_true, not_true_eq_false, Int.toNat_natCast, lt0, lt1, lt2, lt3, lt4, lt5, lt6, lt7, lt8, lt9, lt10, lt11, lt12, lt13, lt14, lt15, lt16, lt17, lt18, lt19, lt20, lt21, lt22, lt23, lt24, lt25, lt26, lt27, lt28, lt29, lt30, lt31, lt32, lt40, lt41, lt43, lt48, lt55, lt57, lt59, lt60, lt62, lt63, lt64, lt70, lt72, lt81, lt97, lt99, lt100, lt122, lt162, lt180, lt235, lt255, lt298, lt299, lt325, lt335, lt400, lt837, lt999, lt1000, lt1001, lt1002, lt1003, lt1004, lt1005, lt1006, lt1007, lt1008, lt1100, lt1101, lt1102, lt1103, lt1104, lt1105, lt1135, lt1136, lt1172, lt2000, lt3278, lt3575, lt10000, lt12345, lt21450, lt32767, lt193050, lt1103515245, ltm162, ltm99, ltm81, ltm8, ltm1, iI_add, iI_sub, iI_mul, iI_neg, iI_divn, iI_lt_t, iI_lt_f, iI_le_t, iI_le_f, iI_eq_t, iI_eq_f, iI_lt, iI_le, iI_eq, iI_idx, iI_inb, gI_sI, gL_sL, gZ_sZ, gI_sL, gI_sZ, gL_sI, gL_sZ, gZ_sI, gZ_sL, Nat.reduceEqDiff, false_and, and_false, and_true, true_and, and_self]; done))
      | ((with_reducible refine ok_ite (fun hc => ?_) (fun hc => ?_)) <;> (try simp (disch := omega) only [↓lt_def, ↓reduceIte, ckB_true, bnd_e, Int.reduceAdd, Int.reduceSub, Int.reduceMul, Int.reduceNeg, Int.reduceToNat, Bool.false_eq_true, eq_self, not_false_eq_true, not_true_eq_false, Int.toNat_natCast, lt0, lt1, lt2, lt3, lt4, lt5, lt6, lt7, lt8, lt9, lt10, lt11, lt12, lt13, lt14, lt15, lt16, lt17, lt18, lt19, lt20, lt21, lt22, lt23, lt24, lt25, lt26, lt27, lt28, lt29, lt30, lt31, lt32, lt40, lt41, lt43, lt48, lt55, lt57, lt59, lt60, lt62, lt63, lt64, lt70, lt72, lt81, lt97, lt99, lt100, lt122, lt162, lt180, lt235, lt255, lt298, lt299, lt325, lt335, lt400, lt837, lt999, lt1000, lt1001, lt1002, lt1003, lt1004, lt1005, lt1006, lt1007, lt1008, lt1100, lt1101, lt1102, lt1103, lt1104, lt1105, lt1135, lt1136, lt1172, lt2000, lt3278, lt3575, lt10000, lt12345, lt21450, lt32767, lt193050, lt1103515245, ltm162, ltm99, ltm81, ltm8, ltm1, iI_add, iI_sub, iI_mul, iI_neg, iI_divn, iI_lt_t, iI_lt_f, iI_le_t, iI_le_f, iI_eq_t, iI_eq_f, iI_lt, iI_le, iI_eq, iI_idx, iI_inb, gI_sI, gL_sL, gZ_sZ, gI_sL, gI_sZ, gL_sI, gL_sZ, gZ_sI, gZ_sL, Nat.reduceEqDiff, false_and, and_false, and_true, true_and, and_self] at hc) <;> (try (exfalso; omega)))
      | (with_reducible refine ok_some ?_)
      | (with_reducible refine ok_xr ?_)
      | (with_reducible refine ok_xl ?_)
      | (unfold F_T_bring)
      | (unfold F_T_mustBeBelow)
      | (unfold F_T_mustBeOn)
      | (unfold F_M_bring)
      | (unfold F_M_noSlot)
      | (unfold F_M_in)
      | (unfold F_M_throwsIf))
    exact ⟨⟨t0, rfl⟩, iv.inv⟩
  · have x2 := Mon_eq (t := t) (m := sI m 78 0 0) w10 w18 k_fi0 k_fi1 k_wi0 k_wi2
    by_cases on : 0 ≤ t.fi ∧ t.win = -1
    · rw [decide_eq_true on] at x1 x2
      repeat' (first
        | (with_reducible refine ok_ck ?_ ?_; focus (simp (disch := omega) only [↓lt_def, ↓reduceIte, ckB_true, bnd_e, Int.reduceAdd, Int.reduceSub, Int.reduceMul, Int.reduceNeg, Int.reduceToNat, Bool.false_eq_true, eq_self, not_false_eq_true, not_true_eq_false, Int.toNat_natCast, lt0, lt1, lt2, lt3, lt4, lt5, lt6, lt7, lt8, lt9, lt10, lt11, lt12, lt13, lt14, lt15, lt16, lt17, lt18, lt19, lt20, lt21, lt22, lt23, lt24, lt25, lt26, lt27, lt28, lt29, lt30, lt31, lt32, lt40, lt41, lt43, lt48, lt55, lt57, lt59, lt60, lt62, lt63, lt64, lt70, lt72, lt81, lt97, lt99, lt100, lt122, lt162, lt180, lt235, lt255, lt298, lt299, lt325, lt335, lt400, lt837, lt999, lt1000, lt1001, lt1002, lt1003, lt1004, lt1005, lt1006, lt1007, lt1008, lt1100, lt1101, lt1102, lt1103, lt1104, lt1105, lt1135, lt1136, lt1172, lt2000, lt3278, lt3575, lt10000, lt12345, lt21450, lt32767, lt193050, lt1103515245, ltm162, ltm99, ltm81, ltm8, ltm1, iI_add, iI_sub, iI_mul, iI_neg, iI_divn, iI_lt_t, iI_lt_f, iI_le_t, iI_le_f, iI_eq_t, iI_eq_f, iI_lt, iI_le, iI_eq, iI_idx, iI_inb, gI_sI, gL_sL, gZ_sZ, gI_sL, gI_sZ, gL_sI, gL_sZ, gZ_sI, gZ_sL, Nat.reduceEqDiff, false_and, and_false, and_true, true_and, and_self]; done))
        | (with_reducible refine ok_bnd_e (x1) ?_)
        | (with_reducible refine ok_bnd_e (x2) ?_)
        | (with_reducible refine ok_bnd ?_)
        | (with_reducible refine ok_bndX ?_)
        | (with_reducible refine ok_lt ?_)
        | (with_reducible refine ok_t ?_ ?_; focus (simp (disch := omega) only [↓lt_def, ↓reduceIte, ckB_true, bnd_e, Int.reduceAdd, Int.reduceSub, Int.reduceMul, Int.reduceNeg, Int.reduceToNat, Bool.false_eq_true, eq_self, not_false_eq_true, not_true_eq_false, Int.toNat_natCast, lt0, lt1, lt2, lt3, lt4, lt5, lt6, lt7, lt8, lt9, lt10, lt11, lt12, lt13, lt14, lt15, lt16, lt17, lt18, lt19, lt20, lt21, lt22, lt23, lt24, lt25, lt26, lt27, lt28, lt29, lt30, lt31, lt32, lt40, lt41, lt43, lt48, lt55, lt57, lt59, lt60, lt62, lt63, lt64, lt70, lt72, lt81, lt97, lt99, lt100, lt122, lt162, lt180, lt235, lt255, lt298, lt299, lt325, lt335, lt400, lt837, lt999, lt1000, lt1001, lt1002, lt1003, lt1004, lt1005, lt1006, lt1007, lt1008, lt1100, lt1101, lt1102, lt1103, lt1104, lt1105, lt1135, lt1136, lt1172, lt2000, lt3278, lt3575, lt10000, lt12345, lt21450, lt32767, lt193050, lt1103515245, ltm162, ltm99, ltm81, ltm8, ltm1, iI_add, iI_sub, iI_mul, iI_neg, iI_divn, iI_lt_t, iI_lt_f, iI_le_t, iI_le_f, iI_eq_t, iI_eq_f, iI_lt, iI_le, iI_eq, iI_idx, iI_inb, gI_sI, gL_sL, gZ_sZ, gI_sL, gI_sZ, gL_sI, gL_sZ, gZ_sI, gZ_sL, Nat.reduceEqDiff, false_and, and_false, and_true, true_and, and_self]; done))
        | (with_reducible refine ok_f ?_ ?_; focus (simp (disch := omega) only [↓lt_def, ↓reduceIte, ckB_true, bnd_e, Int.reduceAdd, Int.reduceSub, Int.reduceMul, Int.reduceNeg, Int.reduceToNat, Bool.false_eq_true, eq_self, not_false_eq_true, not_true_eq_false, Int.toNat_natCast, lt0, lt1, lt2, lt3, lt4, lt5, lt6, lt7, lt8, lt9, lt10, lt11, lt12, lt13, lt14, lt15, lt16, lt17, lt18, lt19, lt20, lt21, lt22, lt23, lt24, lt25, lt26, lt27, lt28, lt29, lt30, lt31, lt32, lt40, lt41, lt43, lt48, lt55, lt57, lt59, lt60, lt62, lt63, lt64, lt70, lt72, lt81, lt97, lt99, lt100, lt122, lt162, lt180, lt235, lt255, lt298, lt299, lt325, lt335, lt400, lt837, lt999, lt1000, lt1001, lt1002, lt1003, lt1004, lt1005, lt1006, lt1007, lt1008, lt1100, lt1101, lt1102, lt1103, lt1104, lt1105, lt1135, lt1136, lt1172, lt2000, lt3278, lt3575, lt10000, lt12345, lt21450, lt32767, lt193050, lt1103515245, ltm162, ltm99, ltm81, ltm8, ltm1, iI_add, iI_sub, iI_mul, iI_neg, iI_divn, iI_lt_t, iI_lt_f, iI_le_t, iI_le_f, iI_eq_t, iI_eq_f, iI_lt, iI_le, iI_eq, iI_idx, iI_inb, gI_sI, gL_sL, gZ_sZ, gI_sL, gI_sZ, gL_sI, gL_sZ, gZ_sI, gZ_sL, Nat.reduceEqDiff, false_and, and_false, and_true, true_and, and_self]; done))
        | ((with_reducible refine ok_ite (fun hc => ?_) (fun hc => ?_)) <;> (try simp (disch := omega) only [↓lt_def, ↓reduceIte, ckB_true, bnd_e, Int.reduceAdd, Int.reduceSub, Int.reduceMul, Int.reduceNeg, Int.reduceToNat, Bool.false_eq_true, eq_self, not_false_eq_true, not_true_eq_false, Int.toNat_natCast, lt0, lt1, lt2, lt3, lt4, lt5, lt6, lt7, lt8, lt9, lt10, lt11, lt12, lt13, lt14, lt15, lt16, lt17, lt18, lt19, lt20, lt21, lt22, lt23, lt24, lt25, lt26, lt27, lt28, lt29, lt30, lt31, lt32, lt40, lt41, lt43, lt48, lt55, lt57, lt59, lt60, lt62, lt63, lt64, lt70, lt72, lt81, lt97, lt99, lt100, lt122, lt162, lt180, lt235, lt255, lt298, lt299, lt325, lt335, lt400, lt837, lt999, lt1000, lt1001, lt1002, lt1003, lt1004, lt1005, lt1006, lt1007, lt1008, lt1100, lt1101, lt1102, lt1103, lt1104, lt1105, lt1135, lt1136, lt1172, lt2000, lt3278, lt3575, lt10000, lt12345, lt21450, lt32767, lt193050, lt1103515245, ltm162, ltm99, ltm81, ltm8, ltm1, iI_add, iI_sub, iI_mul, iI_neg, iI_divn, iI_lt_t, iI_lt_f, iI_le_t, iI_le_f, iI_eq_t, iI_eq_f, iI_lt, iI_le, iI_eq, iI_idx, iI_inb, gI_sI, gL_sL, gZ_sZ, gI_sL, gI_sZ, gL_sI, gL_sZ, gZ_sI, gZ_sL, Nat.reduceEqDiff, false_and, and_false, and_true, true_and, and_self] at hc) <;> (try (exfalso; omega)))
        | (with_reducible refine ok_some ?_)
        | (with_reducible refine ok_xr ?_)
        | (with_reducible refine ok_xl ?_)
        | (unfold F_T_bring)
        | (unfold F_T_mustBeBelow)
        | (unfold F_T_mustBeOn)
        | (unfold F_M_bring)
        | (unfold F_M_noSlot)
        | (unfold F_M_in)
        | (unfold F_M_throwsIf))
      all_goals first | exact ⟨ans_l (by decide) rfl, (h.thr thr_ss).inv⟩ | exact ⟨ans_r rfl, (h.thr thr_s).inv⟩ | (refine ⟨ans_r ?_, (h.thr thr_s).inv⟩; simp (disch := omega) only [↓lt_def, ↓reduceIte, ckB_true, bnd_e, Int.reduceAdd, Int.reduceSub, Int.reduceMul, Int.reduceNeg, Int.reduceToNat, Bool.false_eq_true, eq_self, not_false_eq_true, not_true_eq_false, Int.toNat_natCast, lt0, lt1, lt2, lt3, lt4, lt5, lt6, lt7, lt8, lt9, lt10, lt11, lt12, lt13, lt14, lt15, lt16, lt17, lt18, lt19, lt20, lt21, lt22, lt23, lt24, lt25, lt26, lt27, lt28, lt29, lt30, lt31, lt32, lt40, lt41, lt43, lt48, lt55, lt57, lt59, lt60, lt62, lt63, lt64, lt70, lt72, lt81, lt97, lt99, lt100, lt122, lt162, lt180, lt235, lt255, lt298, lt299, lt325, lt335, lt400, lt837, lt999, lt1000, lt1001, lt1002, lt1003, lt1004, lt1005, lt1006, lt1007, lt1008, lt1100, lt1101, lt1102, lt1103, lt1104, lt1105, lt1135, lt1136, lt1172, lt2000, lt3278, lt3575, lt10000, lt12345, lt21450, lt32767, lt193050, lt1103515245, ltm162, ltm99, ltm81, ltm8, ltm1, iI_add, iI_sub, iI_mul, iI_neg, iI_divn, iI_lt_t, iI_lt_f, iI_le_t, iI_le_f, iI_eq_t, iI_eq_f, iI_lt, iI_le, iI_eq, iI_idx, iI_inb, gI_sI, gL_sL, gZ_sZ, gI_sL, gI_sZ, gL_sI, gL_sZ, gZ_sI, gZ_sL, Nat.reduceEqDiff, false_and, and_false, and_true, true_and, and_self, h]; done)
    · rw [decide_eq_false on] at x1 x2
      repeat' (first
        | (with_reducible refine ok_ck ?_ ?_; focus (simp (disch := omega) only [↓lt_def, ↓reduceIte, ckB_true, bnd_e, Int.reduceAdd, Int.reduceSub, Int.reduceMul, Int.reduceNeg, Int.reduceToNat, Bool.false_eq_true, eq_self, not_false_eq_true, not_true_eq_false, Int.toNat_natCast, lt0, lt1, lt2, lt3, lt4, lt5, lt6, lt7, lt8, lt9, lt10, lt11, lt12, lt13, lt14, lt15, lt16, lt17, lt18, lt19, lt20, lt21, lt22, lt23, lt24, lt25, lt26, lt27, lt28, lt29, lt30, lt31, lt32, lt40, lt41, lt43, lt48, lt55, lt57, lt59, lt60, lt62, lt63, lt64, lt70, lt72, lt81, lt97, lt99, lt100, lt122, lt162, lt180, lt235, lt255, lt298, lt299, lt325, lt335, lt400, lt837, lt999, lt1000, lt1001, lt1002, lt1003, lt1004, lt1005, lt1006, lt1007, lt1008, lt1100, lt1101, lt1102, lt1103, lt1104, lt1105, lt1135, lt1136, lt1172, lt2000, lt3278, lt3575, lt10000, lt12345, lt21450, lt32767, lt193050, lt1103515245, ltm162, ltm99, ltm81, ltm8, ltm1, iI_add, iI_sub, iI_mul, iI_neg, iI_divn, iI_lt_t, iI_lt_f, iI_le_t, iI_le_f, iI_eq_t, iI_eq_f, iI_lt, iI_le, iI_eq, iI_idx, iI_inb, gI_sI, gL_sL, gZ_sZ, gI_sL, gI_sZ, gL_sI, gL_sZ, gZ_sI, gZ_sL, Nat.reduceEqDiff, false_and, and_false, and_true, true_and, and_self]; done))
        | (with_reducible refine ok_bnd_e (x1) ?_)
        | (with_reducible refine ok_bnd_e (x2) ?_)
        | (with_reducible refine ok_bnd ?_)
        | (with_reducible refine ok_bndX ?_)
        | (with_reducible refine ok_lt ?_)
        | (with_reducible refine ok_t ?_ ?_; focus (simp (disch := omega) only [↓lt_def, ↓reduceIte, ckB_true, bnd_e, Int.reduceAdd, Int.reduceSub, Int.reduceMul, Int.reduceNeg, Int.reduceToNat, Bool.false_eq_true, eq_self, not_false_eq_true, not_true_eq_false, Int.toNat_natCast, lt0, lt1, lt2, lt3, lt4, lt5, lt6, lt7, lt8, lt9, lt10, lt11, lt12, lt13, lt14, lt15, lt16, lt17, lt18, lt19, lt20, lt21, lt22, lt23, lt24, lt25, lt26, lt27, lt28, lt29, lt30, lt31, lt32, lt40, lt41, lt43, lt48, lt55, lt57, lt59, lt60, lt62, lt63, lt64, lt70, lt72, lt81, lt97, lt99, lt100, lt122, lt162, lt180, lt235, lt255, lt298, lt299, lt325, lt335, lt400, lt837, lt999, lt1000, lt1001, lt1002, lt1003, lt1004, lt1005, lt1006, lt1007, lt1008, lt1100, lt1101, lt1102, lt1103, lt1104, lt1105, lt1135, lt1136, lt1172, lt2000, lt3278, lt3575, lt10000, lt12345, lt21450, lt32767, lt193050, lt1103515245, ltm162, ltm99, ltm81, ltm8, ltm1, iI_add, iI_sub, iI_mul, iI_neg, iI_divn, iI_lt_t, iI_lt_f, iI_le_t, iI_le_f, iI_eq_t, iI_eq_f, iI_lt, iI_le, iI_eq, iI_idx, iI_inb, gI_sI, gL_sL, gZ_sZ, gI_sL, gI_sZ, gL_sI, gL_sZ, gZ_sI, gZ_sL, Nat.reduceEqDiff, false_and, and_false, and_true, true_and, and_self]; done))
        | (with_reducible refine ok_f ?_ ?_; focus (simp (disch := omega) only [↓lt_def, ↓reduceIte, ckB_true, bnd_e, Int.reduceAdd, Int.reduceSub, Int.reduceMul, Int.reduceNeg, Int.reduceToNat, Bool.false_eq_true, eq_self, not_false_eq_true, not_true_eq_false, Int.toNat_natCast, lt0, lt1, lt2, lt3, lt4, lt5, lt6, lt7, lt8, lt9, lt10, lt11, lt12, lt13, lt14, lt15, lt16, lt17, lt18, lt19, lt20, lt21, lt22, lt23, lt24, lt25, lt26, lt27, lt28, lt29, lt30, lt31, lt32, lt40, lt41, lt43, lt48, lt55, lt57, lt59, lt60, lt62, lt63, lt64, lt70, lt72, lt81, lt97, lt99, lt100, lt122, lt162, lt180, lt235, lt255, lt298, lt299, lt325, lt335, lt400, lt837, lt999, lt1000, lt1001, lt1002, lt1003, lt1004, lt1005, lt1006, lt1007, lt1008, lt1100, lt1101, lt1102, lt1103, lt1104, lt1105, lt1135, lt1136, lt1172, lt2000, lt3278, lt3575, lt10000, lt12345, lt21450, lt32767, lt193050, lt1103515245, ltm162, ltm99, ltm81, ltm8, ltm1, iI_add, iI_sub, iI_mul, iI_neg, iI_divn, iI_lt_t, iI_lt_f, iI_le_t, iI_le_f, iI_eq_t, iI_eq_f, iI_lt, iI_le, iI_eq, iI_idx, iI_inb, gI_sI, gL_sL, gZ_sZ, gI_sL, gI_sZ, gL_sI, gL_sZ, gZ_sI, gZ_sL, Nat.reduceEqDiff, false_and, and_false, and_true, true_and, and_self]; done))
        | ((with_reducible refine ok_ite (fun hc => ?_) (fun hc => ?_)) <;> (try simp (disch := omega) only [↓lt_def, ↓reduceIte, ckB_true, bnd_e, Int.reduceAdd, Int.reduceSub, Int.reduceMul, Int.reduceNeg, Int.reduceToNat, Bool.false_eq_true, eq_self, not_false_eq_true, not_true_eq_false, Int.toNat_natCast, lt0, lt1, lt2, lt3, lt4, lt5, lt6, lt7, lt8, lt9, lt10, lt11, lt12, lt13, lt14, lt15, lt16, lt17, lt18, lt19, lt20, lt21, lt22, lt23, lt24, lt25, lt26, lt27, lt28, lt29, lt30, lt31, lt32, lt40, lt41, lt43, lt48, lt55, lt57, lt59, lt60, lt62, lt63, lt64, lt70, lt72, lt81, lt97, lt99, lt100, lt122, lt162, lt180, lt235, lt255, lt298, lt299, lt325, lt335, lt400, lt837, lt999, lt1000, lt1001, lt1002, lt1003, lt1004, lt1005, lt1006, lt1007, lt1008, lt1100, lt1101, lt1102, lt1103, lt1104, lt1105, lt1135, lt1136, lt1172, lt2000, lt3278, lt3575, lt10000, lt12345, lt21450, lt32767, lt193050, lt1103515245, ltm162, ltm99, ltm81, ltm8, ltm1, iI_add, iI_sub, iI_mul, iI_neg, iI_divn, iI_lt_t, iI_lt_f, iI_le_t, iI_le_f, iI_eq_t, iI_eq_f, iI_lt, iI_le, iI_eq, iI_idx, iI_inb, gI_sI, gL_sL, gZ_sZ, gI_sL, gI_sZ, gL_sI, gL_sZ, gZ_sI, gZ_sL, Nat.reduceEqDiff, false_and, and_false, and_true, true_and, and_self] at hc) <;> (try (exfalso; omega)))
        | (with_reducible refine ok_some ?_)
        | (with_reducible refine ok_xr ?_)
        | (with_reducible refine ok_xl ?_)
        | (unfold F_T_bring)
        | (unfold F_T_mustBeBelow)
        | (unfold F_T_mustBeOn)
        | (unfold F_M_bring)
        | (unfold F_M_noSlot)
        | (unfold F_M_in)
        | (unfold F_M_throwsIf))
      all_goals first | exact ⟨ans_l (by decide) rfl, (h.thr thr_ss).inv⟩ | exact ⟨ans_r rfl, (h.thr thr_s).inv⟩ | (refine ⟨ans_r ?_, (h.thr thr_s).inv⟩; simp (disch := omega) only [↓lt_def, ↓reduceIte, ckB_true, bnd_e, Int.reduceAdd, Int.reduceSub, Int.reduceMul, Int.reduceNeg, Int.reduceToNat, Bool.false_eq_true, eq_self, not_false_eq_true, not_true_eq_false, Int.toNat_natCast, lt0, lt1, lt2, lt3, lt4, lt5, lt6, lt7, lt8, lt9, lt10, lt11, lt12, lt13, lt14, lt15, lt16, lt17, lt18, lt19, lt20, lt21, lt22, lt23, lt24, lt25, lt26, lt27, lt28, lt29, lt30, lt31, lt32, lt40, lt41, lt43, lt48, lt55, lt57, lt59, lt60, lt62, lt63, lt64, lt70, lt72, lt81, lt97, lt99, lt100, lt122, lt162, lt180, lt235, lt255, lt298, lt299, lt325, lt335, lt400, lt837, lt999, lt1000, lt1001, lt1002, lt1003, lt1004, lt1005, lt1006, lt1007, lt1008, lt1100, lt1101, lt1102, lt1103, lt1104, lt1105, lt1135, lt1136, lt1172, lt2000, lt3278, lt3575, lt10000, lt12345, lt21450, lt32767, lt193050, lt1103515245, ltm162, ltm99, ltm81, ltm8, ltm1, iI_add, iI_sub, iI_mul, iI_neg, iI_divn, iI_lt_t, iI_lt_f, iI_le_t, iI_le_f, iI_eq_t, iI_eq_f, iI_lt, iI_le, iI_eq, iI_idx, iI_inb, gI_sI, gL_sL, gZ_sZ, gI_sL, gI_sZ, gL_sI, gL_sZ, gZ_sI, gZ_sL, Nat.reduceEqDiff, false_and, and_false, and_true, true_and, and_self, h]; done)
end ACTSB
