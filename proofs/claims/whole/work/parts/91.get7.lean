section GET7
def tabV (w : Nat → Int32) (z lv s : Int) (a : Bool) : Int32 := if rainB w z = true then 0 else w (23 + 2 * (4 * lv + s) + (if a = true then 1 else 0)).toNat
theorem Ttab_step {m : Mem} {w : Nat → Int32} (hw : w = gI m 79) (hr : gI m 3 3 = gI m 79 8) (hs : SlotRep m 6 7 79) {z lv s : Int} (a : Bool) (z0 : 0 ≤ z) (z9 : z < 9) (l0 : 0 ≤ lv) (l4 : lv < 4) (s0 : 0 ≤ s) (s4 : s < 4) (nf : Nat) (y : Int32) : F_T_table_L42 (iI z) a (iI lv) (nf + 1) y (iI s) m = F_T_table_L42 (iI z) a (iI lv) nf (y + tabV w z lv s a) (iI (s + 1)) m := by
  rw [F_T_table_L42, if_neg (by simp (disch := omega) only [↓lt_def, ↓reduceIte, ckB_true, bnd_e, Int.reduceAdd, Int.reduceSub, Int.reduceMul, Int.reduceNeg, Int.reduceToNat, Bool.false_eq_true, eq_self, not_false_eq_true, not_true_eq_false, Int.toNat_natCast, lt0, lt1, lt2, lt3, lt4, lt5, lt6, lt7, lt8, lt9, lt10, lt11, lt12, lt13, lt14, lt15, lt16, lt17, lt18, lt19, lt20, lt21, lt22, lt23, lt24, lt25, lt26, lt27, lt28, lt29, lt30, lt31, lt32, lt40, lt41, lt43, lt48, lt55, lt57, lt59, lt60, lt62, lt63, lt64, lt70, lt72, lt81, lt97, lt99, lt100, lt122, lt162, lt180, lt235, lt255, lt298, lt299, lt325, lt335, lt400, lt837, lt999, lt1000, lt1001, lt1002, lt1003, lt1004, lt1005, lt1006, lt1007, lt1008, lt1100, lt1101, lt1102, lt1103, lt1104, lt1105, lt1135, lt1136, lt1172, lt2000, lt3278, lt3575, lt10000, lt12345, lt21450, lt32767, lt193050, lt1103515245, ltm162, ltm99, ltm81, ltm8, ltm1, iI_add, iI_sub, iI_mul, iI_neg, iI_divn, iI_lt_t, iI_lt_f, iI_le_t, iI_le_f, iI_eq_t, iI_eq_f, iI_lt, iI_le, iI_eq, iI_idx, iI_inb, gI_sI, gL_sL, gZ_sZ, gI_sL, gI_sZ, gL_sI, gL_sZ, gZ_sI, gZ_sL]), lt_def]
  unfold tabV
  cases a
  · rw [if_neg (by decide), bnd_some (runsIn_eq hw hr hs z0 z9 l0 l4 s0 s4)]
    dsimp only
    rw [lt_def, lt_def, lt1, iI_add, if_neg (show ¬ false = true by decide), show (23 + 2 * (4 * lv + s) + 0 : Int) = 23 + 2 * (4 * lv + s) by omega]
    by_cases h : rainB w z = true
    · rw [if_pos h, if_pos h]; rfl
    · rw [if_neg h, if_neg h, iI_of]
  · rw [if_pos rfl, bnd_some (outsIn_eq hw hr hs z0 z9 l0 l4 s0 s4)]
    dsimp only
    rw [lt_def, lt_def, lt1, iI_add, if_pos rfl, show (23 + 2 * (4 * lv + s) + 1 : Int) = 24 + 2 * (4 * lv + s) by omega]
    by_cases h : rainB w z = true
    · rw [if_pos h, if_pos h]; rfl
    · rw [if_neg h, if_neg h, iI_of]
theorem Mtab_step {m : Mem} {w : Nat → Int32} (hw : w = gI m 79) {z lv s : Int} (a : Bool) (l0 : 0 ≤ lv) (l4 : lv < 4) (s0 : 0 ≤ s) (s4 : s < 4) (hn : rainB w z = false) (nf : Nat) (y : Int32) : F_M_table_L57 (iI z) a (iI lv) (nf + 1) y (iI s) m = F_M_table_L57 (iI z) a (iI lv) nf (y + tabV w z lv s a) (iI (s + 1)) m := by
  rw [F_M_table_L57, if_neg (by simp (disch := omega) only [↓lt_def, ↓reduceIte, ckB_true, bnd_e, Int.reduceAdd, Int.reduceSub, Int.reduceMul, Int.reduceNeg, Int.reduceToNat, Bool.false_eq_true, eq_self, not_false_eq_true, not_true_eq_false, Int.toNat_natCast, lt0, lt1, lt2, lt3, lt4, lt5, lt6, lt7, lt8, lt9, lt10, lt11, lt12, lt13, lt14, lt15, lt16, lt17, lt18, lt19, lt20, lt21, lt22, lt23, lt24, lt25, lt26, lt27, lt28, lt29, lt30, lt31, lt32, lt40, lt41, lt43, lt48, lt55, lt57, lt59, lt60, lt62, lt63, lt64, lt70, lt72, lt81, lt97, lt99, lt100, lt122, lt162, lt180, lt235, lt255, lt298, lt299, lt325, lt335, lt400, lt837, lt999, lt1000, lt1001, lt1002, lt1003, lt1004, lt1005, lt1006, lt1007, lt1008, lt1100, lt1101, lt1102, lt1103, lt1104, lt1105, lt1135, lt1136, lt1172, lt2000, lt3278, lt3575, lt10000, lt12345, lt21450, lt32767, lt193050, lt1103515245, ltm162, ltm99, ltm81, ltm8, ltm1, iI_add, iI_sub, iI_mul, iI_neg, iI_divn, iI_lt_t, iI_lt_f, iI_le_t, iI_le_f, iI_eq_t, iI_eq_f, iI_lt, iI_le, iI_eq, iI_idx, iI_inb, gI_sI, gL_sL, gZ_sZ, gI_sL, gI_sZ, gL_sI, gL_sZ, gZ_sI, gZ_sL]), bnd_some Mrain_eq, ← hw, if_neg (by rw [hn]; decide), lt_def]
  unfold tabV
  rw [if_neg (show ¬ rainB w z = true by rw [hn]; decide)]
  cases a
  · rw [if_neg (by decide)]
    dsimp only
    rw [b2i_f, bnd_some (ofSlot_eq l0 l4 s0 s4 (by omega) (by omega)), lt_def, lt_def, lt1, iI_add, ← hw]
    rfl
  · rw [if_pos rfl]
    dsimp only
    rw [b2i_t, bnd_some (ofSlot_eq l0 l4 s0 s4 (by omega) (by omega)), lt_def, lt_def, lt1, iI_add, ← hw]
    rfl
theorem table_op {B : Nat} {law : Option (List (Int × List Int))} {n mg wd tx bc : Int} {t : Mt} {m : Mem} (h : IV B law n mg wd tx bc t m) (a b c : Int32) (d : Bool) : Both B cdI (F_T_table a b c d) (F_M_table a b c d) m := by
  obtain ⟨z, rfl, z1, z2⟩ := iI_ex a
  obtain ⟨y, rfl, y1, y2⟩ := iI_ex b
  obtain ⟨x, rfl, x1, x2⟩ := iI_ex c
  obtain ⟨c0, c1, c2, c3, c4, c5, c6, c7, c8, c9, clg⟩ := h.cm
  obtain ⟨w9, w10, w11, w12, w13, w14, w15, w16, w17, w18, wlg⟩ := h.wm
  simp only [Nat.zero_add] at w9 w10 w11 w12 w13 w14 w15 w16 w17 w18 wlg
  have k_fi0 := h.mo.fi0
  have k_fi1 := h.mo.fi1
  have k_in0 := h.mo.in0
  have k_in3 := h.mo.in3
  have k_ou0 := h.mo.ou0
  have k_ou1 := h.mo.ou1
  have k_pl0 := h.mo.pl0
  have k_pl1 := h.mo.pl1
  have k_wi0 := h.mo.wi0
  have k_wi2 := h.mo.wi2
  have k_a0 := h.mo.a0
  have k_a1 := h.mo.a1
  have k_b0 := h.mo.b0
  have k_b1 := h.mo.b1
  have k_fo := h.mo.fo
  have k_no := h.mo.no
  have k_on := h.mo.on
  have k_pn := h.mo.pn
  have k_fre := h.mo.fre
  have k_n1 := h.gr.n1
  have k_n9 := h.gr.n9
  have k_cn := h.gr.cn
  have k_wn := h.gr.wn
  have k_cmg := h.gr.cmg
  have k_wmg := h.gr.wmg
  have k_mg0 := h.gr.mg0
  have k_mg9 := h.gr.mg9
  unfold Both
  by_cases hr : (0 ≤ z ∧ z < n) ∧ (0 ≤ y ∧ y < 4) ∧ 0 ≤ x ∧ x < 2
  · obtain ⟨m1, e1, i1, f1⟩ := h.lev (s := z) (i := y) (b := x) (by omega) (by omega) (by omega) (by omega) (by omega) (by omega) rfl
    have i1' := i1.thr (thr_s (v := 0))
    obtain ⟨m2, e2, i2, f2⟩ := i1'.Mlev (s := z) (i := y) (b := x) (by omega) (by omega) (by omega) (by omega) (w := gI m 79) ((Fr_row (thr_s (m := m1) (v := 0)) rfl rfl).trans (Fr_row f1 rfl rfl)).symm
    have k1 : gI m1 79 0 = iI n := i1.gr.wn
    have hlv : 0 ≤ levZ (gI m 79) law z y x ∧ levZ (gI m 79) law z y x ≤ 3 := levZ_rng h.gr.la.okl
    generalize hlvv : levZ (gI m 79) law z y x = lv at *
    have hw1 : gI m 79 = gI m1 79 := (Fr_row f1 rfl rfl).symm
    have hw2 : gI m 79 = gI m2 79 := ((Fr_row f2 rfl rfl).trans ((Fr_row (thr_s (m := m1) (v := 0)) rfl rfl).trans (Fr_row f1 rfl rfl))).symm
    have T := fun s s0 s4 nf y => Ttab_step hw1 i1.gr.ra i1.gr.sl (z := z) (lv := lv) (s := s) d (by omega) (by omega) (by omega) (by omega) s0 s4 nf y
    have hT : ∃ S, F_T_table_L42 (iI z) d (iI lv) 1000000 0 0 m1 = some (.inr S, m1) ∧ S = 0 + tabV (gI m 79) z lv 0 d + tabV (gI m 79) z lv 1 d + tabV (gI m 79) z lv 2 d + tabV (gI m 79) z lv 3 d := by
      refine ⟨_, ?_, rfl⟩
      have e0 : F_T_table_L42 (iI z) d (iI lv) 1000000 0 0 m1 = F_T_table_L42 (iI z) d (iI lv) (999995 + 1 + 1 + 1 + 1 + 1) 0 (iI 0) m1 := rfl
      rw [e0, T 0 (by omega) (by omega), T (0 + 1) (by omega) (by omega), T (0 + 1 + 1) (by omega) (by omega), T (0 + 1 + 1 + 1) (by omega) (by omega), F_T_table_L42, if_pos (by decide)]
      rfl
    obtain ⟨S, hS1, hS2⟩ := hT
    have hM : F_M_table_L57 (iI z) d (iI lv) 1000000 0 0 m2 = some (S, m2) := by
      have e0 : F_M_table_L57 (iI z) d (iI lv) 1000000 0 0 m2 = F_M_table_L57 (iI z) d (iI lv) (999995 + 1 + 1 + 1 + 1 + 1) 0 (iI 0) m2 := rfl
      rw [e0]
      by_cases hrn : rainB (gI m 79) z = true
      · rw [F_M_table_L57, if_neg (by decide), bnd_some Mrain_eq, ← hw2, if_pos hrn, hS2]
        unfold tabV
        rw [if_pos hrn, if_pos hrn, if_pos hrn, if_pos hrn]
        rfl
      · have hrf : rainB (gI m 79) z = false := by simpa using hrn
        have M := fun s s0 s4 nf y => Mtab_step hw2 (z := z) (lv := lv) (s := s) d (by omega) (by omega) s0 s4 hrf nf y
        rw [M 0 (by omega) (by omega), M (0 + 1) (by omega) (by omega), M (0 + 1 + 1) (by omega) (by omega), M (0 + 1 + 1 + 1) (by omega) (by omega), F_M_table_L57, if_pos (by decide), hS2]
        rfl
    repeat' (first
      | (with_reducible refine ok_ck ?_ ?_; focus (simp (disch := omega) only [↓lt_def, ↓reduceIte, ckB_true, bnd_e, Int.reduceAdd, Int.reduceSub, Int.reduceMul, Int.reduceNeg, Int.reduceToNat, Bool.false_eq_true, eq_self, not_false_eq_true, not_true_eq_false, Int.toNat_natCast, lt0, lt1, lt2, lt3, lt4, lt5, lt6, lt7, lt8, lt9, lt10, lt11, lt12, lt13, lt14, lt15, lt16, lt17, lt18, lt19, lt20, lt21, lt22, lt23, lt24, lt25, lt26, lt27, lt28, lt29, lt30, lt31, lt32, lt40, lt41, lt43, lt48, lt55, lt57, lt59, lt60, lt62, lt63, lt64, lt70, lt72, lt81, lt97, lt99, lt100, lt122, lt162, lt180, lt235, lt255, lt298, lt299, lt325, lt335, lt400, lt837, lt999, lt1000, lt1001, lt1002, lt1003, lt1004, lt1005, lt1006, lt1007, lt1008, lt1100, lt1101, lt1102, lt1103, lt1104, lt1105, lt1135, lt1136, lt1172, lt2000, lt3278, lt3575, lt10000, lt12345, lt21450, lt32767, lt193050, lt1103515245, ltm162, ltm99, ltm81, ltm8, ltm1, iI_add, iI_sub, iI_mul, iI_neg, iI_divn, iI_lt_t, iI_lt_f, iI_le_t, iI_le_f, iI_eq_t, iI_eq_f, iI_lt, iI_le, iI_eq, iI_idx, iI_inb, gI_sI, gL_sL, gZ_sZ, gI_sL, gI_sZ, gL_sI, gL_sZ, gZ_sI, gZ_sL, Nat.reduceEqDiff, false_and, and_false, and_true, true_and, and_self, k_cn, k_wn, k1]; done))
      | (with_reducible refine ok_bnd_e (e1) ?_)
      | (with_reducible refine ok_bnd_e (e2) ?_)
      | (with_reducible refine ok_e hS1 ?_)
      | (with_reducible refine ok_e hM ?_)
      | (with_reducible refine ok_bnd ?_)
      | (with_reducible refine ok_bndX ?_)
      | (with_reducible refine ok_lt ?_)
      | (with_reducible refine ok_t ?_ ?_; focus (simp (disch := omega) only [↓lt_def, ↓reduceIte, ckB_true, bnd_e, Int.reduceAdd, Int.reduceSub, Int.reduceMul, Int.reduceNeg, Int.reduceToNat, Bool.false_eq_true, eq_self, not_false_eq_true, not_true_eq_false, Int.toNat_natCast, lt0, lt1, lt2, lt3, lt4, lt5, lt6, lt7, lt8, lt9, lt10, lt11, lt12, lt13, lt14, lt15, lt16, lt17, lt18, lt19, lt20, lt21, lt22, lt23, lt24, lt25, lt26, lt27, lt28, lt29, lt30, lt31, lt32, lt40, lt41, lt43, lt48, lt55, lt57, lt59, lt60, lt62, lt63, lt64, lt70, lt72, lt81, lt97, lt99, lt100, lt122, lt162, lt180, lt235, lt255, lt298, lt299, lt325, lt335, lt400, lt837, lt999, lt1000, lt1001, lt1002, lt1003, lt1004, lt1005, lt1006, lt1007, lt1008, lt1100, lt1101, lt1102, lt1103, lt1104, lt1105, lt1135, lt1136, lt1172, lt2000, lt3278, lt3575, lt10000, lt12345, lt21450, lt32767, lt193050, lt1103515245, ltm162, ltm99, ltm81, ltm8, ltm1, iI_add, iI_sub, iI_mul, iI_neg, iI_divn, iI_lt_t, iI_lt_f, iI_le_t, iI_le_f, iI_eq_t, iI_eq_f, iI_lt, iI_le, iI_eq, iI_idx, iI_inb, gI_sI, gL_sL, gZ_sZ, gI_sL, gI_sZ, gL_sI, gL_sZ, gZ_sI, gZ_sL, Nat.reduceEqDiff, false_and, and_false, and_true, true_and, and_self, k_cn, k_wn, k1]; done))
      | (with_reducible refine ok_f ?_ ?_; focus (simp (disch := omega) only [↓lt_def, ↓reduceIte, ckB_true, bnd_e, Int.reduceAdd, Int.reduceSub, Int.reduceMul, Int.reduceNeg, Int.reduceToNat, Bool.false_eq_true, eq_self, not_false_eq_true, not_true_eq_false, Int.toNat_natCast, lt0, lt1, lt2, lt3, lt4, lt5, lt6, lt7, lt8, lt9, lt10, lt11, lt12, lt13, lt14, lt15, lt16, lt17, lt18, lt19, lt20, lt21, lt22, lt23, lt24, lt25, lt26, lt27, lt28, lt29, lt30, lt31, lt32, lt40, lt41, lt43, lt48, lt55, lt57, lt59, lt60, lt62, lt63, lt64, lt70, lt72, lt81, lt97, lt99, lt100, lt122, lt162, lt180, lt235, lt255, lt298, lt299, lt325, lt335, lt400, lt837, lt999, lt1000, lt1001, lt1002, lt1003, lt1004, lt1005, lt1006, lt1007, lt1008, lt1100, lt1101, lt1102, lt1103, lt1104, lt1105, lt1135, lt1136, lt1172, lt2000, lt3278, lt3575, lt10000, lt12345, lt21450, lt32767, lt193050, lt1103515245, ltm162, ltm99, ltm81, ltm8, ltm1, iI_add, iI_sub, iI_mul, iI_neg, iI_divn, iI_lt_t, iI_lt_f, iI_le_t, iI_le_f, iI_eq_t, iI_eq_f, iI_lt, iI_le, iI_eq, iI_idx, iI_inb, gI_sI, gL_sL, gZ_sZ, gI_sL, gI_sZ, gL_sI, gL_sZ, gZ_sI, gZ_sL, Nat.reduceEqDiff, false_and, and_false, and_true, true_and, and_self, k_cn, k_wn, k1]; done))
      | ((with_reducible refine ok_ite (fun hc => ?_) (fun hc => ?_)) <;> (try simp (disch := omega) only [↓lt_def, ↓reduceIte, ckB_true, bnd_e, Int.reduceAdd, Int.reduceSub, Int.reduceMul, Int.reduceNeg, Int.reduceToNat, Bool.false_eq_true, eq_self, not_false_eq_true, not_true_eq_false, Int.toNat_natCast, lt0, lt1, lt2, lt3, lt4, lt5, lt6, lt7, lt8, lt9, lt10, lt11, lt12, lt13, lt14, lt15, lt16, lt17, lt18, lt19, lt20, lt21, lt22, lt23, lt24, lt25, lt26, lt27, lt28, lt29, lt30, lt31, lt32, lt40, lt41, lt43, lt48, lt55, lt57, lt59, lt60, lt62, lt63, lt64, lt70, lt72, lt81, lt97, lt99, lt100, lt122, lt162, lt180, lt235, lt255, lt298, lt299, lt325, lt335, lt400, lt837, lt999, lt1000, lt1001, lt1002, lt1003, lt1004, lt1005, lt1006, lt1007, lt1008, lt1100, lt1101, lt1102, lt1103, lt1104, lt1105, lt1135, lt1136, lt1172, lt2000, lt3278, lt3575, lt10000, lt12345, lt21450, lt32767, lt193050, lt1103515245, ltm162, ltm99, ltm81, ltm8, ltm1, iI_add, iI_sub, iI_mul, iI_neg, iI_divn, iI_lt_t, iI_lt_f, iI_le_t, iI_le_f, iI_eq_t, iI_eq_f, iI_lt, iI_le, iI_eq, iI_idx, iI_inb, gI_sI, gL_sL, gZ_sZ, gI_sL, gI_sZ, gL_sI, gL_sZ, gZ_sI, gZ_sL, Nat.reduceEqDiff, false_and, and_false, and_true, true_and, and_self, k_cn, k_wn, k1] at hc) <;> (try (exfalso; omega)))
      | (with_reducible refine ok_some ?_)
      | (with_reducible refine ok_xr ?_)
      | (with_reducible refine ok_xl ?_)
      | (unfold F_T_table)
      | (unfold F_T_mustBeBelow)
      | (unfold F_M_table)
      | (unfold F_M_noSession)
      | (unfold F_M_noInnings)
      | (unfold F_M_noSide)
      | (unfold F_M_size)
      | (unfold F_M_in)
      | (unfold F_M_throwsIf))
    refine ⟨⟨?_, rfl⟩, i2.inv⟩
    rw [f2.gI (by simp) (by simp)]
    rfl
  · skip
    repeat' (first
      | (with_reducible refine ok_ck ?_ ?_; focus (simp (disch := omega) only [↓lt_def, ↓reduceIte, ckB_true, bnd_e, Int.reduceAdd, Int.reduceSub, Int.reduceMul, Int.reduceNeg, Int.reduceToNat, Bool.false_eq_true, eq_self, not_false_eq_true, not_true_eq_false, Int.toNat_natCast, lt0, lt1, lt2, lt3, lt4, lt5, lt6, lt7, lt8, lt9, lt10, lt11, lt12, lt13, lt14, lt15, lt16, lt17, lt18, lt19, lt20, lt21, lt22, lt23, lt24, lt25, lt26, lt27, lt28, lt29, lt30, lt31, lt32, lt40, lt41, lt43, lt48, lt55, lt57, lt59, lt60, lt62, lt63, lt64, lt70, lt72, lt81, lt97, lt99, lt100, lt122, lt162, lt180, lt235, lt255, lt298, lt299, lt325, lt335, lt400, lt837, lt999, lt1000, lt1001, lt1002, lt1003, lt1004, lt1005, lt1006, lt1007, lt1008, lt1100, lt1101, lt1102, lt1103, lt1104, lt1105, lt1135, lt1136, lt1172, lt2000, lt3278, lt3575, lt10000, lt12345, lt21450, lt32767, lt193050, lt1103515245, ltm162, ltm99, ltm81, ltm8, ltm1, iI_add, iI_sub, iI_mul, iI_neg, iI_divn, iI_lt_t, iI_lt_f, iI_le_t, iI_le_f, iI_eq_t, iI_eq_f, iI_lt, iI_le, iI_eq, iI_idx, iI_inb, gI_sI, gL_sL, gZ_sZ, gI_sL, gI_sZ, gL_sI, gL_sZ, gZ_sI, gZ_sL, Nat.reduceEqDiff, false_and, and_false, and_true, true_and, and_self, k_cn, k_wn]; done))
      | (with_reducible refine ok_bnd ?_)
      | (with_reducible refine ok_bndX ?_)
      | (with_reducible refine ok_lt ?_)
      | (with_reducible refine ok_t ?_ ?_; focus (simp (disch := omega) only [↓lt_def, ↓reduceIte, ckB_true, bnd_e, Int.reduceAdd, Int.reduceSub, Int.reduceMul, Int.reduceNeg, Int.reduceToNat, Bool.false_eq_true, eq_self, not_false_eq_true, not_true_eq_false, Int.toNat_natCast, lt0, lt1, lt2, lt3, lt4, lt5, lt6, lt7, lt8, lt9, lt10, lt11, lt12, lt13, lt14, lt15, lt16, lt17, lt18, lt19, lt20, lt21, lt22, lt23, lt24, lt25, lt26, lt27, lt28, lt29, lt30, lt31, lt32, lt40, lt41, lt43, lt48, lt55, lt57, lt59, lt60, lt62, lt63, lt64, lt70, lt72, lt81, lt97, lt99, lt100, lt122, lt162, lt180, lt235, lt255, lt298, lt299, lt325, lt335, lt400, lt837, lt999, lt1000, lt1001, lt1002, lt1003, lt1004, lt1005, lt1006, lt1007, lt1008, lt1100, lt1101, lt1102, lt1103, lt1104, lt1105, lt1135, lt1136, lt1172, lt2000, lt3278, lt3575, lt10000, lt12345, lt21450, lt32767, lt193050, lt1103515245, ltm162, ltm99, ltm81, ltm8, ltm1, iI_add, iI_sub, iI_mul, iI_neg, iI_divn, iI_lt_t, iI_lt_f, iI_le_t, iI_le_f, iI_eq_t, iI_eq_f, iI_lt, iI_le, iI_eq, iI_idx, iI_inb, gI_sI, gL_sL, gZ_sZ, gI_sL, gI_sZ, gL_sI, gL_sZ, gZ_sI, gZ_sL, Nat.reduceEqDiff, false_and, and_false, and_true, true_and, and_self, k_cn, k_wn]; done))
      | (with_reducible refine ok_f ?_ ?_; focus (simp (disch := omega) only [↓lt_def, ↓reduceIte, ckB_true, bnd_e, Int.reduceAdd, Int.reduceSub, Int.reduceMul, Int.reduceNeg, Int.reduceToNat, Bool.false_eq_true, eq_self, not_false_eq_true, not_true_eq_false, Int.toNat_natCast, lt0, lt1, lt2, lt3, lt4, lt5, lt6, lt7, lt8, lt9, lt10, lt11, lt12, lt13, lt14, lt15, lt16, lt17, lt18, lt19, lt20, lt21, lt22, lt23, lt24, lt25, lt26, lt27, lt28, lt29, lt30, lt31, lt32, lt40, lt41, lt43, lt48, lt55, lt57, lt59, lt60, lt62, lt63, lt64, lt70, lt72, lt81, lt97, lt99, lt100, lt122, lt162, lt180, lt235, lt255, lt298, lt299, lt325, lt335, lt400, lt837, lt999, lt1000, lt1001, lt1002, lt1003, lt1004, lt1005, lt1006, lt1007, lt1008, lt1100, lt1101, lt1102, lt1103, lt1104, lt1105, lt1135, lt1136, lt1172, lt2000, lt3278, lt3575, lt10000, lt12345, lt21450, lt32767, lt193050, lt1103515245, ltm162, ltm99, ltm81, ltm8, ltm1, iI_add, iI_sub, iI_mul, iI_neg, iI_divn, iI_lt_t, iI_lt_f, iI_le_t, iI_le_f, iI_eq_t, iI_eq_f, iI_lt, iI_le, iI_eq, iI_idx, iI_inb, gI_sI, gL_sL, gZ_sZ, gI_sL, gI_sZ, gL_sI, gL_sZ, gZ_sI, gZ_sL, Nat.reduceEqDiff, false_and, and_false, and_true, true_and, and_self, k_cn, k_wn]; done))
      | ((with_reducible refine ok_ite (fun hc => ?_) (fun hc => ?_)) <;> (try simp (disch := omega) only [↓lt_def, ↓reduceIte, ckB_true, bnd_e, Int.reduceAdd, Int.reduceSub, Int.reduceMul, Int.reduceNeg, Int.reduceToNat, Bool.false_eq_true, eq_self, not_false_eq_true, not_true_eq_false, Int.toNat_natCast, lt0, lt1, lt2, lt3, lt4, lt5, lt6, lt7, lt8, lt9, lt10, lt11, lt12, lt13, lt14, lt15, lt16, lt17, lt18, lt19, lt20, lt21, lt22, lt23, lt24, lt25, lt26, lt27, lt28, lt29, lt30, lt31, lt32, lt40, lt41, lt43, lt48, lt55, lt57, lt59, lt60, lt62, lt63, lt64, lt70, lt72, lt81, lt97, lt99, lt100, lt122, lt162, lt180, lt235, lt255, lt298, lt299, lt325, lt335, lt400, lt837, lt999, lt1000, lt1001, lt1002, lt1003, lt1004, lt1005, lt1006, lt1007, lt1008, lt1100, lt1101, lt1102, lt1103, lt1104, lt1105, lt1135, lt1136, lt1172, lt2000, lt3278, lt3575, lt10000, lt12345, lt21450, lt32767, lt193050, lt1103515245, ltm162, ltm99, ltm81, ltm8, ltm1, iI_add, iI_sub, iI_mul, iI_neg, iI_divn, iI_lt_t, iI_lt_f, iI_le_t, iI_le_f, iI_eq_t, iI_eq_f, iI_lt, iI_le, iI_eq, iI_idx, iI_inb, gI_sI, gL_sL, gZ_sZ, gI_sL, gI_sZ, gL_sI, gL_sZ, gZ_sI, gZ_sL, Nat.reduceEqDiff, false_and, and_false, and_true, true_and, and_self, k_cn, k_wn] at hc) <;> (try (exfalso; omega)))
      | (with_reducible refine ok_some ?_)
      | (with_reducible refine ok_xr ?_)
      | (with_reducible refine ok_xl ?_)
      | (unfold F_T_table)
      | (unfold F_T_mustBeBelow)
      | (unfold F_M_table)
      | (unfold F_M_noSession)
      | (unfold F_M_noInnings)
      | (unfold F_M_noSide)
      | (unfold F_M_size)
      | (unfold F_M_in)
      | (unfold F_M_throwsIf))
    all_goals exact ⟨ans_l (by decide) rfl, (h.thr thr_ss).inv⟩
/-- the hardest session so far -/
def hb (lev : Int → Int) : Nat → Int
  | 0 => 0
  | s + 1 => if lev (hb lev s) < lev ((s : Int) + 1) then (s : Int) + 1 else hb lev s
theorem hb_rng (lev : Int → Int) : ∀ s : Nat, 0 ≤ hb lev s ∧ hb lev s ≤ s
  | 0 => by simp [hb]
  | s + 1 => by
    have := hb_rng lev s
    simp only [hb]
    split <;> omega
theorem Thard_loop {B : Nat} {law : Option (List (Int × List Int))} {n mg wd tx bc : Int} {t : Mt} {w : Nat → Int32} {y x : Int} (y0 : 0 ≤ y) (y4 : y < 4) (x0 : 0 ≤ x) (x2 : x < 2) : ∀ (d s : Nat) (m : Mem) (nf : Nat), IV B law n mg wd tx bc t m → w = gI m 79 → (s : Int) + 1 + d = n → d < nf → ∃ m', F_T_hardest_L20 (iI y) (iI x) nf (iI (hb (fun s => levZ w law s y x) s)) (iI (levZ w law (hb (fun s => levZ w law s y x) s) y x)) (iI ((s : Int) + 1)) m = some (.inr (iI (hb (fun s => levZ w law s y x) (n - 1).toNat)), m') ∧ IV B law n mg wd tx bc t m' ∧ w = gI m' 79 := by
  intro d
  induction d with
  | zero =>
    intro s m nf h hw hs hnf
    obtain ⟨nf, rfl⟩ : ∃ x, nf = x + 1 := ⟨nf - 1, by omega⟩
    have k9 := h.gr.n9
    refine ⟨m, ?_, h, hw⟩
    rw [F_T_hardest_L20, h.gr.cn, if_pos (by rw [iI_le (by omega) (by omega) (by omega) (by omega)]; omega), show (n - 1).toNat = s by omega]
  | succ d ih =>
    intro s m nf h hw hs hnf
    obtain ⟨nf, rfl⟩ : ∃ x, nf = x + 1 := ⟨nf - 1, by omega⟩
    have k9 := h.gr.n9
    have l1 : 0 ≤ levZ w law ((s : Int) + 1) y x ∧ levZ w law ((s : Int) + 1) y x ≤ 3 := levZ_rng h.gr.la.okl
    have l2 : 0 ≤ levZ w law (hb (fun s => levZ w law s y x) s) y x ∧ levZ w law (hb (fun s => levZ w law s y x) s) y x ≤ 3 := levZ_rng h.gr.la.okl
    obtain ⟨m1, e1, i1, f1⟩ := h.lev (s := (s : Int) + 1) (i := y) (b := x) (by omega) (by omega) y0 y4 x0 x2 hw
    obtain ⟨m', e2, i2, w2⟩ := ih (s + 1) m1 nf i1 (hw.trans (Fr_row f1 rfl rfl).symm) (by omega) (by omega)
    refine ⟨m', ?_, i2, w2⟩
    rw [F_T_hardest_L20, h.gr.cn, if_neg (by rw [iI_le (by omega) (by omega) (by omega) (by omega)]; omega), bnd_some e1, lt_def]
    rw [show ((s + 1 : Nat) : Int) + 1 = (s : Int) + 1 + 1 by omega] at e2
    simp only [hb] at e2
    by_cases hc : levZ w law (hb (fun s => levZ w law s y x) s) y x < levZ w law ((s : Int) + 1) y x
    · rw [if_neg (by rw [iI_le (by omega) (by omega) (by omega) (by omega)]; omega)]
      dsimp only
      rw [lt_def, lt1, iI_add]
      rw [if_pos hc] at e2
      exact e2
    · rw [if_pos (by rw [iI_le (by omega) (by omega) (by omega) (by omega)]; omega)]
      dsimp only
      rw [lt_def, lt1, iI_add]
      rw [if_neg hc] at e2
      exact e2
theorem Mhard_loop {B : Nat} {law : Option (List (Int × List Int))} {n mg wd tx bc : Int} {t : Mt} {w : Nat → Int32} {y x : Int} (x0 : 0 ≤ x) (x2 : x < 2) : ∀ (d s : Nat) (m : Mem) (nf : Nat), IV B law n mg wd tx bc t m → w = gI m 79 → (s : Int) + 1 + d = n → d < nf → ∃ m', F_M_hardest_L39 (iI y) (iI x) nf (iI (hb (fun s => levZ w law s y x) s)) (iI ((s : Int) + 1)) m = some (iI (hb (fun s => levZ w law s y x) (n - 1).toNat), m') ∧ IV B law n mg wd tx bc t m' ∧ gI m' 78 0 = gI m 78 0 := by
  intro d
  induction d with
  | zero =>
    intro s m nf h hw hs hnf
    obtain ⟨nf, rfl⟩ : ∃ x, nf = x + 1 := ⟨nf - 1, by omega⟩
    have k9 := h.gr.n9
    refine ⟨m, ?_, h, rfl⟩
    unfold F_M_hardest_L39 F_M_size
    rw [bnd_e, h.gr.wn, if_pos (by rw [iI_le (by omega) (by omega) (by omega) (by omega)]; omega), show (n - 1).toNat = s by omega]
  | succ d ih =>
    intro s m nf h hw hs hnf
    obtain ⟨nf, rfl⟩ : ∃ x, nf = x + 1 := ⟨nf - 1, by omega⟩
    have k9 := h.gr.n9
    have hr := hb_rng (fun s => levZ w law s y x) s
    have l1 : 0 ≤ levZ w law ((s : Int) + 1) y x ∧ levZ w law ((s : Int) + 1) y x ≤ 3 := levZ_rng h.gr.la.okl
    have l2 : 0 ≤ levZ w law (hb (fun s => levZ w law s y x) s) y x ∧ levZ w law (hb (fun s => levZ w law s y x) s) y x ≤ 3 := levZ_rng h.gr.la.okl
    obtain ⟨m1, e1, i1, f1⟩ := h.Mlev (s := (s : Int) + 1) (i := y) (b := x) (by omega) (by omega) x0 x2 hw
    have hw1 := hw.trans (Fr_row f1 rfl rfl).symm
    obtain ⟨m2, e2, i2, f2⟩ := i1.Mlev (s := hb (fun s => levZ w law s y x) s) (i := y) (b := x) (by omega) (by omega) x0 x2 hw1
    obtain ⟨m', e3, i3, t3⟩ := ih (s + 1) m2 nf i2 (hw1.trans (Fr_row f2 rfl rfl).symm) (by omega) (by omega)
    refine ⟨m', ?_, i3, t3.trans ((f2.gI (by simp) (by simp)).trans (f1.gI (by simp) (by simp)))⟩
    unfold F_M_hardest_L39 F_M_size
    rw [bnd_e, h.gr.wn, if_neg (by rw [iI_le (by omega) (by omega) (by omega) (by omega)]; omega), bnd_some e1, bnd_some e2, lt_def]
    rw [show ((s + 1 : Nat) : Int) + 1 = (s : Int) + 1 + 1 by omega] at e3
    simp only [hb] at e3
    by_cases hc : levZ w law (hb (fun s => levZ w law s y x) s) y x < levZ w law ((s : Int) + 1) y x
    · rw [if_neg (by rw [iI_le (by omega) (by omega) (by omega) (by omega)]; omega)]
      dsimp only
      rw [lt_def, lt1, iI_add]
      rw [if_pos hc] at e3
      exact e3
    · rw [if_pos (by rw [iI_le (by omega) (by omega) (by omega) (by omega)]; omega)]
      dsimp only
      rw [lt_def, lt1, iI_add]
      rw [if_neg hc] at e3
      exact e3
theorem hardest_op {B : Nat} {law : Option (List (Int × List Int))} {n mg wd tx bc : Int} {t : Mt} {m : Mem} (h : IV B law n mg wd tx bc t m) (b c : Int32) : Both B cdI (F_T_hardest b c) (F_M_hardest b c) m := by
  obtain ⟨y, rfl, y1, y2⟩ := iI_ex b
  obtain ⟨x, rfl, x1, x2⟩ := iI_ex c
  obtain ⟨c0, c1, c2, c3, c4, c5, c6, c7, c8, c9, clg⟩ := h.cm
  obtain ⟨w9, w10, w11, w12, w13, w14, w15, w16, w17, w18, wlg⟩ := h.wm
  simp only [Nat.zero_add] at w9 w10 w11 w12 w13 w14 w15 w16 w17 w18 wlg
  have k_fi0 := h.mo.fi0
  have k_fi1 := h.mo.fi1
  have k_in0 := h.mo.in0
  have k_in3 := h.mo.in3
  have k_ou0 := h.mo.ou0
  have k_ou1 := h.mo.ou1
  have k_pl0 := h.mo.pl0
  have k_pl1 := h.mo.pl1
  have k_wi0 := h.mo.wi0
  have k_wi2 := h.mo.wi2
  have k_a0 := h.mo.a0
  have k_a1 := h.mo.a1
  have k_b0 := h.mo.b0
  have k_b1 := h.mo.b1
  have k_fo := h.mo.fo
  have k_no := h.mo.no
  have k_on := h.mo.on
  have k_pn := h.mo.pn
  have k_fre := h.mo.fre
  have k_n1 := h.gr.n1
  have k_n9 := h.gr.n9
  have k_cn := h.gr.cn
  have k_wn := h.gr.wn
  have k_cmg := h.gr.cmg
  have k_wmg := h.gr.wmg
  have k_mg0 := h.gr.mg0
  have k_mg9 := h.gr.mg9
  unfold Both
  by_cases hr : (0 ≤ y ∧ y < 4) ∧ 0 ≤ x ∧ x < 2
  · obtain ⟨m1, e1, i1, f1⟩ := h.lev (s := 0) (i := y) (b := x) (by omega) (by omega) (by omega) (by omega) (by omega) (by omega) rfl
    have l1 : 0 ≤ levZ (gI m 79) law 0 y x ∧ levZ (gI m 79) law 0 y x ≤ 3 := levZ_rng h.gr.la.okl
    obtain ⟨m2, e2, i2, w2⟩ := Thard_loop (y := y) (x := x) hr.1.1 hr.1.2 hr.2.1 hr.2.2 (n - 1).toNat 0 m1 999999 i1 (Fr_row f1 rfl rfl).symm (by omega) (by omega)
    have hT : F_T_hardest_L20 (iI y) (iI x) 1000000 0 (-1) 0 m = some (.inr (iI (hb (fun s => levZ (gI m 79) law s y x) (n - 1).toNat)), m2) := by
      rw [show (1000000 : Nat) = 999999 + 1 from rfl, F_T_hardest_L20, k_cn, lt0, if_neg (by rw [iI_le (by omega) (by omega) (by omega) (by omega)]; omega), bnd_some e1, lt_def, ltm1, if_neg (by rw [iI_le (by omega) (by omega) (by omega) (by omega)]; omega)]
      dsimp only
      rw [lt_def, lt1, iI_add]
      exact e2
    obtain ⟨m3, e3, i3, t3⟩ := Mhard_loop (w := gI m 79) (y := y) (x := x) hr.2.1 hr.2.2 (n - 1).toNat 0 (sI m2 78 0 0) 1000000 (i2.thr thr_s) (w2.trans (Fr_row (thr_s (m := m2) (v := 0)) rfl rfl).symm) (by omega) (by omega)
    have hM : F_M_hardest_L39 (iI y) (iI x) 1000000 0 1 (sI m2 78 0 0) = some (iI (hb (fun s => levZ (gI m 79) law s y x) (n - 1).toNat), m3) := e3
    repeat' (first
      | (with_reducible refine ok_ck ?_ ?_; focus (simp (disch := omega) only [↓lt_def, ↓reduceIte, ckB_true, bnd_e, Int.reduceAdd, Int.reduceSub, Int.reduceMul, Int.reduceNeg, Int.reduceToNat, Bool.false_eq_true, eq_self, not_false_eq_true, not_true_eq_false, Int.toNat_natCast, lt0, lt1, lt2, lt3, lt4, lt5, lt6, lt7, lt8, lt9, lt10, lt11, lt12, lt13, lt14, lt15, lt16, lt17, lt18, lt19, lt20, lt21, lt22, lt23, lt24, lt25, lt26, lt27, lt28, lt29, lt30, lt31, lt32, lt40, lt41, lt43, lt48, lt55, lt57, lt59, lt60, lt62, lt63, lt64, lt70, lt72, lt81, lt97, lt99, lt100, lt122, lt162, lt180, lt235, lt255, lt298, lt299, lt325, lt335, lt400, lt837, lt999, lt1000, lt1001, lt1002, lt1003, lt1004, lt1005, lt1006, lt1007, lt1008, lt1100, lt1101, lt1102, lt1103, lt1104, lt1105, lt1135, lt1136, lt1172, lt2000, lt3278, lt3575, lt10000, lt12345, lt21450, lt32767, lt193050, lt1103515245, ltm162, ltm99, ltm81, ltm8, ltm1, iI_add, iI_sub, iI_mul, iI_neg, iI_divn, iI_lt_t, iI_lt_f, iI_le_t, iI_le_f, iI_eq_t, iI_eq_f, iI_lt, iI_le, iI_eq, iI_idx, iI_inb, gI_sI, gL_sL, gZ_sZ, gI_sL, gI_sZ, gL_sI, gL_sZ, gZ_sI, gZ_sL, Nat.reduceEqDiff, false_and, and_false, and_true, true_and, and_self]; done))
      | (with_reducible refine ok_e hT ?_)
      | (with_reducible refine ok_e hM ?_)
      | (with_reducible refine ok_bnd ?_)
      | (with_reducible refine ok_bndX ?_)
      | (with_reducible refine ok_lt ?_)
      | (with_reducible refine ok_t ?_ ?_; focus (simp (disch := omega) only [↓lt_def, ↓reduceIte, ckB_true, bnd_e, Int.reduceAdd, Int.reduceSub, Int.reduceMul, Int.reduceNeg, Int.reduceToNat, Bool.false_eq_true, eq_self, not_false_eq_true, not_true_eq_false, Int.toNat_natCast, lt0, lt1, lt2, lt3, lt4, lt5, lt6, lt7, lt8, lt9, lt10, lt11, lt12, lt13, lt14, lt15, lt16, lt17, lt18, lt19, lt20, lt21, lt22, lt23, lt24, lt25, lt26, lt27, lt28, lt29, lt30, lt31, lt32, lt40, lt41, lt43, lt48, lt55, lt57, lt59, lt60, lt62, lt63, lt64, lt70, lt72, lt81, lt97, lt99, lt100, lt122, lt162, lt180, lt235, lt255, lt298, lt299, lt325, lt335, lt400, lt837, lt999, lt1000, lt1001, lt1002, lt1003, lt1004, lt1005, lt1006, lt1007, lt1008, lt1100, lt1101, lt1102, lt1103, lt1104, lt1105, lt1135, lt1136, lt1172, lt2000, lt3278, lt3575, lt10000, lt12345, lt21450, lt32767, lt193050, lt1103515245, ltm162, ltm99, ltm81, ltm8, ltm1, iI_add, iI_sub, iI_mul, iI_neg, iI_divn, iI_lt_t, iI_lt_f, iI_le_t, iI_le_f, iI_eq_t, iI_eq_f, iI_lt, iI_le, iI_eq, iI_idx, iI_inb, gI_sI, gL_sL, gZ_sZ, gI_sL, gI_sZ, gL_sI, gL_sZ, gZ_sI, gZ_sL, Nat.reduceEqDiff, false_and, and_false, and_true, true_and, and_self]; done))
      | (with_reducible refine ok_f ?_ ?_; focus (simp (disch := omega) only [↓lt_def, ↓reduceIte, ckB_true, bnd_e, Int.reduceAdd, Int.reduceSub, Int.reduceMul, Int.reduceNeg, Int.reduceToNat, Bool.false_eq_true, eq_self, not_false_eq_true, not_true_eq_false, Int.toNat_natCast, lt0, lt1, lt2, lt3, lt4, lt5, lt6, lt7, lt8, lt9, lt10, lt11, lt12, lt13, lt14, lt15, lt16, lt17, lt18, lt19, lt20, lt21, lt22, lt23, lt24, lt25, lt26, lt27, lt28, lt29, lt30, lt31, lt32, lt40, lt41, lt43, lt48, lt55, lt57, lt59, lt60, lt62, lt63, lt64, lt70, lt72, lt81, lt97, lt99, lt100, lt122, lt162, lt180, lt235, lt255, lt298, lt299, lt325, lt335, lt400, lt837, lt999, lt1000, lt1001, lt1002, lt1003, lt1004, lt1005, lt1006, lt1007, lt1008, lt1100, lt1101, lt1102, lt1103, lt1104, lt1105, lt1135, lt1136, lt1172, lt2000, lt3278, lt3575, lt10000, lt12345, lt21450, lt32767, lt193050, lt1103515245, ltm162, ltm99, ltm81, ltm8, ltm1, iI_add, iI_sub, iI_mul, iI_neg, iI_divn, iI_lt_t, iI_lt_f, iI_le_t, iI_le_f, iI_eq_t, iI_eq_f, iI_lt, iI_le, iI_eq, iI_idx, iI_inb, gI_sI, gL_sL, gZ_sZ, gI_sL, gI_sZ, gL_sI, gL_sZ, gZ_sI, gZ_sL, Nat.reduceEqDiff, false_and, and_false, and_true, true_and, and_self]; done))
      | ((with_reducible refine ok_ite (fun hc => ?_) (fun hc => ?_)) <;> (try simp (disch := omega) only [↓lt_def, ↓reduceIte, ckB_true, bnd_e, Int.reduceAdd, Int.reduceSub, Int.reduceMul, Int.reduceNeg, Int.reduceToNat, Bool.false_eq_true, eq_self, not_false_eq_true, not_true_eq_false, Int.toNat_natCast, lt0, lt1, lt2, lt3, lt4, lt5, lt6, lt7, lt8, lt9, lt10, lt11, lt12, lt13, lt14, lt15, lt16, lt17, lt18, lt19, lt20, lt21, lt22, lt23, lt24, lt25, lt26, lt27, lt28, lt29, lt30, lt31, lt32, lt40, lt41, lt43, lt48, lt55, lt57, lt59, lt60, lt62, lt63, lt64, lt70, lt72, lt81, lt97, lt99, lt100, lt122, lt162, lt180, lt235, lt255, lt298, lt299, lt325, lt335, lt400, lt837, lt999, lt1000, lt1001, lt1002, lt1003, lt1004, lt1005, lt1006, lt1007, lt1008, lt1100, lt1101, lt1102, lt1103, lt1104, lt1105, lt1135, lt1136, lt1172, lt2000, lt3278, lt3575, lt10000, lt12345, lt21450, lt32767, lt193050, lt1103515245, ltm162, ltm99, ltm81, ltm8, ltm1, iI_add, iI_sub, iI_mul, iI_neg, iI_divn, iI_lt_t, iI_lt_f, iI_le_t, iI_le_f, iI_eq_t, iI_eq_f, iI_lt, iI_le, iI_eq, iI_idx, iI_inb, gI_sI, gL_sL, gZ_sZ, gI_sL, gI_sZ, gL_sI, gL_sZ, gZ_sI, gZ_sL, Nat.reduceEqDiff, false_and, and_false, and_true, true_and, and_self] at hc) <;> (try (exfalso; omega)))
      | (with_reducible refine ok_some ?_)
      | (with_reducible refine ok_xr ?_)
      | (with_reducible refine ok_xl ?_)
      | (unfold F_T_hardest)
      | (unfold F_T_mustBeBelow)
      | (unfold F_M_hardest)
      | (unfold F_M_noInnings)
      | (unfold F_M_noSide)
      | (unfold F_M_in)
      | (unfold F_M_throwsIf))
    exact ⟨⟨t3, rfl⟩, i3.inv⟩
  · skip
    repeat' (first
      | (with_reducible refine ok_ck ?_ ?_; focus (simp (disch := omega) only [↓lt_def, ↓reduceIte, ckB_true, bnd_e, Int.reduceAdd, Int.reduceSub, Int.reduceMul, Int.reduceNeg, Int.reduceToNat, Bool.false_eq_true, eq_self, not_false_eq_true, not_true_eq_false, Int.toNat_natCast, lt0, lt1, lt2, lt3, lt4, lt5, lt6, lt7, lt8, lt9, lt10, lt11, lt12, lt13, lt14, lt15, lt16, lt17, lt18, lt19, lt20, lt21, lt22, lt23, lt24, lt25, lt26, lt27, lt28, lt29, lt30, lt31, lt32, lt40, lt41, lt43, lt48, lt55, lt57, lt59, lt60, lt62, lt63, lt64, lt70, lt72, lt81, lt97, lt99, lt100, lt122, lt162, lt180, lt235, lt255, lt298, lt299, lt325, lt335, lt400, lt837, lt999, lt1000, lt1001, lt1002, lt1003, lt1004, lt1005, lt1006, lt1007, lt1008, lt1100, lt1101, lt1102, lt1103, lt1104, lt1105, lt1135, lt1136, lt1172, lt2000, lt3278, lt3575, lt10000, lt12345, lt21450, lt32767, lt193050, lt1103515245, ltm162, ltm99, ltm81, ltm8, ltm1, iI_add, iI_sub, iI_mul, iI_neg, iI_divn, iI_lt_t, iI_lt_f, iI_le_t, iI_le_f, iI_eq_t, iI_eq_f, iI_lt, iI_le, iI_eq, iI_idx, iI_inb, gI_sI, gL_sL, gZ_sZ, gI_sL, gI_sZ, gL_sI, gL_sZ, gZ_sI, gZ_sL, Nat.reduceEqDiff, false_and, and_false, and_true, true_and, and_self]; done))
      | (with_reducible refine ok_bnd ?_)
      | (with_reducible refine ok_bndX ?_)
      | (with_reducible refine ok_lt ?_)
      | (with_reducible refine ok_t ?_ ?_; focus (simp (disch := omega) only [↓lt_def, ↓reduceIte, ckB_true, bnd_e, Int.reduceAdd, Int.reduceSub, Int.reduceMul, Int.reduceNeg, Int.reduceToNat, Bool.false_eq_true, eq_self, not_false_eq_true, not_true_eq_false, Int.toNat_natCast, lt0, lt1, lt2, lt3, lt4, lt5, lt6, lt7, lt8, lt9, lt10, lt11, lt12, lt13, lt14, lt15, lt16, lt17, lt18, lt19, lt20, lt21, lt22, lt23, lt24, lt25, lt26, lt27, lt28, lt29, lt30, lt31, lt32, lt40, lt41, lt43, lt48, lt55, lt57, lt59, lt60, lt62, lt63, lt64, lt70, lt72, lt81, lt97, lt99, lt100, lt122, lt162, lt180, lt235, lt255, lt298, lt299, lt325, lt335, lt400, lt837, lt999, lt1000, lt1001, lt1002, lt1003, lt1004, lt1005, lt1006, lt1007, lt1008, lt1100, lt1101, lt1102, lt1103, lt1104, lt1105, lt1135, lt1136, lt1172, lt2000, lt3278, lt3575, lt10000, lt12345, lt21450, lt32767, lt193050, lt1103515245, ltm162, ltm99, ltm81, ltm8, ltm1, iI_add, iI_sub, iI_mul, iI_neg, iI_divn, iI_lt_t, iI_lt_f, iI_le_t, iI_le_f, iI_eq_t, iI_eq_f, iI_lt, iI_le, iI_eq, iI_idx, iI_inb, gI_sI, gL_sL, gZ_sZ, gI_sL, gI_sZ, gL_sI, gL_sZ, gZ_sI, gZ_sL, Nat.reduceEqDiff, false_and, and_false, and_true, true_and, and_self]; done))
      | (with_reducible refine ok_f ?_ ?_; focus (simp (disch := omega) only [↓lt_def, ↓reduceIte, ckB_true, bnd_e, Int.reduceAdd, Int.reduceSub, Int.reduceMul, Int.reduceNeg, Int.reduceToNat, Bool.false_eq_true, eq_self, not_false_eq_true, not_true_eq_false, Int.toNat_natCast, lt0, lt1, lt2, lt3, lt4, lt5, lt6, lt7, lt8, lt9, lt10, lt11, lt12, lt13, lt14, lt15, lt16, lt17, lt18, lt19, lt20, lt21, lt22, lt23, lt24, lt25, lt26, lt27, lt28, lt29, lt30, lt31, lt32, lt40, lt41, lt43, lt48, lt55, lt57, lt59, lt60, lt62, lt63, lt64, lt70, lt72, lt81, lt97, lt99, lt100, lt122, lt162, lt180, lt235, lt255, lt298, lt299, lt325, lt335, lt400, lt837, lt999, lt1000, lt1001, lt1002, lt1003, lt1004, lt1005, lt1006, lt1007, lt1008, lt1100, lt1101, lt1102, lt1103, lt1104, lt1105, lt1135, lt1136, lt1172, lt2000, lt3278, lt3575, lt10000, lt12345, lt21450, lt32767, lt193050, lt1103515245, ltm162, ltm99, ltm81, ltm8, ltm1, iI_add, iI_sub, iI_mul, iI_neg, iI_divn, iI_lt_t, iI_lt_f, iI_le_t, iI_le_f, iI_eq_t, iI_eq_f, iI_lt, iI_le, iI_eq, iI_idx, iI_inb, gI_sI, gL_sL, gZ_sZ, gI_sL, gI_sZ, gL_sI, gL_sZ, gZ_sI, gZ_sL, Nat.reduceEqDiff, false_and, and_false, and_true, true_and, and_self]; done))
      | ((with_reducible refine ok_ite (fun hc => ?_) (fun hc => ?_)) <;> (try simp (disch := omega) only [↓lt_def, ↓reduceIte, ckB_true, bnd_e, Int.reduceAdd, Int.reduceSub, Int.reduceMul, Int.reduceNeg, Int.reduceToNat, Bool.false_eq_true, eq_self, not_false_eq_true, not_true_eq_false, Int.toNat_natCast, lt0, lt1, lt2, lt3, lt4, lt5, lt6, lt7, lt8, lt9, lt10, lt11, lt12, lt13, lt14, lt15, lt16, lt17, lt18, lt19, lt20, lt21, lt22, lt23, lt24, lt25, lt26, lt27, lt28, lt29, lt30, lt31, lt32, lt40, lt41, lt43, lt48, lt55, lt57, lt59, lt60, lt62, lt63, lt64, lt70, lt72, lt81, lt97, lt99, lt100, lt122, lt162, lt180, lt235, lt255, lt298, lt299, lt325, lt335, lt400, lt837, lt999, lt1000, lt1001, lt1002, lt1003, lt1004, lt1005, lt1006, lt1007, lt1008, lt1100, lt1101, lt1102, lt1103, lt1104, lt1105, lt1135, lt1136, lt1172, lt2000, lt3278, lt3575, lt10000, lt12345, lt21450, lt32767, lt193050, lt1103515245, ltm162, ltm99, ltm81, ltm8, ltm1, iI_add, iI_sub, iI_mul, iI_neg, iI_divn, iI_lt_t, iI_lt_f, iI_le_t, iI_le_f, iI_eq_t, iI_eq_f, iI_lt, iI_le, iI_eq, iI_idx, iI_inb, gI_sI, gL_sL, gZ_sZ, gI_sL, gI_sZ, gL_sI, gL_sZ, gZ_sI, gZ_sL, Nat.reduceEqDiff, false_and, and_false, and_true, true_and, and_self] at hc) <;> (try (exfalso; omega)))
      | (with_reducible refine ok_some ?_)
      | (with_reducible refine ok_xr ?_)
      | (with_reducible refine ok_xl ?_)
      | (unfold F_T_hardest)
      | (unfold F_T_mustBeBelow)
      | (unfold F_M_hardest)
      | (unfold F_M_noInnings)
      | (unfold F_M_noSide)
      | (unfold F_M_in)
      | (unfold F_M_throwsIf))
    all_goals exact ⟨ans_l (by decide) rfl, (h.thr thr_ss).inv⟩
end GET7
