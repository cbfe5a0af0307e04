section MPLAYS
/-- the reference's fields, without the log -/
def WF (m : Mem) (t : Mt) : Prop := gI m 79 9 = t.sd ∧ gI m 79 10 = iI t.fi ∧ gI m 79 11 = iI t.inn ∧ gI m 79 12 = b2i t.fol ∧ gI m 79 13 = iI t.out ∧ gI m 79 14 = b2i t.fr ∧ gI m 79 15 = iI t.r0 ∧ gI m 79 16 = iI t.r1 ∧ gI m 79 17 = iI t.pl ∧ gI m 79 18 = iI t.win
/-- only fields of the match change -/
def OnlyF (m m' : Mem) : Prop := ∀ o j, ¬ (o = 79 ∧ 9 ≤ j ∧ j ≤ 18) → gI m' o j = gI m o j
theorem WF.log {m : Mem} {t : Mt} (h : WF m t) (hl : ∀ j : Nat, (j : Int) < 7 * t.pl → gI m 79 (235 + j) = t.lg j) : WM m 79 0 t := by
  obtain ⟨c0, c1, c2, c3, c4, c5, c6, c7, c8, c9⟩ := h
  refine ⟨c0, c1, c2, c3, c4, c5, c6, c7, c8, c9, fun j hj => ?_⟩
  rw [Nat.zero_add]
  exact hl j hj
def stl (t : Mt) (n : Int) : Mt := jd (if t.out = 10 ∧ t.inn ≠ 3 then nxI t else t) n
theorem Mnext_ok {t : Mt} {m : Mem} (h : WF m t) (i0 : 0 ≤ t.inn) (i3 : t.inn ≤ 2) (fo : t.fol = true → 2 ≤ t.inn) (f0 : 0 ≤ t.fi) (f1 : t.fi ≤ 1) (r0 : 0 ≤ t.r0) (r09 : t.r0 ≤ 90) (r1 : 0 ≤ t.r1) (r19 : t.r1 ≤ 90) : ∃ m', F_M_nextInnings m = some ((), m') ∧ WF m' (Mt.mk t.fi (t.inn + 1) 0 t.pl (if t.inn + 1 = 3 ∧ 0 < leadZ (nxI t) (batZ (nxI t)) then batZ (nxI t) else t.win) t.fol true t.sd t.r0 t.r1 t.lg) ∧ OnlyF m m' := by
  obtain ⟨c0, c1, c2, c3, c4, c5, c6, c7, c8, c9⟩ := h
  obtain ⟨m4, hm4⟩ : ∃ x, x = (if t.inn + 1 = 2 then sI (sI (sI (sI m 79 11 (iI (t.inn + 1))) 79 12 0) 79 13 0) 79 14 1 else sI (sI (sI m 79 11 (iI (t.inn + 1))) 79 13 0) 79 14 1) := ⟨_, rfl⟩
  have hW : WF m4 (nxI t) ∧ OnlyF m m4 := by
    rw [hm4]
    by_cases h2 : t.inn + 1 = 2
    · have hff : t.fol = false := by
        cases hq : t.fol
        · rfl
        · have := fo hq; omega
      rw [if_pos h2]
      refine ⟨⟨?_, ?_, ?_, ?_, ?_, ?_, ?_, ?_, ?_, ?_⟩, fun o j hoj => ?_⟩
      · show _ = t.sd
        simp (disch := omega) only [↓lt_def, ↓reduceIte, ckB_true, bnd_e, Int.reduceAdd, Int.reduceSub, Int.reduceMul, Int.reduceNeg, Int.reduceToNat, Bool.false_eq_true, eq_self, not_false_eq_true, not_true_eq_false, Int.toNat_natCast, lt0, lt1, lt2, lt3, lt4, lt5, lt6, lt7, lt8, lt9, lt10, lt11, lt12, lt13, lt14, lt15, lt16, lt17, lt18, lt19, lt20, lt21, lt22, lt23, lt24, lt25, lt26, lt27, lt28, lt29, lt30, lt31, lt32, lt40, lt41, lt43, lt48, lt55, lt57, lt59, lt60, lt62, lt63, lt64, lt70, lt72, lt81, lt97, lt99, lt100, lt122, lt162, lt180, lt235, lt255, lt298, lt299, lt325, lt335, lt400, lt837, lt999, lt1000, lt1001, lt1002, lt1003, lt1004, lt1005, lt1006, lt1007, lt1008, lt1100, lt1101, lt1102, lt1103, lt1104, lt1105, lt1135, lt1136, lt1172, lt2000, lt3278, lt3575, lt10000, lt12345, lt21450, lt32767, lt193050, lt1103515245, ltm162, ltm99, ltm81, ltm8, ltm1, iI_add, iI_sub, iI_mul, iI_neg, iI_divn, iI_lt_t, iI_lt_f, iI_le_t, iI_le_f, iI_eq_t, iI_eq_f, iI_lt, iI_le, iI_eq, iI_idx, iI_inb, gI_sI, gL_sL, gZ_sZ, gI_sL, gI_sZ, gL_sI, gL_sZ, gZ_sI, gZ_sL, Nat.reduceEqDiff, false_and, and_false, and_true, true_and, and_self, c0]
      · show _ = iI t.fi
        simp (disch := omega) only [↓lt_def, ↓reduceIte, ckB_true, bnd_e, Int.reduceAdd, Int.reduceSub, Int.reduceMul, Int.reduceNeg, Int.reduceToNat, Bool.false_eq_true, eq_self, not_false_eq_true, not_true_eq_false, Int.toNat_natCast, lt0, lt1, lt2, lt3, lt4, lt5, lt6, lt7, lt8, lt9, lt10, lt11, lt12, lt13, lt14, lt15, lt16, lt17, lt18, lt19, lt20, lt21, lt22, lt23, lt24, lt25, lt26, lt27, lt28, lt29, lt30, lt31, lt32, lt40, lt41, lt43, lt48, lt55, lt57, lt59, lt60, lt62, lt63, lt64, lt70, lt72, lt81, lt97, lt99, lt100, lt122, lt162, lt180, lt235, lt255, lt298, lt299, lt325, lt335, lt400, lt837, lt999, lt1000, lt1001, lt1002, lt1003, lt1004, lt1005, lt1006, lt1007, lt1008, lt1100, lt1101, lt1102, lt1103, lt1104, lt1105, lt1135, lt1136, lt1172, lt2000, lt3278, lt3575, lt10000, lt12345, lt21450, lt32767, lt193050, lt1103515245, ltm162, ltm99, ltm81, ltm8, ltm1, iI_add, iI_sub, iI_mul, iI_neg, iI_divn, iI_lt_t, iI_lt_f, iI_le_t, iI_le_f, iI_eq_t, iI_eq_f, iI_lt, iI_le, iI_eq, iI_idx, iI_inb, gI_sI, gL_sL, gZ_sZ, gI_sL, gI_sZ, gL_sI, gL_sZ, gZ_sI, gZ_sL, Nat.reduceEqDiff, false_and, and_false, and_true, true_and, and_self, c1]
      · show _ = iI (t.inn + 1)
        simp (disch := omega) only [↓lt_def, ↓reduceIte, ckB_true, bnd_e, Int.reduceAdd, Int.reduceSub, Int.reduceMul, Int.reduceNeg, Int.reduceToNat, Bool.false_eq_true, eq_self, not_false_eq_true, not_true_eq_false, Int.toNat_natCast, lt0, lt1, lt2, lt3, lt4, lt5, lt6, lt7, lt8, lt9, lt10, lt11, lt12, lt13, lt14, lt15, lt16, lt17, lt18, lt19, lt20, lt21, lt22, lt23, lt24, lt25, lt26, lt27, lt28, lt29, lt30, lt31, lt32, lt40, lt41, lt43, lt48, lt55, lt57, lt59, lt60, lt62, lt63, lt64, lt70, lt72, lt81, lt97, lt99, lt100, lt122, lt162, lt180, lt235, lt255, lt298, lt299, lt325, lt335, lt400, lt837, lt999, lt1000, lt1001, lt1002, lt1003, lt1004, lt1005, lt1006, lt1007, lt1008, lt1100, lt1101, lt1102, lt1103, lt1104, lt1105, lt1135, lt1136, lt1172, lt2000, lt3278, lt3575, lt10000, lt12345, lt21450, lt32767, lt193050, lt1103515245, ltm162, ltm99, ltm81, ltm8, ltm1, iI_add, iI_sub, iI_mul, iI_neg, iI_divn, iI_lt_t, iI_lt_f, iI_le_t, iI_le_f, iI_eq_t, iI_eq_f, iI_lt, iI_le, iI_eq, iI_idx, iI_inb, gI_sI, gL_sL, gZ_sZ, gI_sL, gI_sZ, gL_sI, gL_sZ, gZ_sI, gZ_sL, Nat.reduceEqDiff, false_and, and_false, and_true, true_and, and_self]
      · show _ = b2i t.fol
        rw [hff]
        simp (disch := omega) only [↓lt_def, ↓reduceIte, ckB_true, bnd_e, Int.reduceAdd, Int.reduceSub, Int.reduceMul, Int.reduceNeg, Int.reduceToNat, Bool.false_eq_true, eq_self, not_false_eq_true, not_true_eq_false, Int.toNat_natCast, lt0, lt1, lt2, lt3, lt4, lt5, lt6, lt7, lt8, lt9, lt10, lt11, lt12, lt13, lt14, lt15, lt16, lt17, lt18, lt19, lt20, lt21, lt22, lt23, lt24, lt25, lt26, lt27, lt28, lt29, lt30, lt31, lt32, lt40, lt41, lt43, lt48, lt55, lt57, lt59, lt60, lt62, lt63, lt64, lt70, lt72, lt81, lt97, lt99, lt100, lt122, lt162, lt180, lt235, lt255, lt298, lt299, lt325, lt335, lt400, lt837, lt999, lt1000, lt1001, lt1002, lt1003, lt1004, lt1005, lt1006, lt1007, lt1008, lt1100, lt1101, lt1102, lt1103, lt1104, lt1105, lt1135, lt1136, lt1172, lt2000, lt3278, lt3575, lt10000, lt12345, lt21450, lt32767, lt193050, lt1103515245, ltm162, ltm99, ltm81, ltm8, ltm1, iI_add, iI_sub, iI_mul, iI_neg, iI_divn, iI_lt_t, iI_lt_f, iI_le_t, iI_le_f, iI_eq_t, iI_eq_f, iI_lt, iI_le, iI_eq, iI_idx, iI_inb, gI_sI, gL_sL, gZ_sZ, gI_sL, gI_sZ, gL_sI, gL_sZ, gZ_sI, gZ_sL, Nat.reduceEqDiff, false_and, and_false, and_true, true_and, and_self, b2i_f]
      · show _ = iI 0
        simp (disch := omega) only [↓lt_def, ↓reduceIte, ckB_true, bnd_e, Int.reduceAdd, Int.reduceSub, Int.reduceMul, Int.reduceNeg, Int.reduceToNat, Bool.false_eq_true, eq_self, not_false_eq_true, not_true_eq_false, Int.toNat_natCast, lt0, lt1, lt2, lt3, lt4, lt5, lt6, lt7, lt8, lt9, lt10, lt11, lt12, lt13, lt14, lt15, lt16, lt17, lt18, lt19, lt20, lt21, lt22, lt23, lt24, lt25, lt26, lt27, lt28, lt29, lt30, lt31, lt32, lt40, lt41, lt43, lt48, lt55, lt57, lt59, lt60, lt62, lt63, lt64, lt70, lt72, lt81, lt97, lt99, lt100, lt122, lt162, lt180, lt235, lt255, lt298, lt299, lt325, lt335, lt400, lt837, lt999, lt1000, lt1001, lt1002, lt1003, lt1004, lt1005, lt1006, lt1007, lt1008, lt1100, lt1101, lt1102, lt1103, lt1104, lt1105, lt1135, lt1136, lt1172, lt2000, lt3278, lt3575, lt10000, lt12345, lt21450, lt32767, lt193050, lt1103515245, ltm162, ltm99, ltm81, ltm8, ltm1, iI_add, iI_sub, iI_mul, iI_neg, iI_divn, iI_lt_t, iI_lt_f, iI_le_t, iI_le_f, iI_eq_t, iI_eq_f, iI_lt, iI_le, iI_eq, iI_idx, iI_inb, gI_sI, gL_sL, gZ_sZ, gI_sL, gI_sZ, gL_sI, gL_sZ, gZ_sI, gZ_sL, Nat.reduceEqDiff, false_and, and_false, and_true, true_and, and_self]
      · show _ = b2i true
        simp (disch := omega) only [↓lt_def, ↓reduceIte, ckB_true, bnd_e, Int.reduceAdd, Int.reduceSub, Int.reduceMul, Int.reduceNeg, Int.reduceToNat, Bool.false_eq_true, eq_self, not_false_eq_true, not_true_eq_false, Int.toNat_natCast, lt0, lt1, lt2, lt3, lt4, lt5, lt6, lt7, lt8, lt9, lt10, lt11, lt12, lt13, lt14, lt15, lt16, lt17, lt18, lt19, lt20, lt21, lt22, lt23, lt24, lt25, lt26, lt27, lt28, lt29, lt30, lt31, lt32, lt40, lt41, lt43, lt48, lt55, lt57, lt59, lt60, lt62, lt63, lt64, lt70, lt72, lt81, lt97, lt99, lt100, lt122, lt162, lt180, lt235, lt255, lt298, lt299, lt325, lt335, lt400, lt837, lt999, lt1000, lt1001, lt1002, lt1003, lt1004, lt1005, lt1006, lt1007, lt1008, lt1100, lt1101, lt1102, lt1103, lt1104, lt1105, lt1135, lt1136, lt1172, lt2000, lt3278, lt3575, lt10000, lt12345, lt21450, lt32767, lt193050, lt1103515245, ltm162, ltm99, ltm81, ltm8, ltm1, iI_add, iI_sub, iI_mul, iI_neg, iI_divn, iI_lt_t, iI_lt_f, iI_le_t, iI_le_f, iI_eq_t, iI_eq_f, iI_lt, iI_le, iI_eq, iI_idx, iI_inb, gI_sI, gL_sL, gZ_sZ, gI_sL, gI_sZ, gL_sI, gL_sZ, gZ_sI, gZ_sL, Nat.reduceEqDiff, false_and, and_false, and_true, true_and, and_self, b2i_t]
      · show _ = iI t.r0
        simp (disch := omega) only [↓lt_def, ↓reduceIte, ckB_true, bnd_e, Int.reduceAdd, Int.reduceSub, Int.reduceMul, Int.reduceNeg, Int.reduceToNat, Bool.false_eq_true, eq_self, not_false_eq_true, not_true_eq_false, Int.toNat_natCast, lt0, lt1, lt2, lt3, lt4, lt5, lt6, lt7, lt8, lt9, lt10, lt11, lt12, lt13, lt14, lt15, lt16, lt17, lt18, lt19, lt20, lt21, lt22, lt23, lt24, lt25, lt26, lt27, lt28, lt29, lt30, lt31, lt32, lt40, lt41, lt43, lt48, lt55, lt57, lt59, lt60, lt62, lt63, lt64, lt70, lt72, lt81, lt97, lt99, lt100, lt122, lt162, lt180, lt235, lt255, lt298, lt299, lt325, lt335, lt400, lt837, lt999, lt1000, lt1001, lt1002, lt1003, lt1004, lt1005, lt1006, lt1007, lt1008, lt1100, lt1101, lt1102, lt1103, lt1104, lt1105, lt1135, lt1136, lt1172, lt2000, lt3278, lt3575, lt10000, lt12345, lt21450, lt32767, lt193050, lt1103515245, ltm162, ltm99, ltm81, ltm8, ltm1, iI_add, iI_sub, iI_mul, iI_neg, iI_divn, iI_lt_t, iI_lt_f, iI_le_t, iI_le_f, iI_eq_t, iI_eq_f, iI_lt, iI_le, iI_eq, iI_idx, iI_inb, gI_sI, gL_sL, gZ_sZ, gI_sL, gI_sZ, gL_sI, gL_sZ, gZ_sI, gZ_sL, Nat.reduceEqDiff, false_and, and_false, and_true, true_and, and_self, c6]
      · show _ = iI t.r1
        simp (disch := omega) only [↓lt_def, ↓reduceIte, ckB_true, bnd_e, Int.reduceAdd, Int.reduceSub, Int.reduceMul, Int.reduceNeg, Int.reduceToNat, Bool.false_eq_true, eq_self, not_false_eq_true, not_true_eq_false, Int.toNat_natCast, lt0, lt1, lt2, lt3, lt4, lt5, lt6, lt7, lt8, lt9, lt10, lt11, lt12, lt13, lt14, lt15, lt16, lt17, lt18, lt19, lt20, lt21, lt22, lt23, lt24, lt25, lt26, lt27, lt28, lt29, lt30, lt31, lt32, lt40, lt41, lt43, lt48, lt55, lt57, lt59, lt60, lt62, lt63, lt64, lt70, lt72, lt81, lt97, lt99, lt100, lt122, lt162, lt180, lt235, lt255, lt298, lt299, lt325, lt335, lt400, lt837, lt999, lt1000, lt1001, lt1002, lt1003, lt1004, lt1005, lt1006, lt1007, lt1008, lt1100, lt1101, lt1102, lt1103, lt1104, lt1105, lt1135, lt1136, lt1172, lt2000, lt3278, lt3575, lt10000, lt12345, lt21450, lt32767, lt193050, lt1103515245, ltm162, ltm99, ltm81, ltm8, ltm1, iI_add, iI_sub, iI_mul, iI_neg, iI_divn, iI_lt_t, iI_lt_f, iI_le_t, iI_le_f, iI_eq_t, iI_eq_f, iI_lt, iI_le, iI_eq, iI_idx, iI_inb, gI_sI, gL_sL, gZ_sZ, gI_sL, gI_sZ, gL_sI, gL_sZ, gZ_sI, gZ_sL, Nat.reduceEqDiff, false_and, and_false, and_true, true_and, and_self, c7]
      · show _ = iI t.pl
        simp (disch := omega) only [↓lt_def, ↓reduceIte, ckB_true, bnd_e, Int.reduceAdd, Int.reduceSub, Int.reduceMul, Int.reduceNeg, Int.reduceToNat, Bool.false_eq_true, eq_self, not_false_eq_true, not_true_eq_false, Int.toNat_natCast, lt0, lt1, lt2, lt3, lt4, lt5, lt6, lt7, lt8, lt9, lt10, lt11, lt12, lt13, lt14, lt15, lt16, lt17, lt18, lt19, lt20, lt21, lt22, lt23, lt24, lt25, lt26, lt27, lt28, lt29, lt30, lt31, lt32, lt40, lt41, lt43, lt48, lt55, lt57, lt59, lt60, lt62, lt63, lt64, lt70, lt72, lt81, lt97, lt99, lt100, lt122, lt162, lt180, lt235, lt255, lt298, lt299, lt325, lt335, lt400, lt837, lt999, lt1000, lt1001, lt1002, lt1003, lt1004, lt1005, lt1006, lt1007, lt1008, lt1100, lt1101, lt1102, lt1103, lt1104, lt1105, lt1135, lt1136, lt1172, lt2000, lt3278, lt3575, lt10000, lt12345, lt21450, lt32767, lt193050, lt1103515245, ltm162, ltm99, ltm81, ltm8, ltm1, iI_add, iI_sub, iI_mul, iI_neg, iI_divn, iI_lt_t, iI_lt_f, iI_le_t, iI_le_f, iI_eq_t, iI_eq_f, iI_lt, iI_le, iI_eq, iI_idx, iI_inb, gI_sI, gL_sL, gZ_sZ, gI_sL, gI_sZ, gL_sI, gL_sZ, gZ_sI, gZ_sL, Nat.reduceEqDiff, false_and, and_false, and_true, true_and, and_self, c8]
      · show _ = iI t.win
        simp (disch := omega) only [↓lt_def, ↓reduceIte, ckB_true, bnd_e, Int.reduceAdd, Int.reduceSub, Int.reduceMul, Int.reduceNeg, Int.reduceToNat, Bool.false_eq_true, eq_self, not_false_eq_true, not_true_eq_false, Int.toNat_natCast, lt0, lt1, lt2, lt3, lt4, lt5, lt6, lt7, lt8, lt9, lt10, lt11, lt12, lt13, lt14, lt15, lt16, lt17, lt18, lt19, lt20, lt21, lt22, lt23, lt24, lt25, lt26, lt27, lt28, lt29, lt30, lt31, lt32, lt40, lt41, lt43, lt48, lt55, lt57, lt59, lt60, lt62, lt63, lt64, lt70, lt72, lt81, lt97, lt99, lt100, lt122, lt162, lt180, lt235, lt255, lt298, lt299, lt325, lt335, lt400, lt837, lt999, lt1000, lt1001, lt1002, lt1003, lt1004, lt1005, lt1006, lt1007, lt1008, lt1100, lt1101, lt1102, lt1103, lt1104, lt1105, lt1135, lt1136, lt1172, lt2000, lt3278, lt3575, lt10000, lt12345, lt21450, lt32767, lt193050, lt1103515245, ltm162, ltm99, ltm81, ltm8, ltm1, iI_add, iI_sub, iI_mul, iI_neg, iI_divn, iI_lt_t, iI_lt_f, iI_le_t, iI_le_f, iI_eq_t, iI_eq_f, iI_lt, iI_le, iI_eq, iI_idx, iI_inb, gI_sI, gL_sL, gZ_sZ, gI_sL, gI_sZ, gL_sI, gL_sZ, gZ_sI, gZ_sL, Nat.reduceEqDiff, false_and, and_false, and_true, true_and, and_self, c9]
      · rw [gI_sI, if_neg (by omega), gI_sI, if_neg (by omega), gI_sI, if_neg (by omega), gI_sI, if_neg (by omega)]
    · rw [if_neg h2]
      refine ⟨⟨?_, ?_, ?_, ?_, ?_, ?_, ?_, ?_, ?_, ?_⟩, fun o j hoj => ?_⟩
      · show _ = t.sd
        simp (disch := omega) only [↓lt_def, ↓reduceIte, ckB_true, bnd_e, Int.reduceAdd, Int.reduceSub, Int.reduceMul, Int.reduceNeg, Int.reduceToNat, Bool.false_eq_true, eq_self, not_false_eq_true, not_true_eq_false, Int.toNat_natCast, lt0, lt1, lt2, lt3, lt4, lt5, lt6, lt7, lt8, lt9, lt10, lt11, lt12, lt13, lt14, lt15, lt16, lt17, lt18, lt19, lt20, lt21, lt22, lt23, lt24, lt25, lt26, lt27, lt28, lt29, lt30, lt31, lt32, lt40, lt41, lt43, lt48, lt55, lt57, lt59, lt60, lt62, lt63, lt64, lt70, lt72, lt81, lt97, lt99, lt100, lt122, lt162, lt180, lt235, lt255, lt298, lt299, lt325, lt335, lt400, lt837, lt999, lt1000, lt1001, lt1002, lt1003, lt1004, lt1005, lt1006, lt1007, lt1008, lt1100, lt1101, lt1102, lt1103, lt1104, lt1105, lt1135, lt1136, lt1172, lt2000, lt3278, lt3575, lt10000, lt12345, lt21450, lt32767, lt193050, lt1103515245, ltm162, ltm99, ltm81, ltm8, ltm1, iI_add, iI_sub, iI_mul, iI_neg, iI_divn, iI_lt_t, iI_lt_f, iI_le_t, iI_le_f, iI_eq_t, iI_eq_f, iI_lt, iI_le, iI_eq, iI_idx, iI_inb, gI_sI, gL_sL, gZ_sZ, gI_sL, gI_sZ, gL_sI, gL_sZ, gZ_sI, gZ_sL, Nat.reduceEqDiff, false_and, and_false, and_true, true_and, and_self, c0]
      · show _ = iI t.fi
        simp (disch := omega) only [↓lt_def, ↓reduceIte, ckB_true, bnd_e, Int.reduceAdd, Int.reduceSub, Int.reduceMul, Int.reduceNeg, Int.reduceToNat, Bool.false_eq_true, eq_self, not_false_eq_true, not_true_eq_false, Int.toNat_natCast, lt0, lt1, lt2, lt3, lt4, lt5, lt6, lt7, lt8, lt9, lt10, lt11, lt12, lt13, lt14, lt15, lt16, lt17, lt18, lt19, lt20, lt21, lt22, lt23, lt24, lt25, lt26, lt27, lt28, lt29, lt30, lt31, lt32, lt40, lt41, lt43, lt48, lt55, lt57, lt59, lt60, lt62, lt63, lt64, lt70, lt72, lt81, lt97, lt99, lt100, lt122, lt162, lt180, lt235, lt255, lt298, lt299, lt325, lt335, lt400, lt837, lt999, lt1000, lt1001, lt1002, lt1003, lt1004, lt1005, lt1006, lt1007, lt1008, lt1100, lt1101, lt1102, lt1103, lt1104, lt1105, lt1135, lt1136, lt1172, lt2000, lt3278, lt3575, lt10000, lt12345, lt21450, lt32767, lt193050, lt1103515245, ltm162, ltm99, ltm81, ltm8, ltm1, iI_add, iI_sub, iI_mul, iI_neg, iI_divn, iI_lt_t, iI_lt_f, iI_le_t, iI_le_f, iI_eq_t, iI_eq_f, iI_lt, iI_le, iI_eq, iI_idx, iI_inb, gI_sI, gL_sL, gZ_sZ, gI_sL, gI_sZ, gL_sI, gL_sZ, gZ_sI, gZ_sL, Nat.reduceEqDiff, false_and, and_false, and_true, true_and, and_self, c1]
      · show _ = iI (t.inn + 1)
        simp (disch := omega) only [↓lt_def, ↓reduceIte, ckB_true, bnd_e, Int.reduceAdd, Int.reduceSub, Int.reduceMul, Int.reduceNeg, Int.reduceToNat, Bool.false_eq_true, eq_self, not_false_eq_true, not_true_eq_false, Int.toNat_natCast, lt0, lt1, lt2, lt3, lt4, lt5, lt6, lt7, lt8, lt9, lt10, lt11, lt12, lt13, lt14, lt15, lt16, lt17, lt18, lt19, lt20, lt21, lt22, lt23, lt24, lt25, lt26, lt27, lt28, lt29, lt30, lt31, lt32, lt40, lt41, lt43, lt48, lt55, lt57, lt59, lt60, lt62, lt63, lt64, lt70, lt72, lt81, lt97, lt99, lt100, lt122, lt162, lt180, lt235, lt255, lt298, lt299, lt325, lt335, lt400, lt837, lt999, lt1000, lt1001, lt1002, lt1003, lt1004, lt1005, lt1006, lt1007, lt1008, lt1100, lt1101, lt1102, lt1103, lt1104, lt1105, lt1135, lt1136, lt1172, lt2000, lt3278, lt3575, lt10000, lt12345, lt21450, lt32767, lt193050, lt1103515245, ltm162, ltm99, ltm81, ltm8, ltm1, iI_add, iI_sub, iI_mul, iI_neg, iI_divn, iI_lt_t, iI_lt_f, iI_le_t, iI_le_f, iI_eq_t, iI_eq_f, iI_lt, iI_le, iI_eq, iI_idx, iI_inb, gI_sI, gL_sL, gZ_sZ, gI_sL, gI_sZ, gL_sI, gL_sZ, gZ_sI, gZ_sL, Nat.reduceEqDiff, false_and, and_false, and_true, true_and, and_self]
      · show _ = b2i t.fol
        simp (disch := omega) only [↓lt_def, ↓reduceIte, ckB_true, bnd_e, Int.reduceAdd, Int.reduceSub, Int.reduceMul, Int.reduceNeg, Int.reduceToNat, Bool.false_eq_true, eq_self, not_false_eq_true, not_true_eq_false, Int.toNat_natCast, lt0, lt1, lt2, lt3, lt4, lt5, lt6, lt7, lt8, lt9, lt10, lt11, lt12, lt13, lt14, lt15, lt16, lt17, lt18, lt19, lt20, lt21, lt22, lt23, lt24, lt25, lt26, lt27, lt28, lt29, lt30, lt31, lt32, lt40, lt41, lt43, lt48, lt55, lt57, lt59, lt60, lt62, lt63, lt64, lt70, lt72, lt81, lt97, lt99, lt100, lt122, lt162, lt180, lt235, lt255, lt298, lt299, lt325, lt335, lt400, lt837, lt999, lt1000, lt1001, lt1002, lt1003, lt1004, lt1005, lt1006, lt1007, lt1008, lt1100, lt1101, lt1102, lt1103, lt1104, lt1105, lt1135, lt1136, lt1172, lt2000, lt3278, lt3575, lt10000, lt12345, lt21450, lt32767, lt193050, lt1103515245, ltm162, ltm99, ltm81, ltm8, ltm1, iI_add, iI_sub, iI_mul, iI_neg, iI_divn, iI_lt_t, iI_lt_f, iI_le_t, iI_le_f, iI_eq_t, iI_eq_f, iI_lt, iI_le, iI_eq, iI_idx, iI_inb, gI_sI, gL_sL, gZ_sZ, gI_sL, gI_sZ, gL_sI, gL_sZ, gZ_sI, gZ_sL, Nat.reduceEqDiff, false_and, and_false, and_true, true_and, and_self, c3]
      · show _ = iI 0
        simp (disch := omega) only [↓lt_def, ↓reduceIte, ckB_true, bnd_e, Int.reduceAdd, Int.reduceSub, Int.reduceMul, Int.reduceNeg, Int.reduceToNat, Bool.false_eq_true, eq_self, not_false_eq_true, not_true_eq_false, Int.toNat_natCast, lt0, lt1, lt2, lt3, lt4, lt5, lt6, lt7, lt8, lt9, lt10, lt11, lt12, lt13, lt14, lt15, lt16, lt17, lt18, lt19, lt20, lt21, lt22, lt23, lt24, lt25, lt26, lt27, lt28, lt29, lt30, lt31, lt32, lt40, lt41, lt43, lt48, lt55, lt57, lt59, lt60, lt62, lt63, lt64, lt70, lt72, lt81, lt97, lt99, lt100, lt122, lt162, lt180, lt235, lt255, lt298, lt299, lt325, lt335, lt400, lt837, lt999, lt1000, lt1001, lt1002, lt1003, lt1004, lt1005, lt1006, lt1007, lt1008, lt1100, lt1101, lt1102, lt1103, lt1104, lt1105, lt1135, lt1136, lt1172, lt2000, lt3278, lt3575, lt10000, lt12345, lt21450, lt32767, lt193050, lt1103515245, ltm162, ltm99, ltm81, ltm8, ltm1, iI_add, iI_sub, iI_mul, iI_neg, iI_divn, iI_lt_t, iI_lt_f, iI_le_t, iI_le_f, iI_eq_t, iI_eq_f, iI_lt, iI_le, iI_eq, iI_idx, iI_inb, gI_sI, gL_sL, gZ_sZ, gI_sL, gI_sZ, gL_sI, gL_sZ, gZ_sI, gZ_sL, Nat.reduceEqDiff, false_and, and_false, and_true, true_and, and_self]
      · show _ = b2i true
        simp (disch := omega) only [↓lt_def, ↓reduceIte, ckB_true, bnd_e, Int.reduceAdd, Int.reduceSub, Int.reduceMul, Int.reduceNeg, Int.reduceToNat, Bool.false_eq_true, eq_self, not_false_eq_true, not_true_eq_false, Int.toNat_natCast, lt0, lt1, lt2, lt3, lt4, lt5, lt6, lt7, lt8, lt9, lt10, lt11, lt12, lt13, lt14, lt15, lt16, lt17, lt18, lt19, lt20, lt21, lt22, lt23, lt24, lt25, lt26, lt27, lt28, lt29, lt30, lt31, lt32, lt40, lt41, lt43, lt48, lt55, lt57, lt59, lt60, lt62, lt63, lt64, lt70, lt72, lt81, lt97, lt99, lt100, lt122, lt162, lt180, lt235, lt255, lt298, lt299, lt325, lt335, lt400, lt837, lt999, lt1000, lt1001, lt1002, lt1003, lt1004, lt1005, lt1006, lt1007, lt1008, lt1100, lt1101, lt1102, lt1103, lt1104, lt1105, lt1135, lt1136, lt1172, lt2000, lt3278, lt3575, lt10000, lt12345, lt21450, lt32767, lt193050, lt1103515245, ltm162, ltm99, ltm81, ltm8, ltm1, iI_add, iI_sub, iI_mul, iI_neg, iI_divn, iI_lt_t, iI_lt_f, iI_le_t, iI_le_f, iI_eq_t, iI_eq_f, iI_lt, iI_le, iI_eq, iI_idx, iI_inb, gI_sI, gL_sL, gZ_sZ, gI_sL, gI_sZ, gL_sI, gL_sZ, gZ_sI, gZ_sL, Nat.reduceEqDiff, false_and, and_false, and_true, true_and, and_self, b2i_t]
      · show _ = iI t.r0
        simp (disch := omega) only [↓lt_def, ↓reduceIte, ckB_true, bnd_e, Int.reduceAdd, Int.reduceSub, Int.reduceMul, Int.reduceNeg, Int.reduceToNat, Bool.false_eq_true, eq_self, not_false_eq_true, not_true_eq_false, Int.toNat_natCast, lt0, lt1, lt2, lt3, lt4, lt5, lt6, lt7, lt8, lt9, lt10, lt11, lt12, lt13, lt14, lt15, lt16, lt17, lt18, lt19, lt20, lt21, lt22, lt23, lt24, lt25, lt26, lt27, lt28, lt29, lt30, lt31, lt32, lt40, lt41, lt43, lt48, lt55, lt57, lt59, lt60, lt62, lt63, lt64, lt70, lt72, lt81, lt97, lt99, lt100, lt122, lt162, lt180, lt235, lt255, lt298, lt299, lt325, lt335, lt400, lt837, lt999, lt1000, lt1001, lt1002, lt1003, lt1004, lt1005, lt1006, lt1007, lt1008, lt1100, lt1101, lt1102, lt1103, lt1104, lt1105, lt1135, lt1136, lt1172, lt2000, lt3278, lt3575, lt10000, lt12345, lt21450, lt32767, lt193050, lt1103515245, ltm162, ltm99, ltm81, ltm8, ltm1, iI_add, iI_sub, iI_mul, iI_neg, iI_divn, iI_lt_t, iI_lt_f, iI_le_t, iI_le_f, iI_eq_t, iI_eq_f, iI_lt, iI_le, iI_eq, iI_idx, iI_inb, gI_sI, gL_sL, gZ_sZ, gI_sL, gI_sZ, gL_sI, gL_sZ, gZ_sI, gZ_sL, Nat.reduceEqDiff, false_and, and_false, and_true, true_and, and_self, c6]
      · show _ = iI t.r1
        simp (disch := omega) only [↓lt_def, ↓reduceIte, ckB_true, bnd_e, Int.reduceAdd, Int.reduceSub, Int.reduceMul, Int.reduceNeg, Int.reduceToNat, Bool.false_eq_true, eq_self, not_false_eq_true, not_true_eq_false, Int.toNat_natCast, lt0, lt1, lt2, lt3, lt4, lt5, lt6, lt7, lt8, lt9, lt10, lt11, lt12, lt13, lt14, lt15, lt16, lt17, lt18, lt19, lt20, lt21, lt22, lt23, lt24, lt25, lt26, lt27, lt28, lt29, lt30, lt31, lt32, lt40, lt41, lt43, lt48, lt55, lt57, lt59, lt60, lt62, lt63, lt64, lt70, lt72, lt81, lt97, lt99, lt100, lt122, lt162, lt180, lt235, lt255, lt298, lt299, lt325, lt335, lt400, lt837, lt999, lt1000, lt1001, lt1002, lt1003, lt1004, lt1005, lt1006, lt1007, lt1008, lt1100, lt1101, lt1102, lt1103, lt1104, lt1105, lt1135, lt1136, lt1172, lt2000, lt3278, lt3575, lt10000, lt12345, lt21450, lt32767, lt193050, lt1103515245, ltm162, ltm99, ltm81, ltm8, ltm1, iI_add, iI_sub, iI_mul, iI_neg, iI_divn, iI_lt_t, iI_lt_f, iI_le_t, iI_le_f, iI_eq_t, iI_eq_f, iI_lt, iI_le, iI_eq, iI_idx, iI_inb, gI_sI, gL_sL, gZ_sZ, gI_sL, gI_sZ, gL_sI, gL_sZ, gZ_sI, gZ_sL, Nat.reduceEqDiff, false_and, and_false, and_true, true_and, and_self, c7]
      · show _ = iI t.pl
        simp (disch := omega) only [↓lt_def, ↓reduceIte, ckB_true, bnd_e, Int.reduceAdd, Int.reduceSub, Int.reduceMul, Int.reduceNeg, Int.reduceToNat, Bool.false_eq_true, eq_self, not_false_eq_true, not_true_eq_false, Int.toNat_natCast, lt0, lt1, lt2, lt3, lt4, lt5, lt6, lt7, lt8, lt9, lt10, lt11, lt12, lt13, lt14, lt15, lt16, lt17, lt18, lt19, lt20, lt21, lt22, lt23, lt24, lt25, lt26, lt27, lt28, lt29, lt30, lt31, lt32, lt40, lt41, lt43, lt48, lt55, lt57, lt59, lt60, lt62, lt63, lt64, lt70, lt72, lt81, lt97, lt99, lt100, lt122, lt162, lt180, lt235, lt255, lt298, lt299, lt325, lt335, lt400, lt837, lt999, lt1000, lt1001, lt1002, lt1003, lt1004, lt1005, lt1006, lt1007, lt1008, lt1100, lt1101, lt1102, lt1103, lt1104, lt1105, lt1135, lt1136, lt1172, lt2000, lt3278, lt3575, lt10000, lt12345, lt21450, lt32767, lt193050, lt1103515245, ltm162, ltm99, ltm81, ltm8, ltm1, iI_add, iI_sub, iI_mul, iI_neg, iI_divn, iI_lt_t, iI_lt_f, iI_le_t, iI_le_f, iI_eq_t, iI_eq_f, iI_lt, iI_le, iI_eq, iI_idx, iI_inb, gI_sI, gL_sL, gZ_sZ, gI_sL, gI_sZ, gL_sI, gL_sZ, gZ_sI, gZ_sL, Nat.reduceEqDiff, false_and, and_false, and_true, true_and, and_self, c8]
      · show _ = iI t.win
        simp (disch := omega) only [↓lt_def, ↓reduceIte, ckB_true, bnd_e, Int.reduceAdd, Int.reduceSub, Int.reduceMul, Int.reduceNeg, Int.reduceToNat, Bool.false_eq_true, eq_self, not_false_eq_true, not_true_eq_false, Int.toNat_natCast, lt0, lt1, lt2, lt3, lt4, lt5, lt6, lt7, lt8, lt9, lt10, lt11, lt12, lt13, lt14, lt15, lt16, lt17, lt18, lt19, lt20, lt21, lt22, lt23, lt24, lt25, lt26, lt27, lt28, lt29, lt30, lt31, lt32, lt40, lt41, lt43, lt48, lt55, lt57, lt59, lt60, lt62, lt63, lt64, lt70, lt72, lt81, lt97, lt99, lt100, lt122, lt162, lt180, lt235, lt255, lt298, lt299, lt325, lt335, lt400, lt837, lt999, lt1000, lt1001, lt1002, lt1003, lt1004, lt1005, lt1006, lt1007, lt1008, lt1100, lt1101, lt1102, lt1103, lt1104, lt1105, lt1135, lt1136, lt1172, lt2000, lt3278, lt3575, lt10000, lt12345, lt21450, lt32767, lt193050, lt1103515245, ltm162, ltm99, ltm81, ltm8, ltm1, iI_add, iI_sub, iI_mul, iI_neg, iI_divn, iI_lt_t, iI_lt_f, iI_le_t, iI_le_f, iI_eq_t, iI_eq_f, iI_lt, iI_le, iI_eq, iI_idx, iI_inb, gI_sI, gL_sL, gZ_sZ, gI_sL, gI_sZ, gL_sI, gL_sZ, gZ_sI, gZ_sL, Nat.reduceEqDiff, false_and, and_false, and_true, true_and, and_self, c9]
      · rw [gI_sI, if_neg (by omega), gI_sI, if_neg (by omega), gI_sI, if_neg (by omega)]
  obtain ⟨hW, hO⟩ := hW
  have hin : (nxI t).inn = t.inn + 1 := rfl
  have hfo : (nxI t).fol = t.fol := rfl
  have hbr := batZ_rng (t := nxI t) f0 f1
  have hld : -90 ≤ leadZ (nxI t) (batZ (nxI t)) ∧ leadZ (nxI t) (batZ (nxI t)) ≤ 90 := by
    have q0 : (nxI t).r0 = t.r0 := rfl
    have q1 : (nxI t).r1 = t.r1 := rfl
    unfold leadZ; rw [q0, q1]; split <;> omega
  have tail : ∃ m', (if (gI m4 79 11) = (3 : Int32) then (bnd (F_M_batter m4) fun xq7 mq5 => bnd (F_M_leadOf xq7 mq5) fun xq10 mq8 => if xq10 ≤ 0 then (some ((), mq8)) else (bnd (F_M_batter mq8) fun xq13 mq11 => lt (sI mq11 79 18 xq13) fun mq14 => some ((), mq14))) else (some ((), m4))) = some ((), m') ∧ WF m' (Mt.mk t.fi (t.inn + 1) 0 t.pl (if t.inn + 1 = 3 ∧ 0 < leadZ (nxI t) (batZ (nxI t)) then batZ (nxI t) else t.win) t.fol true t.sd t.r0 t.r1 t.lg) ∧ OnlyF m m' := by
    have e1 := Mbatter_eq (t := nxI t) (m := m4) hW.2.1 hW.2.2.1 hW.2.2.2.1 (by omega) (by omega)
    have e2 := Mlead_eq (t := nxI t) (m := m4) hW.2.2.2.2.2.2.1 hW.2.2.2.2.2.2.2.1 hbr.1 hbr.2
    rw [show gI m4 79 11 = iI (t.inn + 1) from hW.2.2.1]
    obtain ⟨d0, d1, d2, d3, d4, d5, d6, d7, d8, d9⟩ := hW
    by_cases h3 : t.inn + 1 = 3
    · rw [if_pos (by rw [h3]; rfl), bnd_some e1, bnd_some e2]
      by_cases h4 : 0 < leadZ (nxI t) (batZ (nxI t))
      · rw [if_neg (by rw [lt0, iI_le (by omega) (by omega) (by omega) (by omega)]; omega), bnd_some e1, lt_def]
        refine ⟨_, rfl, ⟨?_, ?_, ?_, ?_, ?_, ?_, ?_, ?_, ?_, ?_⟩, fun o j hoj => ?_⟩
        · exact d0
        · exact d1
        · exact d2
        · exact d3
        · exact d4
        · exact d5
        · exact d6
        · exact d7
        · exact d8
        · rw [if_pos ⟨h3, h4⟩]; rfl
        · rw [gI_sI, if_neg (by omega)]
          exact hO o j hoj
      · rw [if_pos (by rw [lt0, iI_le (by omega) (by omega) (by omega) (by omega)]; omega), if_neg (fun q => h4 q.2)]
        exact ⟨m4, rfl, ⟨d0, d1, d2, d3, d4, d5, d6, d7, d8, d9⟩, hO⟩
    · rw [if_neg (by rw [lt3, iI_eq (by omega) (by omega) (by omega) (by omega)]; exact h3), if_neg (fun q => h3 q.1)]
      exact ⟨m4, rfl, ⟨d0, d1, d2, d3, d4, d5, d6, d7, d8, d9⟩, hO⟩
  obtain ⟨m', e, a, b⟩ := tail
  refine ⟨m', ?_, a, b⟩
  unfold F_M_nextInnings
  rw [c2, lt1, iI_add, lt_def, lt_def, show gI (sI m 79 11 (iI (t.inn + 1))) 79 11 = iI (t.inn + 1) by rw [gI_sI, if_pos ⟨rfl, rfl⟩]]
  by_cases h2 : t.inn + 1 = 2
  · rw [if_pos h2] at hm4
    rw [if_pos (by rw [h2]; rfl), lt_def]
    dsimp only
    rw [lt_def, lt_def, ← lt1, ← hm4]
    exact e
  · rw [if_neg h2] at hm4
    rw [if_neg (by rw [lt2, iI_eq (by omega) (by omega) (by omega) (by omega)]; exact h2)]
    dsimp only
    rw [lt_def, lt_def, ← lt1, ← hm4]
    exact e
theorem Msettle_ok {t : Mt} {m : Mem} {n : Int} (h : WF m t) (hn : gI m 79 0 = iI n) (n1 : 1 ≤ n) (n9 : n ≤ 9) (i0 : 0 ≤ t.inn) (i3 : t.inn ≤ 3) (fo : t.fol = true → 2 ≤ t.inn) (f0 : 0 ≤ t.fi) (f1 : t.fi ≤ 1) (o0 : 0 ≤ t.out) (o1 : t.out ≤ 10) (p0 : 0 ≤ t.pl) (pn : t.pl ≤ n) (hwn : t.win = -1) (r0 : 0 ≤ t.r0) (r09 : t.r0 ≤ 90) (r1 : 0 ≤ t.r1) (r19 : t.r1 ≤ 90) : ∃ m', F_M_settles m = some ((), m') ∧ WF m' (stl t n) ∧ OnlyF m m' := by
  have hbr := batZ_rng (t := t) f0 f1
  have hld : -90 ≤ leadZ t (batZ t) ∧ leadZ t (batZ t) ≤ 90 := by unfold leadZ; split <;> omega
  have e1 := Mbatter_eq (t := t) (m := m) h.2.1 h.2.2.1 h.2.2.2.1 i0 i3
  have e2 := Mlead_eq (t := t) (m := m) h.2.2.2.2.2.2.1 h.2.2.2.2.2.2.2.1 hbr.1 hbr.2
  -- the end: is the match drawn
  have fin : ∀ (mm : Mem) (u : Mt), WF mm u → OnlyF m mm → -1 ≤ u.win → u.win ≤ 2 → u.pl = t.pl → ∃ m', (bnd (F_M_isOver mm) fun zq10 mq8 => if zq10 = true then (some ((), mq8)) else (bnd (F_M_played mq8) fun xq13 mq11 => bnd (F_M_size mq11) fun xq16 mq14 => if xq13 = xq16 then (lt (sI mq14 79 18 (2 : Int32)) fun mq17 => some ((), mq17)) else (some ((), mq14)))) = some ((), m') ∧ WF m' (Mt.mk u.fi u.inn u.out u.pl (if 0 ≤ u.win then u.win else if n ≤ u.pl then 2 else u.win) u.fol u.fr u.sd u.r0 u.r1 u.lg) ∧ OnlyF m m' := by
    intro mm u hu hO w0 w2 hpl
    have e3 := Mover_eq (t := u) (m := mm) hu.2.2.2.2.2.2.2.2.2 w0 w2
    obtain ⟨d0, d1, d2, d3, d4, d5, d6, d7, d8, d9⟩ := hu
    have hn2 : gI mm 79 0 = iI n := (hO 79 0 (by omega)).trans hn
    rw [bnd_some e3]
    by_cases h0 : 0 ≤ u.win
    · rw [decide_eq_true h0, if_pos rfl, if_pos h0]
      exact ⟨mm, rfl, ⟨d0, d1, d2, d3, d4, d5, d6, d7, d8, d9⟩, hO⟩
    · rw [decide_eq_false h0, if_neg (by decide), if_neg h0]
      unfold F_M_played F_M_size
      rw [bnd_e, bnd_e, d8, hn2]
      by_cases hp : n ≤ u.pl
      · rw [if_pos (by rw [show u.pl = n by omega]), if_pos hp, lt_def]
        refine ⟨_, rfl, ⟨d0, d1, d2, d3, d4, d5, d6, d7, d8, rfl⟩, fun o j hoj => ?_⟩
        rw [gI_sI, if_neg (by omega)]
        exact hO o j hoj
      · rw [if_neg (by rw [iI_eq (by omega) (by omega) (by omega) (by omega)]; omega), if_neg hp]
        exact ⟨mm, rfl, ⟨d0, d1, d2, d3, d4, d5, d6, d7, d8, d9⟩, hO⟩
  unfold F_M_settles
  rw [bnd_some e1, bnd_some e2]
  obtain ⟨c0, c1, c2, c3, c4, c5, c6, c7, c8, c9⟩ := id h
  obtain ⟨k, hk⟩ : ∃ k : Mem → Option (Unit × Mem), k = fun mq7 => (bnd (F_M_isOver mq7) fun zq10 mq8 => if zq10 = true then (some ((), mq8)) else (bnd (F_M_played mq8) fun xq13 mq11 => bnd (F_M_size mq11) fun xq16 mq14 => if xq13 = xq16 then (lt (sI mq14 79 18 (2 : Int32)) fun mq17 => some ((), mq17)) else (some ((), mq14)))) := ⟨_, rfl⟩
  refine (show ∀ x, x = k → ∃ m', (if (gI m 79 11) = (3 : Int32) then (if iI (leadZ t (batZ t)) ≤ 0 then (if (gI m 79 13) = (10 : Int32) then (lt (fun (xq22 : Int32) (mq21 : Mem) => ((lt (sI mq21 79 18 xq22) fun mq23 => x mq23) : Option (Unit × Mem))) fun k66_22 => if iI (leadZ t (batZ t)) = 0 then (k66_22 (2 : Int32) m) else (k66_22 ((1 : Int32) - iI (batZ t)) m)) else (x m)) else (lt (sI m 79 18 (iI (batZ t))) fun mq24 => x mq24)) else (if (gI m 79 13) = (10 : Int32) then (bnd (F_M_nextInnings m) fun _ mq18 => x mq18) else (x m))) = some ((), m') ∧ WF m' (stl t n) ∧ OnlyF m m' from ?_) _ hk.symm
  intro x hx
  rw [hx, c2, c4]
  have fin2 : ∀ (mm : Mem) (u : Mt) (v : Mt), WF mm u → OnlyF m mm → -1 ≤ u.win → u.win ≤ 2 → u.pl = t.pl → v = Mt.mk u.fi u.inn u.out u.pl (if 0 ≤ u.win then u.win else if n ≤ u.pl then 2 else u.win) u.fol u.fr u.sd u.r0 u.r1 u.lg → ∃ m', k mm = some ((), m') ∧ WF m' v ∧ OnlyF m m' := by
    intro mm u v hu hO w0 w2 hpl hv
    rw [hk, hv]
    exact fin mm u hu hO w0 w2 hpl
  have upd : ∀ w : Int, WF (sI m 79 18 (iI w)) (Mt.mk t.fi t.inn t.out t.pl w t.fol t.fr t.sd t.r0 t.r1 t.lg) ∧ OnlyF m (sI m 79 18 (iI w)) := by
    intro w
    refine ⟨⟨c0, c1, c2, c3, c4, c5, c6, c7, c8, rfl⟩, fun o j hoj => ?_⟩
    rw [gI_sI, if_neg (by omega)]
  by_cases h3 : t.inn = 3
  · have hst : stl t n = jd t n := by unfold stl; rw [if_neg (fun q => q.2 h3)]
    rw [hst, if_pos (by rw [h3]; rfl)]
    by_cases h4 : 0 < leadZ t (batZ t)
    · rw [if_neg (by rw [lt0, iI_le (by omega) (by omega) (by omega) (by omega)]; omega), lt_def]
      refine fin2 _ _ _ (upd (batZ t)).1 (upd (batZ t)).2 (show -1 ≤ batZ t by omega) (show batZ t ≤ 2 by omega) rfl ?_
      unfold jd jw
      rw [if_pos ⟨h3, h4⟩]
      show _ = Mt.mk t.fi t.inn t.out t.pl (if 0 ≤ batZ t then batZ t else if n ≤ t.pl then 2 else batZ t) t.fol t.fr t.sd t.r0 t.r1 t.lg
      rw [if_pos hbr.1]
    · rw [if_pos (by rw [lt0, iI_le (by omega) (by omega) (by omega) (by omega)]; omega)]
      by_cases h5 : t.out = 10
      · rw [if_pos (by rw [h5]; rfl), lt_def]
        by_cases h6 : leadZ t (batZ t) = 0
        · rw [if_pos (by rw [h6]; rfl)]
          dsimp only
          rw [lt_def]
          refine fin2 _ _ _ (upd 2).1 (upd 2).2 (show (-1 : Int) ≤ 2 by omega) (show (2 : Int) ≤ 2 by omega) rfl ?_
          unfold jd jw
          rw [if_neg (fun q => h4 q.2), if_pos ⟨h3, h5⟩, if_pos h6]
          rfl
        · rw [if_neg (by rw [lt0, iI_eq (by omega) (by omega) (by omega) (by omega)]; exact h6), lt1, iI_sub]
          dsimp only
          rw [lt_def]
          refine fin2 _ _ _ (upd (1 - batZ t)).1 (upd (1 - batZ t)).2 (show -1 ≤ 1 - batZ t by omega) (show 1 - batZ t ≤ 2 by omega) rfl ?_
          unfold jd jw
          rw [if_neg (fun q => h4 q.2), if_pos ⟨h3, h5⟩, if_neg h6]
          show _ = Mt.mk t.fi t.inn t.out t.pl (if 0 ≤ 1 - batZ t then 1 - batZ t else if n ≤ t.pl then 2 else 1 - batZ t) t.fol t.fr t.sd t.r0 t.r1 t.lg
          rw [if_pos (by omega)]
      · rw [if_neg (by rw [lt10, iI_eq (by omega) (by omega) (by omega) (by omega)]; exact h5)]
        refine fin2 _ _ _ h (fun o j _ => rfl) (by omega) (by omega) rfl ?_
        unfold jd jw
        rw [if_neg (fun q => h4 q.2), if_neg (fun q => h5 q.2), if_neg (show ¬ 0 ≤ t.win by omega)]
  · rw [if_neg (by rw [lt3, iI_eq (by omega) (by omega) (by omega) (by omega)]; exact h3)]
    by_cases h5 : t.out = 10
    · have hst : stl t n = jd (nxI t) n := by unfold stl; rw [if_pos ⟨h5, h3⟩]
      obtain ⟨m2, e3, a3, b3⟩ := Mnext_ok h i0 (by omega) fo f0 f1 r0 r09 r1 r19
      have hb2 := batZ_rng (t := nxI t) f0 f1
      rw [hst, if_pos (by rw [h5]; rfl), bnd_some e3]
      refine fin2 _ _ _ a3 b3 ?_ ?_ rfl ?_
      · show -1 ≤ (if t.inn + 1 = 3 ∧ 0 < leadZ (nxI t) (batZ (nxI t)) then batZ (nxI t) else t.win)
        split <;> omega
      · show (if t.inn + 1 = 3 ∧ 0 < leadZ (nxI t) (batZ (nxI t)) then batZ (nxI t) else t.win) ≤ 2
        split <;> omega
      · unfold jd jw
        show Mt.mk t.fi (t.inn + 1) 0 t.pl (if t.inn + 1 = 3 ∧ 0 < leadZ (nxI t) (batZ (nxI t)) then batZ (nxI t) else if t.inn + 1 = 3 ∧ (0 : Int) = 10 then (if leadZ (nxI t) (batZ (nxI t)) = 0 then 2 else 1 - batZ (nxI t)) else if n ≤ t.pl then 2 else t.win) t.fol true t.sd t.r0 t.r1 t.lg = Mt.mk t.fi (t.inn + 1) 0 t.pl (if 0 ≤ (if t.inn + 1 = 3 ∧ 0 < leadZ (nxI t) (batZ (nxI t)) then batZ (nxI t) else t.win) then (if t.inn + 1 = 3 ∧ 0 < leadZ (nxI t) (batZ (nxI t)) then batZ (nxI t) else t.win) else if n ≤ t.pl then 2 else (if t.inn + 1 = 3 ∧ 0 < leadZ (nxI t) (batZ (nxI t)) then batZ (nxI t) else t.win)) t.fol true t.sd t.r0 t.r1 t.lg
        by_cases h7 : t.inn + 1 = 3 ∧ 0 < leadZ (nxI t) (batZ (nxI t))
        · rw [if_pos h7, if_pos h7, if_pos hb2.1]
        · rw [if_neg h7, if_neg h7, if_neg (fun q => absurd q.2 (by decide)), if_neg (show ¬ 0 ≤ t.win by omega)]
    · have hst : stl t n = jd t n := by unfold stl; rw [if_neg (fun q => h5 q.1)]
      rw [hst, if_neg (by rw [lt10, iI_eq (by omega) (by omega) (by omega) (by omega)]; exact h5)]
      refine fin2 _ _ _ h (fun o j _ => rfl) (by omega) (by omega) rfl ?_
      unfold jd jw
      rw [if_neg (fun q => h3 q.1), if_neg (fun q => h3 q.1), if_neg (show ¬ 0 ≤ t.win by omega)]
end MPLAYS
