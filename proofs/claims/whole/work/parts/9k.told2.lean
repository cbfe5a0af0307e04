section TOLDB
theorem holds_op {B : Nat} {law : Option (List (Int × List Int))} {n mg wd tx bc : Int} {t : Mt} {m : Mem} (h : IV B law n mg wd tx bc t m) (hB6 : B ≤ 1000000) (a : Int32) (fo : Bool) (b c : Int32) : BothZ (B + 1) cd12 (F_T_holds a fo b c) (F_M_holds a fo b c) m := by
  obtain ⟨p, rfl, p1, p2⟩ := iI_ex a
  obtain ⟨l, rfl, l1, l2⟩ := iI_ex b
  obtain ⟨o, rfl, o1, o2⟩ := iI_ex c
  have k_cn := h.gr.cn
  have k_wn := h.gr.wn
  have k_n1 := h.gr.n1
  have k_n9 := h.gr.n9
  unfold BothZ
  by_cases hr : (0 ≤ p ∧ p ≤ n) ∧ (-81 ≤ l ∧ l ≤ 81) ∧ 0 ≤ o ∧ o ≤ 9
  · obtain ⟨⟨hp0, hpn⟩, ⟨hl0, hl1⟩, ho0, ho1⟩ := hr
    obtain ⟨kk1, kk2, kk3, kk4, kk5⟩ := kdZ_eq (i := 3) (fo := fo) (by omega) (by omega)
    obtain ⟨m1, mk, e1, hB, hO, hI, f1⟩ := h.ready hB6 (f := 0) (dw := wd) false (by omega) (by omega) h.gr.dw0 h.gr.dw9
    have e1' : F_Od_ready (0 : Int32) (gI m 3 5) false m = some ((), m1) := by rw [h.gr.cdw]; exact e1
    have ek : F_Od_kindOf (3 : Int32) fo m1 = some (iI (kdZ 3 fo), m1) := TkindOf_eq (i := 3) (by omega) (by omega)
    obtain ⟨b2, m2, e2, rfl, q2⟩ := TchoT_ok hB hO (p := p) (k := kdZ 3 fo) (o := o) (l := l) hp0 (by rw [opOf_n]; exact hpn) kk4 kk5 ho0 (by omega) (by omega) (by omega)
    have iv2 := hI m2 q2
    have hw2 : gI m2 79 = gI m 79 := (Fr_row q2.1.fr rfl rfl).trans (Fr_row f1 rfl rfl)
    have iv2' := iv2.thr (thr_s (v := 0))
    have k_wn2 := iv2.gr.wn
    by_cases hg : p < n
    · obtain ⟨m0, more, hMB, hmo, hcf⟩ := countsFrom_ok iv2' (p := p) (l := l) hp0 hpn hl0 hl1 (w := gI m 79) (by rw [← hw2]; rfl)
      obtain ⟨_, m3, e3, la3, f3⟩ := hcf
      obtain ⟨b4, m4, e4, rfl, la4, f4⟩ := McoS_ok hMB hmo la3 hp0 (by rw [opOf_n]; exact hg) (j := jdZ 3 fo) (o := o) (l := l) kk2 kk3 ho0 (by omega) (by split <;> omega) (by split <;> omega) (by split <;> omega)
      have iv4 := Mscr (Mscr iv2' (Fr_wk f3 (by simp) (by simp))) (Fr_wk f4 (by simp) (by simp))
      have t4 : gI m4 78 0 = iI 0 := by rw [f4.gI (by simp) (by simp), f3.gI (by simp) (by simp)]; rfl
      rw [kk1] at e4
      have em : F_M_kindOf (3 : Int32) fo m3 = some (iI (jdZ 3 fo), m3) := MkindOf_eq (i := 3) (by omega) (by omega)
      repeat' (first
        | (with_reducible refine ok_ck ?_ ?_; focus (simp (disch := omega) only [↓lt_def, ↓reduceIte, ckB_true, bnd_e, Int.reduceAdd, Int.reduceSub, Int.reduceMul, Int.reduceNeg, Int.reduceToNat, Bool.false_eq_true, eq_self, not_false_eq_true, not_true_eq_false, Int.toNat_natCast, lt0, lt1, lt2, lt3, lt4, lt5, lt6, lt7, lt8, lt9, lt10, lt11, lt12, lt13, lt14, lt15, lt16, lt17, lt18, lt19, lt20, lt21, lt22, lt23, lt24, lt25, lt26, lt27, lt28, lt29, lt30, lt31, lt32, lt40, lt41, lt43, lt48, lt55, lt57, lt59, lt60, lt62, lt63, lt64, lt70, lt72, lt81, lt97, lt99, lt100, lt122, lt162, lt180, lt235, lt255, lt298, lt299, lt325, lt335, lt400, lt837, lt999, lt1000, lt1001, lt1002, lt1003, lt1004, lt1005, lt1006, lt1007, lt1008, lt1100, lt1101, lt1102, lt1103, lt1104, lt1105, lt1135, lt1136, lt1172, lt2000, lt3278, lt3575, lt10000, lt12345, lt21450, lt32767, lt193050, lt1103515245, ltm162, ltm99, ltm81, ltm8, ltm1, iI_add, iI_sub, iI_mul, iI_neg, iI_divn, iI_lt_t, iI_lt_f, iI_le_t, iI_le_f, iI_eq_t, iI_eq_f, iI_lt, iI_le, iI_eq, iI_idx, iI_inb, gI_sI, gL_sL, gZ_sZ, gI_sL, gI_sZ, gL_sI, gL_sZ, gZ_sI, gZ_sL, Nat.reduceEqDiff, false_and, and_false, and_true, true_and, and_self, k_cn, k_wn, k_wn2]; done))
        | (with_reducible refine ok_bnd_e (e1') ?_)
        | (with_reducible refine ok_bnd_e (ek) ?_)
        | (with_reducible refine ok_bnd_e (e2) ?_)
        | (with_reducible refine ok_bnd_e (e3) ?_)
        | (with_reducible refine ok_bnd_e (em) ?_)
        | (with_reducible refine ok_bnd_e (e4) ?_)
        | (with_reducible refine ok_bnd ?_)
        | (with_reducible refine ok_bndX ?_)
        | (with_reducible refine ok_lt ?_)
        | (with_reducible refine ok_t ?_ ?_; focus (simp (disch := omega) only [↓lt_def, ↓reduceIte, ckB_true, bnd_e, Int.reduceAdd, Int.reduceSub, Int.reduceMul, Int.reduceNeg, Int.reduceToNat, Bool.false_eq_true, eq_self, not_false_eq_true, not_true_eq_false, Int.toNat_natCast, lt0, lt1, lt2, lt3, lt4, lt5, lt6, lt7, lt8, lt9, lt10, lt11, lt12, lt13, lt14, lt15, lt16, lt17, lt18, lt19, lt20, lt21, lt22, lt23, lt24, lt25, lt26, lt27, lt28, lt29, lt30, lt31, lt32, lt40, lt41, lt43, lt48, lt55, lt57, lt59, lt60, lt62, lt63, lt64, lt70, lt72, lt81, lt97, lt99, lt100, lt122, lt162, lt180, lt235, lt255, lt298, lt299, lt325, lt335, lt400, lt837, lt999, lt1000, lt1001, lt1002, lt1003, lt1004, lt1005, lt1006, lt1007, lt1008, lt1100, lt1101, lt1102, lt1103, lt1104, lt1105, lt1135, lt1136, lt1172, lt2000, lt3278, lt3575, lt10000, lt12345, lt21450, lt32767, lt193050, lt1103515245, ltm162, ltm99, ltm81, ltm8, ltm1, iI_add, iI_sub, iI_mul, iI_neg, iI_divn, iI_lt_t, iI_lt_f, iI_le_t, iI_le_f, iI_eq_t, iI_eq_f, iI_lt, iI_le, iI_eq, iI_idx, iI_inb, gI_sI, gL_sL, gZ_sZ, gI_sL, gI_sZ, gL_sI, gL_sZ, gZ_sI, gZ_sL, Nat.reduceEqDiff, false_and, and_false, and_true, true_and, and_self, k_cn, k_wn, k_wn2]; done))
        | (with_reducible refine ok_f ?_ ?_; focus (simp (disch := omega) only [↓lt_def, ↓reduceIte, ckB_true, bnd_e, Int.reduceAdd, Int.reduceSub, Int.reduceMul, Int.reduceNeg, Int.reduceToNat, Bool.false_eq_true, eq_self, not_false_eq_true, not_true_eq_false, Int.toNat_natCast, lt0, lt1, lt2, lt3, lt4, lt5, lt6, lt7, lt8, lt9, lt10, lt11, lt12, lt13, lt14, lt15, lt16, lt17, lt18, lt19, lt20, lt21, lt22, lt23, lt24, lt25, lt26, lt27, lt28, lt29, lt30, lt31, lt32, lt40, lt41, lt43, lt48, lt55, lt57, lt59, lt60, lt62, lt63, lt64, lt70, lt72, lt81, lt97, lt99, lt100, lt122, lt162, lt180, lt235, lt255, lt298, lt299, lt325, lt335, lt400, lt837, lt999, lt1000, lt1001, lt1002, lt1003, lt1004, lt1005, lt1006, lt1007, lt1008, lt1100, lt1101, lt1102, lt1103, lt1104, lt1105, lt1135, lt1136, lt1172, lt2000, lt3278, lt3575, lt10000, lt12345, lt21450, lt32767, lt193050, lt1103515245, ltm162, ltm99, ltm81, ltm8, ltm1, iI_add, iI_sub, iI_mul, iI_neg, iI_divn, iI_lt_t, iI_lt_f, iI_le_t, iI_le_f, iI_eq_t, iI_eq_f, iI_lt, iI_le, iI_eq, iI_idx, iI_inb, gI_sI, gL_sL, gZ_sZ, gI_sL, gI_sZ, gL_sI, gL_sZ, gZ_sI, gZ_sL, Nat.reduceEqDiff, false_and, and_false, and_true, true_and, and_self, k_cn, k_wn, k_wn2]; done))
        | ((with_reducible refine ok_ite (fun hc => ?_) (fun hc => ?_)) <;> (try simp (disch := omega) only [↓lt_def, ↓reduceIte, ckB_true, bnd_e, Int.reduceAdd, Int.reduceSub, Int.reduceMul, Int.reduceNeg, Int.reduceToNat, Bool.false_eq_true, eq_self, not_false_eq_true, not_true_eq_false, Int.toNat_natCast, lt0, lt1, lt2, lt3, lt4, lt5, lt6, lt7, lt8, lt9, lt10, lt11, lt12, lt13, lt14, lt15, lt16, lt17, lt18, lt19, lt20, lt21, lt22, lt23, lt24, lt25, lt26, lt27, lt28, lt29, lt30, lt31, lt32, lt40, lt41, lt43, lt48, lt55, lt57, lt59, lt60, lt62, lt63, lt64, lt70, lt72, lt81, lt97, lt99, lt100, lt122, lt162, lt180, lt235, lt255, lt298, lt299, lt325, lt335, lt400, lt837, lt999, lt1000, lt1001, lt1002, lt1003, lt1004, lt1005, lt1006, lt1007, lt1008, lt1100, lt1101, lt1102, lt1103, lt1104, lt1105, lt1135, lt1136, lt1172, lt2000, lt3278, lt3575, lt10000, lt12345, lt21450, lt32767, lt193050, lt1103515245, ltm162, ltm99, ltm81, ltm8, ltm1, iI_add, iI_sub, iI_mul, iI_neg, iI_divn, iI_lt_t, iI_lt_f, iI_le_t, iI_le_f, iI_eq_t, iI_eq_f, iI_lt, iI_le, iI_eq, iI_idx, iI_inb, gI_sI, gL_sL, gZ_sZ, gI_sL, gI_sZ, gL_sI, gL_sZ, gZ_sI, gZ_sL, Nat.reduceEqDiff, false_and, and_false, and_true, true_and, and_self, k_cn, k_wn, k_wn2] at hc) <;> (try (exfalso; omega)))
        | (with_reducible refine ok_some ?_)
        | (with_reducible refine ok_xr ?_)
        | (with_reducible refine ok_xl ?_)
        | (unfold F_T_holds)
        | (unfold F_T_mustBeState)
        | (unfold F_T_mustBeBelow)
        | (unfold F_M_holds)
        | (unfold F_M_noPlayed)
        | (unfold F_M_noState)
        | (unfold F_M_size)
        | (unfold F_M_in)
        | (unfold F_M_throwsIf))
      exact ⟨⟨t4, rfl⟩, iv4.inv⟩
    · have hz : cho (opOf (gI m 79) law n mg 0 wd false) p (kdZ 3 fo) o l = false := by
        unfold cho
        rw [decide_eq_false]
        intro q
        have q1 := q.1
        rw [opOf_n] at q1
        omega
      rw [hz] at e2
      repeat' (first
        | (with_reducible refine ok_ck ?_ ?_; focus (simp (disch := omega) only [↓lt_def, ↓reduceIte, ckB_true, bnd_e, Int.reduceAdd, Int.reduceSub, Int.reduceMul, Int.reduceNeg, Int.reduceToNat, Bool.false_eq_true, eq_self, not_false_eq_true, not_true_eq_false, Int.toNat_natCast, lt0, lt1, lt2, lt3, lt4, lt5, lt6, lt7, lt8, lt9, lt10, lt11, lt12, lt13, lt14, lt15, lt16, lt17, lt18, lt19, lt20, lt21, lt22, lt23, lt24, lt25, lt26, lt27, lt28, lt29, lt30, lt31, lt32, lt40, lt41, lt43, lt48, lt55, lt57, lt59, lt60, lt62, lt63, lt64, lt70, lt72, lt81, lt97, lt99, lt100, lt122, lt162, lt180, lt235, lt255, lt298, lt299, lt325, lt335, lt400, lt837, lt999, lt1000, lt1001, lt1002, lt1003, lt1004, lt1005, lt1006, lt1007, lt1008, lt1100, lt1101, lt1102, lt1103, lt1104, lt1105, lt1135, lt1136, lt1172, lt2000, lt3278, lt3575, lt10000, lt12345, lt21450, lt32767, lt193050, lt1103515245, ltm162, ltm99, ltm81, ltm8, ltm1, iI_add, iI_sub, iI_mul, iI_neg, iI_divn, iI_lt_t, iI_lt_f, iI_le_t, iI_le_f, iI_eq_t, iI_eq_f, iI_lt, iI_le, iI_eq, iI_idx, iI_inb, gI_sI, gL_sL, gZ_sZ, gI_sL, gI_sZ, gL_sI, gL_sZ, gZ_sI, gZ_sL, Nat.reduceEqDiff, false_and, and_false, and_true, true_and, and_self, k_cn, k_wn, k_wn2]; done))
        | (with_reducible refine ok_bnd_e (e1') ?_)
        | (with_reducible refine ok_bnd_e (ek) ?_)
        | (with_reducible refine ok_bnd_e (e2) ?_)
        | (with_reducible refine ok_bnd ?_)
        | (with_reducible refine ok_bndX ?_)
        | (with_reducible refine ok_lt ?_)
        | (with_reducible refine ok_t ?_ ?_; focus (simp (disch := omega) only [↓lt_def, ↓reduceIte, ckB_true, bnd_e, Int.reduceAdd, Int.reduceSub, Int.reduceMul, Int.reduceNeg, Int.reduceToNat, Bool.false_eq_true, eq_self, not_false_eq_true, not_true_eq_false, Int.toNat_natCast, lt0, lt1, lt2, lt3, lt4, lt5, lt6, lt7, lt8, lt9, lt10, lt11, lt12, lt13, lt14, lt15, lt16, lt17, lt18, lt19, lt20, lt21, lt22, lt23, lt24, lt25, lt26, lt27, lt28, lt29, lt30, lt31, lt32, lt40, lt41, lt43, lt48, lt55, lt57, lt59, lt60, lt62, lt63, lt64, lt70, lt72, lt81, lt97, lt99, lt100, lt122, lt162, lt180, lt235, lt255, lt298, lt299, lt325, lt335, lt400, lt837, lt999, lt1000, lt1001, lt1002, lt1003, lt1004, lt1005, lt1006, lt1007, lt1008, lt1100, lt1101, lt1102, lt1103, lt1104, lt1105, lt1135, lt1136, lt1172, lt2000, lt3278, lt3575, lt10000, lt12345, lt21450, lt32767, lt193050, lt1103515245, ltm162, ltm99, ltm81, ltm8, ltm1, iI_add, iI_sub, iI_mul, iI_neg, iI_divn, iI_lt_t, iI_lt_f, iI_le_t, iI_le_f, iI_eq_t, iI_eq_f, iI_lt, iI_le, iI_eq, iI_idx, iI_inb, gI_sI, gL_sL, gZ_sZ, gI_sL, gI_sZ, gL_sI, gL_sZ, gZ_sI, gZ_sL, Nat.reduceEqDiff, false_and, and_false, and_true, true_and, and_self, k_cn, k_wn, k_wn2]; done))
        | (with_reducible refine ok_f ?_ ?_; focus (simp (disch := omega) only [↓lt_def, ↓reduceIte, ckB_true, bnd_e, Int.reduceAdd, Int.reduceSub, Int.reduceMul, Int.reduceNeg, Int.reduceToNat, Bool.false_eq_true, eq_self, not_false_eq_true, not_true_eq_false, Int.toNat_natCast, lt0, lt1, lt2, lt3, lt4, lt5, lt6, lt7, lt8, lt9, lt10, lt11, lt12, lt13, lt14, lt15, lt16, lt17, lt18, lt19, lt20, lt21, lt22, lt23, lt24, lt25, lt26, lt27, lt28, lt29, lt30, lt31, lt32, lt40, lt41, lt43, lt48, lt55, lt57, lt59, lt60, lt62, lt63, lt64, lt70, lt72, lt81, lt97, lt99, lt100, lt122, lt162, lt180, lt235, lt255, lt298, lt299, lt325, lt335, lt400, lt837, lt999, lt1000, lt1001, lt1002, lt1003, lt1004, lt1005, lt1006, lt1007, lt1008, lt1100, lt1101, lt1102, lt1103, lt1104, lt1105, lt1135, lt1136, lt1172, lt2000, lt3278, lt3575, lt10000, lt12345, lt21450, lt32767, lt193050, lt1103515245, ltm162, ltm99, ltm81, ltm8, ltm1, iI_add, iI_sub, iI_mul, iI_neg, iI_divn, iI_lt_t, iI_lt_f, iI_le_t, iI_le_f, iI_eq_t, iI_eq_f, iI_lt, iI_le, iI_eq, iI_idx, iI_inb, gI_sI, gL_sL, gZ_sZ, gI_sL, gI_sZ, gL_sI, gL_sZ, gZ_sI, gZ_sL, Nat.reduceEqDiff, false_and, and_false, and_true, true_and, and_self, k_cn, k_wn, k_wn2]; done))
        | ((with_reducible refine ok_ite (fun hc => ?_) (fun hc => ?_)) <;> (try simp (disch := omega) only [↓lt_def, ↓reduceIte, ckB_true, bnd_e, Int.reduceAdd, Int.reduceSub, Int.reduceMul, Int.reduceNeg, Int.reduceToNat, Bool.false_eq_true, eq_self, not_false_eq_true, not_true_eq_false, Int.toNat_natCast, lt0, lt1, lt2, lt3, lt4, lt5, lt6, lt7, lt8, lt9, lt10, lt11, lt12, lt13, lt14, lt15, lt16, lt17, lt18, lt19, lt20, lt21, lt22, lt23, lt24, lt25, lt26, lt27, lt28, lt29, lt30, lt31, lt32, lt40, lt41, lt43, lt48, lt55, lt57, lt59, lt60, lt62, lt63, lt64, lt70, lt72, lt81, lt97, lt99, lt100, lt122, lt162, lt180, lt235, lt255, lt298, lt299, lt325, lt335, lt400, lt837, lt999, lt1000, lt1001, lt1002, lt1003, lt1004, lt1005, lt1006, lt1007, lt1008, lt1100, lt1101, lt1102, lt1103, lt1104, lt1105, lt1135, lt1136, lt1172, lt2000, lt3278, lt3575, lt10000, lt12345, lt21450, lt32767, lt193050, lt1103515245, ltm162, ltm99, ltm81, ltm8, ltm1, iI_add, iI_sub, iI_mul, iI_neg, iI_divn, iI_lt_t, iI_lt_f, iI_le_t, iI_le_f, iI_eq_t, iI_eq_f, iI_lt, iI_le, iI_eq, iI_idx, iI_inb, gI_sI, gL_sL, gZ_sZ, gI_sL, gI_sZ, gL_sI, gL_sZ, gZ_sI, gZ_sL, Nat.reduceEqDiff, false_and, and_false, and_true, true_and, and_self, k_cn, k_wn, k_wn2] at hc) <;> (try (exfalso; omega)))
        | (with_reducible refine ok_some ?_)
        | (with_reducible refine ok_xr ?_)
        | (with_reducible refine ok_xl ?_)
        | (unfold F_T_holds)
        | (unfold F_T_mustBeState)
        | (unfold F_T_mustBeBelow)
        | (unfold F_M_holds)
        | (unfold F_M_noPlayed)
        | (unfold F_M_noState)
        | (unfold F_M_size)
        | (unfold F_M_in)
        | (unfold F_M_throwsIf))
      all_goals exact ⟨⟨rfl, rfl⟩, iv2'.inv⟩
  · skip
    repeat' (first
      | (with_reducible refine ok_ck ?_ ?_; focus (simp (disch := omega) only [↓lt_def, ↓reduceIte, ckB_true, bnd_e, Int.reduceAdd, Int.reduceSub, Int.reduceMul, Int.reduceNeg, Int.reduceToNat, Bool.false_eq_true, eq_self, not_false_eq_true, not_true_eq_false, Int.toNat_natCast, lt0, lt1, lt2, lt3, lt4, lt5, lt6, lt7, lt8, lt9, lt10, lt11, lt12, lt13, lt14, lt15, lt16, lt17, lt18, lt19, lt20, lt21, lt22, lt23, lt24, lt25, lt26, lt27, lt28, lt29, lt30, lt31, lt32, lt40, lt41, lt43, lt48, lt55, lt57, lt59, lt60, lt62, lt63, lt64, lt70, lt72, lt81, lt97, lt99, lt100, lt122, lt162, lt180, lt235, lt255, lt298, lt299, lt325, lt335, lt400, lt837, lt999, lt1000, lt1001, lt1002, lt1003, lt1004, lt1005, lt1006, lt1007, lt1008, lt1100, lt1101, lt1102, lt1103, lt1104, lt1105, lt1135, lt1136, lt1172, lt2000, lt3278, lt3575, lt10000, lt12345, lt21450, lt32767, lt193050, lt1103515245, ltm162, ltm99, ltm81, ltm8, ltm1, iI_add, iI_sub, iI_mul, iI_neg, iI_divn, iI_lt_t, iI_lt_f, iI_le_t, iI_le_f, iI_eq_t, iI_eq_f, iI_lt, iI_le, iI_eq, iI_idx, iI_inb, gI_sI, gL_sL, gZ_sZ, gI_sL, gI_sZ, gL_sI, gL_sZ, gZ_sI, gZ_sL, Nat.reduceEqDiff, false_and, and_false, and_true, true_and, and_self, k_cn, k_wn]; done))
      | (with_reducible refine ok_bnd ?_)
      | (with_reducible refine ok_bndX ?_)
      | (with_reducible refine ok_lt ?_)
      | (with_reducible refine ok_t ?_ ?_; focus (simp (disch := omega) only [↓lt_def, ↓reduceIte, ckB_true, bnd_e, Int.reduceAdd, Int.reduceSub, Int.reduceMul, Int.reduceNeg, Int.reduceToNat, Bool.false_eq_true, eq_self, not_false_eq_true, not_true_eq_false, Int.toNat_natCast, lt0, lt1, lt2, lt3, lt4, lt5, lt6, lt7, lt8, lt9, lt10, lt11, lt12, lt13, lt14, lt15, lt16, lt17, lt18, lt19, lt20, lt21, lt22, lt23, lt24, lt25, lt26, lt27, lt28, lt29, lt30, lt31, lt32, lt40, lt41, lt43, lt48, lt55, lt57, lt59, lt60, lt62, lt63, lt64, lt70, lt72, lt81, lt97, lt99, lt100, lt122, lt162, lt180, lt235, lt255, lt298, lt299, lt325, lt335, lt400, lt837, lt999, lt1000, lt1001, lt1002, lt1003, lt1004, lt1005, lt1006, lt1007, lt1008, lt1100, lt1101, lt1102, lt1103, lt1104, lt1105, lt1135, lt1136, lt1172, lt2000, lt3278, lt3575, lt10000, lt12345, lt21450, lt32767, lt193050, lt1103515245, ltm162, ltm99, ltm81, ltm8, ltm1, iI_add, iI_sub, iI_mul, iI_neg, iI_divn, iI_lt_t, iI_lt_f, iI_le_t, iI_le_f, iI_eq_t, iI_eq_f, iI_lt, iI_le, iI_eq, iI_idx, iI_inb, gI_sI, gL_sL, gZ_sZ, gI_sL, gI_sZ, gL_sI, gL_sZ, gZ_sI, gZ_sL, Nat.reduceEqDiff, false_and, and_false, and_true, true_and, and_self, k_cn, k_wn]; done))
      | (with_reducible refine ok_f ?_ ?_; focus (simp (disch := omega) only [↓lt_def, ↓reduceIte, ckB_true, bnd_e, Int.reduceAdd, Int.reduceSub, Int.reduceMul, Int.reduceNeg, Int.reduceToNat, Bool.false_eq_true, eq_self, not_false_eq_true, not_true_eq_false, Int.toNat_natCast, lt0, lt1, lt2, lt3, lt4, lt5, lt6, lt7, lt8, lt9, lt10, lt11, lt12, lt13, lt14, lt15, lt16, lt17, lt18, lt19, lt20, lt21, lt22, lt23, lt24, lt25, lt26, lt27, lt28, lt29, lt30, lt31, lt32, lt40, lt41, lt43, lt48, lt55, lt57, lt59, lt60, lt62, lt63, lt64, lt70, lt72, lt81, lt97, lt99, lt100, lt122, lt162, lt180, lt235, lt255, lt298, lt299, lt325, lt335, lt400, lt837, lt999, lt1000, lt1001, lt1002, lt1003, lt1004, lt1005, lt1006, lt1007, lt1008, lt1100, lt1101, lt1102, lt1103, lt1104, lt1105, lt1135, lt1136, lt1172, lt2000, lt3278, lt3575, lt10000, lt12345, lt21450, lt32767, lt193050, lt1103515245, ltm162, ltm99, ltm81, ltm8, ltm1, iI_add, iI_sub, iI_mul, iI_neg, iI_divn, iI_lt_t, iI_lt_f, iI_le_t, iI_le_f, iI_eq_t, iI_eq_f, iI_lt, iI_le, iI_eq, iI_idx, iI_inb, gI_sI, gL_sL, gZ_sZ, gI_sL, gI_sZ, gL_sI, gL_sZ, gZ_sI, gZ_sL, Nat.reduceEqDiff, false_and, and_false, and_true, true_and, and_self, k_cn, k_wn]; done))
      | ((with_reducible refine ok_ite (fun hc => ?_) (fun hc => ?_)) <;> (try simp (disch := omega) only [↓lt_def, ↓reduceIte, ckB_true, bnd_e, Int.reduceAdd, Int.reduceSub, Int.reduceMul, Int.reduceNeg, Int.reduceToNat, Bool.false_eq_true, eq_self, not_false_eq_true, not_true_eq_false, Int.toNat_natCast, lt0, lt1, lt2, lt3, lt4, lt5, lt6, lt7, lt8, lt9, lt10, lt11, lt12, lt13, lt14, lt15, lt16, lt17, lt18, lt19, lt20, lt21, lt22, lt23, lt24, lt25, lt26, lt27, lt28, lt29, lt30, lt31, lt32, lt40, lt41, lt43, lt48, lt55, lt57, lt59, lt60, lt62, lt63, lt64, lt70, lt72, lt81, lt97, lt99, lt100, lt122, lt162, lt180, lt235, lt255, lt298, lt299, lt325, lt335, lt400, lt837, lt999, lt1000, lt1001, lt1002, lt1003, lt1004, lt1005, lt1006, lt1007, lt1008, lt1100, lt1101, lt1102, lt1103, lt1104, lt1105, lt1135, lt1136, lt1172, lt2000, lt3278, lt3575, lt10000, lt12345, lt21450, lt32767, lt193050, lt1103515245, ltm162, ltm99, ltm81, ltm8, ltm1, iI_add, iI_sub, iI_mul, iI_neg, iI_divn, iI_lt_t, iI_lt_f, iI_le_t, iI_le_f, iI_eq_t, iI_eq_f, iI_lt, iI_le, iI_eq, iI_idx, iI_inb, gI_sI, gL_sL, gZ_sZ, gI_sL, gI_sZ, gL_sI, gL_sZ, gZ_sI, gZ_sL, Nat.reduceEqDiff, false_and, and_false, and_true, true_and, and_self, k_cn, k_wn] at hc) <;> (try (exfalso; omega)))
      | (with_reducible refine ok_some ?_)
      | (with_reducible refine ok_xr ?_)
      | (with_reducible refine ok_xl ?_)
      | (unfold F_T_holds)
      | (unfold F_T_mustBeState)
      | (unfold F_T_mustBeBelow)
      | (unfold F_M_holds)
      | (unfold F_M_noPlayed)
      | (unfold F_M_noState)
      | (unfold F_M_size)
      | (unfold F_M_in)
      | (unfold F_M_throwsIf))
    all_goals exact ⟨ansZ_l (by decide) rfl, ((h.thr thr_ss).up (by omega)).inv⟩
theorem declares_op {B : Nat} {law : Option (List (Int × List Int))} {n mg wd tx bc : Int} {t : Mt} {m : Mem} (h : IV B law n mg wd tx bc t m) (hB6 : B ≤ 1000000) (a d : Int32) (fo : Bool) (b c : Int32) : BothZ (B + 1) cd12 (F_T_declares a d fo b c) (F_M_declares a d fo b c) m := by
  obtain ⟨p, rfl, p1, p2⟩ := iI_ex a
  obtain ⟨i, rfl, i1, i2⟩ := iI_ex d
  obtain ⟨l, rfl, l1, l2⟩ := iI_ex b
  obtain ⟨o, rfl, o1, o2⟩ := iI_ex c
  have k_cn := h.gr.cn
  have k_wn := h.gr.wn
  have k_n1 := h.gr.n1
  have k_n9 := h.gr.n9
  unfold BothZ
  by_cases hr : (0 ≤ p ∧ p ≤ n) ∧ (0 ≤ i ∧ i ≤ 3) ∧ (-81 ≤ l ∧ l ≤ 81) ∧ 0 ≤ o ∧ o ≤ 9
  · obtain ⟨⟨hp0, hpn⟩, ⟨hi0, hi1⟩, ⟨hl0, hl1⟩, ho0, ho1⟩ := hr
    obtain ⟨kk1, kk2, kk3, kk4, kk5⟩ := kdZ_eq (i := i) (fo := fo) hi0 hi1
    obtain ⟨m1, mk, e1, hB, hO, hI, f1⟩ := h.ready hB6 (f := 0) (dw := wd) false (by omega) (by omega) h.gr.dw0 h.gr.dw9
    have e1' : F_Od_ready (0 : Int32) (gI m 3 5) false m = some ((), m1) := by rw [h.gr.cdw]; exact e1
    by_cases hi3 : i = 3
    · have iv1 := hI m1 hO
      have iv1' := iv1.thr (thr_s (v := 0))
      have k_wn2 := iv1.gr.wn
      repeat' (first
        | (with_reducible refine ok_ck ?_ ?_; focus (simp (disch := omega) only [↓lt_def, ↓reduceIte, ckB_true, bnd_e, Int.reduceAdd, Int.reduceSub, Int.reduceMul, Int.reduceNeg, Int.reduceToNat, Bool.false_eq_true, eq_self, not_false_eq_true, not_true_eq_false, Int.toNat_natCast, lt0, lt1, lt2, lt3, lt4, lt5, lt6, lt7, lt8, lt9, lt10, lt11, lt12, lt13, lt14, lt15, lt16, lt17, lt18, lt19, lt20, lt21, lt22, lt23, lt24, lt25, lt26, lt27, lt28, lt29, lt30, lt31, lt32, lt40, lt41, lt43, lt48, lt55, lt57, lt59, lt60, lt62, lt63, lt64, lt70, lt72, lt81, lt97, lt99, lt100, lt122, lt162, lt180, lt235, lt255, lt298, lt299, lt325, lt335, lt400, lt837, lt999, lt1000, lt1001, lt1002, lt1003, lt1004, lt1005, lt1006, lt1007, lt1008, lt1100, lt1101, lt1102, lt1103, lt1104, lt1105, lt1135, lt1136, lt1172, lt2000, lt3278, lt3575, lt10000, lt12345, lt21450, lt32767, lt193050, lt1103515245, ltm162, ltm99, ltm81, ltm8, ltm1, iI_add, iI_sub, iI_mul, iI_neg, iI_divn, iI_lt_t, iI_lt_f, iI_le_t, iI_le_f, iI_eq_t, iI_eq_f, iI_lt, iI_le, iI_eq, iI_idx, iI_inb, gI_sI, gL_sL, gZ_sZ, gI_sL, gI_sZ, gL_sI, gL_sZ, gZ_sI, gZ_sL, Nat.reduceEqDiff, false_and, and_false, and_true, true_and, and_self, k_cn, k_wn, k_wn2]; done))
        | (with_reducible refine ok_bnd_e (e1') ?_)
        | (with_reducible refine ok_bnd ?_)
        | (with_reducible refine ok_bndX ?_)
        | (with_reducible refine ok_lt ?_)
        | (with_reducible refine ok_t ?_ ?_; focus (simp (disch := omega) only [↓lt_def, ↓reduceIte, ckB_true, bnd_e, Int.reduceAdd, Int.reduceSub, Int.reduceMul, Int.reduceNeg, Int.reduceToNat, Bool.false_eq_true, eq_self, not_false_eq_true, not_true_eq_false, Int.toNat_natCast, lt0, lt1, lt2, lt3, lt4, lt5, lt6, lt7, lt8, lt9, lt10, lt11, lt12, lt13, lt14, lt15, lt16, lt17, lt18, lt19, lt20, lt21, lt22, lt23, lt24, lt25, lt26, lt27, lt28, lt29, lt30, lt31, lt32, lt40, lt41, lt43, lt48, lt55, lt57, lt59, lt60, lt62, lt63, lt64, lt70, lt72, lt81, lt97, lt99, lt100, lt122, lt162, lt180, lt235, lt255, lt298, lt299, lt325, lt335, lt400, lt837, lt999, lt1000, lt1001, lt1002, lt1003, lt1004, lt1005, lt1006, lt1007, lt1008, lt1100, lt1101, lt1102, lt1103, lt1104, lt1105, lt1135, lt1136, lt1172, lt2000, lt3278, lt3575, lt10000, lt12345, lt21450, lt32767, lt193050, lt1103515245, ltm162, ltm99, ltm81, ltm8, ltm1, iI_add, iI_sub, iI_mul, iI_neg, iI_divn, iI_lt_t, iI_lt_f, iI_le_t, iI_le_f, iI_eq_t, iI_eq_f, iI_lt, iI_le, iI_eq, iI_idx, iI_inb, gI_sI, gL_sL, gZ_sZ, gI_sL, gI_sZ, gL_sI, gL_sZ, gZ_sI, gZ_sL, Nat.reduceEqDiff, false_and, and_false, and_true, true_and, and_self, k_cn, k_wn, k_wn2]; done))
        | (with_reducible refine ok_f ?_ ?_; focus (simp (disch := omega) only [↓lt_def, ↓reduceIte, ckB_true, bnd_e, Int.reduceAdd, Int.reduceSub, Int.reduceMul, Int.reduceNeg, Int.reduceToNat, Bool.false_eq_true, eq_self, not_false_eq_true, not_true_eq_false, Int.toNat_natCast, lt0, lt1, lt2, lt3, lt4, lt5, lt6, lt7, lt8, lt9, lt10, lt11, lt12, lt13, lt14, lt15, lt16, lt17, lt18, lt19, lt20, lt21, lt22, lt23, lt24, lt25, lt26, lt27, lt28, lt29, lt30, lt31, lt32, lt40, lt41, lt43, lt48, lt55, lt57, lt59, lt60, lt62, lt63, lt64, lt70, lt72, lt81, lt97, lt99, lt100, lt122, lt162, lt180, lt235, lt255, lt298, lt299, lt325, lt335, lt400, lt837, lt999, lt1000, lt1001, lt1002, lt1003, lt1004, lt1005, lt1006, lt1007, lt1008, lt1100, lt1101, lt1102, lt1103, lt1104, lt1105, lt1135, lt1136, lt1172, lt2000, lt3278, lt3575, lt10000, lt12345, lt21450, lt32767, lt193050, lt1103515245, ltm162, ltm99, ltm81, ltm8, ltm1, iI_add, iI_sub, iI_mul, iI_neg, iI_divn, iI_lt_t, iI_lt_f, iI_le_t, iI_le_f, iI_eq_t, iI_eq_f, iI_lt, iI_le, iI_eq, iI_idx, iI_inb, gI_sI, gL_sL, gZ_sZ, gI_sL, gI_sZ, gL_sI, gL_sZ, gZ_sI, gZ_sL, Nat.reduceEqDiff, false_and, and_false, and_true, true_and, and_self, k_cn, k_wn, k_wn2]; done))
        | ((with_reducible refine ok_ite (fun hc => ?_) (fun hc => ?_)) <;> (try simp (disch := omega) only [↓lt_def, ↓reduceIte, ckB_true, bnd_e, Int.reduceAdd, Int.reduceSub, Int.reduceMul, Int.reduceNeg, Int.reduceToNat, Bool.false_eq_true, eq_self, not_false_eq_true, not_true_eq_false, Int.toNat_natCast, lt0, lt1, lt2, lt3, lt4, lt5, lt6, lt7, lt8, lt9, lt10, lt11, lt12, lt13, lt14, lt15, lt16, lt17, lt18, lt19, lt20, lt21, lt22, lt23, lt24, lt25, lt26, lt27, lt28, lt29, lt30, lt31, lt32, lt40, lt41, lt43, lt48, lt55, lt57, lt59, lt60, lt62, lt63, lt64, lt70, lt72, lt81, lt97, lt99, lt100, lt122, lt162, lt180, lt235, lt255, lt298, lt299, lt325, lt335, lt400, lt837, lt999, lt1000, lt1001, lt1002, lt1003, lt1004, lt1005, lt1006, lt1007, lt1008, lt1100, lt1101, lt1102, lt1103, lt1104, lt1105, lt1135, lt1136, lt1172, lt2000, lt3278, lt3575, lt10000, lt12345, lt21450, lt32767, lt193050, lt1103515245, ltm162, ltm99, ltm81, ltm8, ltm1, iI_add, iI_sub, iI_mul, iI_neg, iI_divn, iI_lt_t, iI_lt_f, iI_le_t, iI_le_f, iI_eq_t, iI_eq_f, iI_lt, iI_le, iI_eq, iI_idx, iI_inb, gI_sI, gL_sL, gZ_sZ, gI_sL, gI_sZ, gL_sI, gL_sZ, gZ_sI, gZ_sL, Nat.reduceEqDiff, false_and, and_false, and_true, true_and, and_self, k_cn, k_wn, k_wn2] at hc) <;> (try (exfalso; omega)))
        | (with_reducible refine ok_some ?_)
        | (with_reducible refine ok_xr ?_)
        | (with_reducible refine ok_xl ?_)
        | (unfold F_T_declares)
        | (unfold F_T_mustBeState)
        | (unfold F_T_mustBeBelow)
        | (unfold F_M_declares)
        | (unfold F_M_noPlayed)
        | (unfold F_M_noInnings)
        | (unfold F_M_noState)
        | (unfold F_M_size)
        | (unfold F_M_in)
        | (unfold F_M_throwsIf))
      all_goals exact ⟨⟨rfl, rfl⟩, iv1'.inv⟩
    · have ek : F_Od_kindOf (iI i) fo m1 = some (iI (kdZ i fo), m1) := TkindOf_eq hi0 hi1
      obtain ⟨b2, m2, e2, rfl, q2⟩ := TchoT_ok hB hO (p := p) (k := kdZ i fo) (o := o) (l := l) hp0 (by rw [opOf_n]; exact hpn) kk4 kk5 ho0 (by omega) (by omega) (by omega)
      have iv2 := hI m2 q2
      have hw2 : gI m2 79 = gI m 79 := (Fr_row q2.1.fr rfl rfl).trans (Fr_row f1 rfl rfl)
      have iv2' := iv2.thr (thr_s (v := 0))
      have k_wn2 := iv2.gr.wn
      by_cases hg : p < n
      · obtain ⟨m0, more, hMB, hmo, hcf⟩ := countsFrom_ok iv2' (p := p) (l := l) hp0 hpn hl0 hl1 (w := gI m 79) (by rw [← hw2]; rfl)
        obtain ⟨_, m3, e3, la3, f3⟩ := hcf
        obtain ⟨b4, m4, e4, rfl, la4, f4⟩ := McoS_ok hMB hmo la3 hp0 (by rw [opOf_n]; exact hg) (j := jdZ i fo) (o := o) (l := l) kk2 kk3 ho0 (by omega) (by split <;> omega) (by split <;> omega) (by split <;> omega)
        have iv4 := Mscr (Mscr iv2' (Fr_wk f3 (by simp) (by simp))) (Fr_wk f4 (by simp) (by simp))
        have t4 : gI m4 78 0 = iI 0 := by rw [f4.gI (by simp) (by simp), f3.gI (by simp) (by simp)]; rfl
        rw [kk1] at e4
        have em : F_M_kindOf (iI i) fo m3 = some (iI (jdZ i fo), m3) := MkindOf_eq hi0 hi1
        generalize cho (opOf (gI m 79) law n mg 0 wd false) p (kdZ i fo) o l = bb at *
        cases bb
        all_goals skip
        repeat' (first
          | (with_reducible refine ok_ck ?_ ?_; focus (simp (disch := omega) only [↓lt_def, ↓reduceIte, ckB_true, bnd_e, Int.reduceAdd, Int.reduceSub, Int.reduceMul, Int.reduceNeg, Int.reduceToNat, Bool.false_eq_true, eq_self, not_false_eq_true, not_true_eq_false, Int.toNat_natCast, lt0, lt1, lt2, lt3, lt4, lt5, lt6, lt7, lt8, lt9, lt10, lt11, lt12, lt13, lt14, lt15, lt16, lt17, lt18, lt19, lt20, lt21, lt22, lt23, lt24, lt25, lt26, lt27, lt28, lt29, lt30, lt31, lt32, lt40, lt41, lt43, lt48, lt55, lt57, lt59, lt60, lt62, lt63, lt64, lt70, lt72, lt81, lt97, lt99, lt100, lt122, lt162, lt180, lt235, lt255, lt298, lt299, lt325, lt335, lt400, lt837, lt999, lt1000, lt1001, lt1002, lt1003, lt1004, lt1005, lt1006, lt1007, lt1008, lt1100, lt1101, lt1102, lt1103, lt1104, lt1105, lt1135, lt1136, lt1172, lt2000, lt3278, lt3575, lt10000, lt12345, lt21450, lt32767, lt193050, lt1103515245, ltm162, ltm99, ltm81, ltm8, ltm1, iI_add, iI_sub, iI_mul, iI_neg, iI_divn, iI_lt_t, iI_lt_f, iI_le_t, iI_le_f, iI_eq_t, iI_eq_f, iI_lt, iI_le, iI_eq, iI_idx, iI_inb, gI_sI, gL_sL, gZ_sZ, gI_sL, gI_sZ, gL_sI, gL_sZ, gZ_sI, gZ_sL, Nat.reduceEqDiff, false_and, and_false, and_true, true_and, and_self, k_cn, k_wn, k_wn2]; done))
          | (with_reducible refine ok_bnd_e (e1') ?_)
          | (with_reducible refine ok_bnd_e (ek) ?_)
          | (with_reducible refine ok_bnd_e (e2) ?_)
          | (with_reducible refine ok_bnd_e (e3) ?_)
          | (with_reducible refine ok_bnd_e (em) ?_)
          | (with_reducible refine ok_bnd_e (e4) ?_)
          | (with_reducible refine ok_bnd ?_)
          | (with_reducible refine ok_bndX ?_)
          | (with_reducible refine ok_lt ?_)
          | (with_reducible refine ok_t ?_ ?_; focus (simp (disch := omega) only [↓lt_def, ↓reduceIte, ckB_true, bnd_e, Int.reduceAdd, Int.reduceSub, Int.reduceMul, Int.reduceNeg, Int.reduceToNat, Bool.false_eq_true, eq_self, not_false_eq_true, not_true_eq_false, Int.toNat_natCast, lt0, lt1, lt2, lt3, lt4, lt5, lt6, lt7, lt8, lt9, lt10, lt11, lt12, lt13, lt14, lt15, lt16, lt17, lt18, lt19, lt20, lt21, lt22, lt23, lt24, lt25, lt26, lt27, lt28, lt29, lt30, lt31, lt32, lt40, lt41, lt43, lt48, lt55, lt57, lt59, lt60, lt62, lt63, lt64, lt70, lt72, lt81, lt97, lt99, lt100, lt122, lt162, lt180, lt235, lt255, lt298, lt299, lt325, lt335, lt400, lt837, lt999, lt1000, lt1001, lt1002, lt1003, lt1004, lt1005, lt1006, lt1007, lt1008, lt1100, lt1101, lt1102, lt1103, lt1104, lt1105, lt1135, lt1136, lt1172, lt2000, lt3278, lt3575, lt10000, lt12345, lt21450, lt32767, lt193050, lt1103515245, ltm162, ltm99, ltm81, ltm8, ltm1, iI_add, iI_sub, iI_mul, iI_neg, iI_divn, iI_lt_t, iI_lt_f, iI_le_t, iI_le_f, iI_eq_t, iI_eq_f, iI_lt, iI_le, iI_eq, iI_idx, iI_inb, gI_sI, gL_sL, gZ_sZ, gI_sL, gI_sZ, gL_sI, gL_sZ, gZ_sI, gZ_sL, Nat.reduceEqDiff, false_and, and_false, and_true, true_and, and_self, k_cn, k_wn, k_wn2]; done))
          | (with_reducible refine ok_f ?_ ?_; focus (simp (disch := omega) only [↓lt_def, ↓reduceIte, ckB_true, bnd_e, Int.reduceAdd, Int.reduceSub, Int.reduceMul, Int.reduceNeg, Int.reduceToNat, Bool.false_eq_true, eq_self, not_false_eq_true, not_true_eq_false, Int.toNat_natCast, lt0, lt1, lt2, lt3, lt4, lt5, lt6, lt7, lt8, lt9, lt10, lt11, lt12, lt13, lt14, lt15, lt16, lt17, lt18, lt19, lt20, lt21, lt22, lt23, lt24, lt25, lt26, lt27, lt28, lt29, lt30, lt31, lt32, lt40, lt41, lt43, lt48, lt55, lt57, lt59, lt60, lt62, lt63, lt64, lt70, lt72, lt81, lt97, lt99, lt100, lt122, lt162, lt180, lt235, lt255, lt298, lt299, lt325, lt335, lt400, lt837, lt999, lt1000, lt1001, lt1002, lt1003, lt1004, lt1005, lt1006, lt1007, lt1008, lt1100, lt1101, lt1102, lt1103, lt1104, lt1105, lt1135, lt1136, lt1172, lt2000, lt3278, lt3575, lt10000, lt12345, lt21450, lt32767, lt193050, lt1103515245, ltm162, ltm99, ltm81, ltm8, ltm1, iI_add, iI_sub, iI_mul, iI_neg, iI_divn, iI_lt_t, iI_lt_f, iI_le_t, iI_le_f, iI_eq_t, iI_eq_f, iI_lt, iI_le, iI_eq, iI_idx, iI_inb, gI_sI, gL_sL, gZ_sZ, gI_sL, gI_sZ, gL_sI, gL_sZ, gZ_sI, gZ_sL, Nat.reduceEqDiff, false_and, and_false, and_true, true_and, and_self, k_cn, k_wn, k_wn2]; done))
          | ((with_reducible refine ok_ite (fun hc => ?_) (fun hc => ?_)) <;> (try simp (disch := omega) only [↓lt_def, ↓reduceIte, ckB_true, bnd_e, Int.reduceAdd, Int.reduceSub, Int.reduceMul, Int.reduceNeg, Int.reduceToNat, Bool.false_eq_true, eq_self, not_false_eq_true, not_true_eq_false, Int.toNat_natCast, lt0, lt1, lt2, lt3, lt4, lt5, lt6, lt7, lt8, lt9, lt10, lt11, lt12, lt13, lt14, lt15, lt16, lt17, lt18, lt19, lt20, lt21, lt22, lt23, lt24, lt25, lt26, lt27, lt28, lt29, lt30, lt31, lt32, lt40, lt41, lt43, lt48, lt55, lt57, lt59, lt60, lt62, lt63, lt64, lt70, lt72, lt81, lt97, lt99, lt100, lt122, lt162, lt180, lt235, lt255, lt298, lt299, lt325, lt335, lt400, lt837, lt999, lt1000, lt1001, lt1002, lt1003, lt1004, lt1005, lt1006, lt1007, lt1008, lt1100, lt1101, lt1102, lt1103, lt1104, lt1105, lt1135, lt1136, lt1172, lt2000, lt3278, lt3575, lt10000, lt12345, lt21450, lt32767, lt193050, lt1103515245, ltm162, ltm99, ltm81, ltm8, ltm1, iI_add, iI_sub, iI_mul, iI_neg, iI_divn, iI_lt_t, iI_lt_f, iI_le_t, iI_le_f, iI_eq_t, iI_eq_f, iI_lt, iI_le, iI_eq, iI_idx, iI_inb, gI_sI, gL_sL, gZ_sZ, gI_sL, gI_sZ, gL_sI, gL_sZ, gZ_sI, gZ_sL, Nat.reduceEqDiff, false_and, and_false, and_true, true_and, and_self, k_cn, k_wn, k_wn2] at hc) <;> (try (exfalso; omega)))
          | (with_reducible refine ok_some ?_)
          | (with_reducible refine ok_xr ?_)
          | (with_reducible refine ok_xl ?_)
          | (unfold F_T_declares)
          | (unfold F_T_mustBeState)
          | (unfold F_T_mustBeBelow)
          | (unfold F_M_declares)
          | (unfold F_M_noPlayed)
          | (unfold F_M_noInnings)
          | (unfold F_M_noState)
          | (unfold F_M_size)
          | (unfold F_M_in)
          | (unfold F_M_throwsIf))
        all_goals exact ⟨⟨t4, rfl⟩, iv4.inv⟩
      · have hz : cho (opOf (gI m 79) law n mg 0 wd false) p (kdZ i fo) o l = false := by
          unfold cho
          rw [decide_eq_false]
          intro q
          have q1 := q.1
          rw [opOf_n] at q1
          omega
        rw [hz] at e2
        repeat' (first
          | (with_reducible refine ok_ck ?_ ?_; focus (simp (disch := omega) only [↓lt_def, ↓reduceIte, ckB_true, bnd_e, Int.reduceAdd, Int.reduceSub, Int.reduceMul, Int.reduceNeg, Int.reduceToNat, Bool.false_eq_true, eq_self, not_false_eq_true, not_true_eq_false, Int.toNat_natCast, lt0, lt1, lt2, lt3, lt4, lt5, lt6, lt7, lt8, lt9, lt10, lt11, lt12, lt13, lt14, lt15, lt16, lt17, lt18, lt19, lt20, lt21, lt22, lt23, lt24, lt25, lt26, lt27, lt28, lt29, lt30, lt31, lt32, lt40, lt41, lt43, lt48, lt55, lt57, lt59, lt60, lt62, lt63, lt64, lt70, lt72, lt81, lt97, lt99, lt100, lt122, lt162, lt180, lt235, lt255, lt298, lt299, lt325, lt335, lt400, lt837, lt999, lt1000, lt1001, lt1002, lt1003, lt1004, lt1005, lt1006, lt1007, lt1008, lt1100, lt1101, lt1102, lt1103, lt1104, lt1105, lt1135, lt1136, lt1172, lt2000, lt3278, lt3575, lt10000, lt12345, lt21450, lt32767, lt193050, lt1103515245, ltm162, ltm99, ltm81, ltm8, ltm1, iI_add, iI_sub, iI_mul, iI_neg, iI_divn, iI_lt_t, iI_lt_f, iI_le_t, iI_le_f, iI_eq_t, iI_eq_f, iI_lt, iI_le, iI_eq, iI_idx, iI_inb, gI_sI, gL_sL, gZ_sZ, gI_sL, gI_sZ, gL_sI, gL_sZ, gZ_sI, gZ_sL, Nat.reduceEqDiff, false_and, and_false, and_true, true_and, and_self, k_cn, k_wn, k_wn2]; done))
          | (with_reducible refine ok_bnd_e (e1') ?_)
          | (with_reducible refine ok_bnd_e (ek) ?_)
          | (with_reducible refine ok_bnd_e (e2) ?_)
          | (with_reducible refine ok_bnd ?_)
          | (with_reducible refine ok_bndX ?_)
          | (with_reducible refine ok_lt ?_)
          | (with_reducible refine ok_t ?_ ?_; focus (simp (disch := omega) only [↓lt_def, ↓reduceIte, ckB_true, bnd_e, Int.reduceAdd, Int.reduceSub, Int.reduceMul, Int.reduceNeg, Int.reduceToNat, Bool.false_eq_true, eq_self, not_false_eq_true, not_true_eq_false, Int.toNat_natCast, lt0, lt1, lt2, lt3, lt4, lt5, lt6, lt7, lt8, lt9, lt10, lt11, lt12, lt13, lt14, lt15, lt16, lt17, lt18, lt19, lt20, lt21, lt22, lt23, lt24, lt25, lt26, lt27, lt28, lt29, lt30, lt31, lt32, lt40, lt41, lt43, lt48, lt55, lt57, lt59, lt60, lt62, lt63, lt64, lt70, lt72, lt81, lt97, lt99, lt100, lt122, lt162, lt180, lt235, lt255, lt298, lt299, lt325, lt335, lt400, lt837, lt999, lt1000, lt1001, lt1002, lt1003, lt1004, lt1005, lt1006, lt1007, lt1008, lt1100, lt1101, lt1102, lt1103, lt1104, lt1105, lt1135, lt1136, lt1172, lt2000, lt3278, lt3575, lt10000, lt12345, lt21450, lt32767, lt193050, lt1103515245, ltm162, ltm99, ltm81, ltm8, ltm1, iI_add, iI_sub, iI_mul, iI_neg, iI_divn, iI_lt_t, iI_lt_f, iI_le_t, iI_le_f, iI_eq_t, iI_eq_f, iI_lt, iI_le, iI_eq, iI_idx, iI_inb, gI_sI, gL_sL, gZ_sZ, gI_sL, gI_sZ, gL_sI, gL_sZ, gZ_sI, gZ_sL, Nat.reduceEqDiff, false_and, and_false, and_true, true_and, and_self, k_cn, k_wn, k_wn2]; done))
          | (with_reducible refine ok_f ?_ ?_; focus (simp (disch := omega) only [↓lt_def, ↓reduceIte, ckB_true, bnd_e, Int.reduceAdd, Int.reduceSub, Int.reduceMul, Int.reduceNeg, Int.reduceToNat, Bool.false_eq_true, eq_self, not_false_eq_true, not_true_eq_false, Int.toNat_natCast, lt0, lt1, lt2, lt3, lt4, lt5, lt6, lt7, lt8, lt9, lt10, lt11, lt12, lt13, lt14, lt15, lt16, lt17, lt18, lt19, lt20, lt21, lt22, lt23, lt24, lt25, lt26, lt27, lt28, lt29, lt30, lt31, lt32, lt40, lt41, lt43, lt48, lt55, lt57, lt59, lt60, lt62, lt63, lt64, lt70, lt72, lt81, lt97, lt99, lt100, lt122, lt162, lt180, lt235, lt255, lt298, lt299, lt325, lt335, lt400, lt837, lt999, lt1000, lt1001, lt1002, lt1003, lt1004, lt1005, lt1006, lt1007, lt1008, lt1100, lt1101, lt1102, lt1103, lt1104, lt1105, lt1135, lt1136, lt1172, lt2000, lt3278, lt3575, lt10000, lt12345, lt21450, lt32767, lt193050, lt1103515245, ltm162, ltm99, ltm81, ltm8, ltm1, iI_add, iI_sub, iI_mul, iI_neg, iI_divn, iI_lt_t, iI_lt_f, iI_le_t, iI_le_f, iI_eq_t, iI_eq_f, iI_lt, iI_le, iI_eq, iI_idx, iI_inb, gI_sI, gL_sL, gZ_sZ, gI_sL, gI_sZ, gL_sI, gL_sZ, gZ_sI, gZ_sL, Nat.reduceEqDiff, false_and, and_false, and_true, true_and, and_self, k_cn, k_wn, k_wn2]; done))
          | ((with_reducible refine ok_ite (fun hc => ?_) (fun hc => ?_)) <;> (try simp (disch := omega) only [↓lt_def, ↓reduceIte, ckB_true, bnd_e, Int.reduceAdd, Int.reduceSub, Int.reduceMul, Int.reduceNeg, Int.reduceToNat, Bool.false_eq_true, eq_self, not_false_eq_true, not_true_eq_false, Int.toNat_natCast, lt0, lt1, lt2, lt3, lt4, lt5, lt6, lt7, lt8, lt9, lt10, lt11, lt12, lt13, lt14, lt15, lt16, lt17, lt18, lt19, lt20, lt21, lt22, lt23, lt24, lt25, lt26, lt27, lt28, lt29, lt30, lt31, lt32, lt40, lt41, lt43, lt48, lt55, lt57, lt59, lt60, lt62, lt63, lt64, lt70, lt72, lt81, lt97, lt99, lt100, lt122, lt162, lt180, lt235, lt255, lt298, lt299, lt325, lt335, lt400, lt837, lt999, lt1000, lt1001, lt1002, lt1003, lt1004, lt1005, lt1006, lt1007, lt1008, lt1100, lt1101, lt1102, lt1103, lt1104, lt1105, lt1135, lt1136, lt1172, lt2000, lt3278, lt3575, lt10000, lt12345, lt21450, lt32767, lt193050, lt1103515245, ltm162, ltm99, ltm81, ltm8, ltm1, iI_add, iI_sub, iI_mul, iI_neg, iI_divn, iI_lt_t, iI_lt_f, iI_le_t, iI_le_f, iI_eq_t, iI_eq_f, iI_lt, iI_le, iI_eq, iI_idx, iI_inb, gI_sI, gL_sL, gZ_sZ, gI_sL, gI_sZ, gL_sI, gL_sZ, gZ_sI, gZ_sL, Nat.reduceEqDiff, false_and, and_false, and_true, true_and, and_self, k_cn, k_wn, k_wn2] at hc) <;> (try (exfalso; omega)))
          | (with_reducible refine ok_some ?_)
          | (with_reducible refine ok_xr ?_)
          | (with_reducible refine ok_xl ?_)
          | (unfold F_T_declares)
          | (unfold F_T_mustBeState)
          | (unfold F_T_mustBeBelow)
          | (unfold F_M_declares)
          | (unfold F_M_noPlayed)
          | (unfold F_M_noInnings)
          | (unfold F_M_noState)
          | (unfold F_M_size)
          | (unfold F_M_in)
          | (unfold F_M_throwsIf))
        all_goals exact ⟨⟨rfl, rfl⟩, iv2'.inv⟩
  · skip
    repeat' (first
      | (with_reducible refine ok_ck ?_ ?_; focus (simp (disch := omega) only [↓lt_def, ↓reduceIte, ckB_true, bnd_e, Int.reduceAdd, Int.reduceSub, Int.reduceMul, Int.reduceNeg, Int.reduceToNat, Bool.false_eq_true, eq_self, not_false_eq_true, not_true_eq_false, Int.toNat_natCast, lt0, lt1, lt2, lt3, lt4, lt5, lt6, lt7, lt8, lt9, lt10, lt11, lt12, lt13, lt14, lt15, lt16, lt17, lt18, lt19, lt20, lt21, lt22, lt23, lt24, lt25, lt26, lt27, lt28, lt29, lt30, lt31, lt32, lt40, lt41, lt43, lt48, lt55, lt57, lt59, lt60, lt62, lt63, lt64, lt70, lt72, lt81, lt97, lt99, lt100, lt122, lt162, lt180, lt235, lt255, lt298, lt299, lt325, lt335, lt400, lt837, lt999, lt1000, lt1001, lt1002, lt1003, lt1004, lt1005, lt1006, lt1007, lt1008, lt1100, lt1101, lt1102, lt1103, lt1104, lt1105, lt1135, lt1136, lt1172, lt2000, lt3278, lt3575, lt10000, lt12345, lt21450, lt32767, lt193050, lt1103515245, ltm162, ltm99, ltm81, ltm8, ltm1, iI_add, iI_sub, iI_mul, iI_neg, iI_divn, iI_lt_t, iI_lt_f, iI_le_t, iI_le_f, iI_eq_t, iI_eq_f, iI_lt, iI_le, iI_eq, iI_idx, iI_inb, gI_sI, gL_sL, gZ_sZ, gI_sL, gI_sZ, gL_sI, gL_sZ, gZ_sI, gZ_sL, Nat.reduceEqDiff, false_and, and_false, and_true, true_and, and_self, k_cn, k_wn]; done))
      | (with_reducible refine ok_bnd ?_)
      | (with_reducible refine ok_bndX ?_)
      | (with_reducible refine ok_lt ?_)
      | (with_reducible refine ok_t ?_ ?_; focus (simp (disch := omega) only [↓lt_def, ↓reduceIte, ckB_true, bnd_e, Int.reduceAdd, Int.reduceSub, Int.reduceMul, Int.reduceNeg, Int.reduceToNat, Bool.false_eq_true, eq_self, not_false_eq_true, not_true_eq_false, Int.toNat_natCast, lt0, lt1, lt2, lt3, lt4, lt5, lt6, lt7, lt8, lt9, lt10, lt11, lt12, lt13, lt14, lt15, lt16, lt17, lt18, lt19, lt20, lt21, lt22, lt23, lt24, lt25, lt26, lt27, lt28, lt29, lt30, lt31, lt32, lt40, lt41, lt43, lt48, lt55, lt57, lt59, lt60, lt62, lt63, lt64, lt70, lt72, lt81, lt97, lt99, lt100, lt122, lt162, lt180, lt235, lt255, lt298, lt299, lt325, lt335, lt400, lt837, lt999, lt1000, lt1001, lt1002, lt1003, lt1004, lt1005, lt1006, lt1007, lt1008, lt1100, lt1101, lt1102, lt1103, lt1104, lt1105, lt1135, lt1136, lt1172, lt2000, lt3278, lt3575, lt10000, lt12345, lt21450, lt32767, lt193050, lt1103515245, ltm162, ltm99, ltm81, ltm8, ltm1, iI_add, iI_sub, iI_mul, iI_neg, iI_divn, iI_lt_t, iI_lt_f, iI_le_t, iI_le_f, iI_eq_t, iI_eq_f, iI_lt, iI_le, iI_eq, iI_idx, iI_inb, gI_sI, gL_sL, gZ_sZ, gI_sL, gI_sZ, gL_sI, gL_sZ, gZ_sI, gZ_sL, Nat.reduceEqDiff, false_and, and_false, and_true, true_and, and_self, k_cn, k_wn]; done))
      | (with_reducible refine ok_f ?_ ?_; focus (simp (disch := omega) only [↓lt_def, ↓reduceIte, ckB_true, bnd_e, Int.reduceAdd, Int.reduceSub, Int.reduceMul, Int.reduceNeg, Int.reduceToNat, Bool.false_eq_true, eq_self, not_false_eq_true, not_true_eq_false, Int.toNat_natCast, lt0, lt1, lt2, lt3, lt4, lt5, lt6, lt7, lt8, lt9, lt10, lt11, lt12, lt13, lt14, lt15, lt16, lt17, lt18, lt19, lt20, lt21, lt22, lt23, lt24, lt25, lt26, lt27, lt28, lt29, lt30, lt31, lt32, lt40, lt41, lt43, lt48, lt55, lt57, lt59, lt60, lt62, lt63, lt64, lt70, lt72, lt81, lt97, lt99, lt100, lt122, lt162, lt180, lt235, lt255, lt298, lt299, lt325, lt335, lt400, lt837, lt999, lt1000, lt1001, lt1002, lt1003, lt1004, lt1005, lt1006, lt1007, lt1008, lt1100, lt1101, lt1102, lt1103, lt1104, lt1105, lt1135, lt1136, lt1172, lt2000, lt3278, lt3575, lt10000, lt12345, lt21450, lt32767, lt193050, lt1103515245, ltm162, ltm99, ltm81, ltm8, ltm1, iI_add, iI_sub, iI_mul, iI_neg, iI_divn, iI_lt_t, iI_lt_f, iI_le_t, iI_le_f, iI_eq_t, iI_eq_f, iI_lt, iI_le, iI_eq, iI_idx, iI_inb, gI_sI, gL_sL, gZ_sZ, gI_sL, gI_sZ, gL_sI, gL_sZ, gZ_sI, gZ_sL, Nat.reduceEqDiff, false_and, and_false, and_true, true_and, and_self, k_cn, k_wn]; done))
      | ((with_reducible refine ok_ite (fun hc => ?_) (fun hc => ?_)) <;> (try simp (disch := omega) only [↓lt_def, ↓reduceIte, ckB_true, bnd_e, Int.reduceAdd, Int.reduceSub, Int.reduceMul, Int.reduceNeg, Int.reduceToNat, Bool.false_eq_true, eq_self, not_false_eq_true, not_true_eq_false, Int.toNat_natCast, lt0, lt1, lt2, lt3, lt4, lt5, lt6, lt7, lt8, lt9, lt10, lt11, lt12, lt13, lt14, lt15, lt16, lt17, lt18, lt19, lt20, lt21, lt22, lt23, lt24, lt25, lt26, lt27, lt28, lt29, lt30, lt31, lt32, lt40, lt41, lt43, lt48, lt55, lt57, lt59, lt60, lt62, lt63, lt64, lt70, lt72, lt81, lt97, lt99, lt100, lt122, lt162, lt180, lt235, lt255, lt298, lt299, lt325, lt335, lt400, lt837, lt999, lt1000, lt1001, lt1002, lt1003, lt1004, lt1005, lt1006, lt1007, lt1008, lt1100, lt1101, lt1102, lt1103, lt1104, lt1105, lt1135, lt1136, lt1172, lt2000, lt3278, lt3575, lt10000, lt12345, lt21450, lt32767, lt193050, lt1103515245, ltm162, ltm99, ltm81, ltm8, ltm1, iI_add, iI_sub, iI_mul, iI_neg, iI_divn, iI_lt_t, iI_lt_f, iI_le_t, iI_le_f, iI_eq_t, iI_eq_f, iI_lt, iI_le, iI_eq, iI_idx, iI_inb, gI_sI, gL_sL, gZ_sZ, gI_sL, gI_sZ, gL_sI, gL_sZ, gZ_sI, gZ_sL, Nat.reduceEqDiff, false_and, and_false, and_true, true_and, and_self, k_cn, k_wn] at hc) <;> (try (exfalso; omega)))
      | (with_reducible refine ok_some ?_)
      | (with_reducible refine ok_xr ?_)
      | (with_reducible refine ok_xl ?_)
      | (unfold F_T_declares)
      | (unfold F_T_mustBeState)
      | (unfold F_T_mustBeBelow)
      | (unfold F_M_declares)
      | (unfold F_M_noPlayed)
      | (unfold F_M_noInnings)
      | (unfold F_M_noState)
      | (unfold F_M_size)
      | (unfold F_M_in)
      | (unfold F_M_throwsIf))
    all_goals exact ⟨ansZ_l (by decide) rfl, ((h.thr thr_ss).up (by omega)).inv⟩
/-- ways as they are asked for -/
def askV (al : Int) (v : Int × Int) (z : Int) : Int := if z = 0 then v.1 else if z = 1 then v.2 else if z = 2 then al - v.1 - v.2 else al
theorem MwaysOf0_eq {n p z : Int} {m : Mem} {v : Int × Int} (hn : gI m 79 0 = iI n) (n9 : n ≤ 9) (p0 : 0 ≤ p) (pn : p ≤ n) (hv : GW m v) (hk : vOK v (four (n - p).toNat)) (z0 : 0 ≤ z) (z3 : z ≤ 3) : F_M_waysOf (iI z) (iI p) (0 : Int32) m = some (iL (askV (four (n - p).toNat) v z), m) := by
  have h4 := four_le (n - p).toNat (by omega)
  have h0 := four_pos (n - p).toNat
  obtain ⟨k1, k2, k3⟩ := hk
  unfold F_M_waysOf askV
  rw [lt_def, if_pos rfl]
  dsimp only
  rw [lt_def, if_pos rfl]
  dsimp only
  rw [hv.1, hv.2]
  rcases (show z = 0 ∨ z = 1 ∨ z = 2 ∨ z = 3 by omega) with rfl | rfl | rfl | rfl
  · rw [if_pos (show iI 0 = (0 : Int32) from rfl), if_pos (show (0 : Int) = 0 from rfl), iI_L (by omega) (by omega)]
  · rw [if_neg (show ¬ iI 1 = (0 : Int32) by decide), if_pos (show iI 1 = (1 : Int32) from rfl), if_neg (show ¬ (1 : Int) = 0 by decide), if_pos (show (1 : Int) = 1 from rfl), iI_L (by omega) (by omega)]
  · rw [if_neg (show ¬ iI 2 = (0 : Int32) by decide), if_neg (show ¬ iI 2 = (1 : Int32) by decide), if_pos (show iI 2 = (2 : Int32) from rfl), if_neg (show ¬ (2 : Int) = 0 by decide), if_neg (show ¬ (2 : Int) = 1 by decide), if_pos (show (2 : Int) = 2 from rfl), bnd_some (Mall_eq hn n9 p0 pn), iI_sub, iI_sub, iI_L (by omega) (by omega)]
  · rw [if_neg (show ¬ iI 3 = (0 : Int32) by decide), if_neg (show ¬ iI 3 = (1 : Int32) by decide), if_neg (show ¬ iI 3 = (2 : Int32) by decide), if_neg (show ¬ (3 : Int) = 0 by decide), if_neg (show ¬ (3 : Int) = 1 by decide), if_neg (show ¬ (3 : Int) = 2 by decide), bnd_some (Mall_eq hn n9 p0 pn), iI_L (by omega) (by omega)]
theorem TwinsOf_ok {law : Option (List (Int × List Int))} {P : OP} {mg tx bc f dw : Int} {mk : Int64} {bl : Bool} {wd : Int} {m0 m : Mem} (hB : OB law P mg tx bc f dw mk bl wd m0) (h : OI law P mk m0 m) {p k o l z : Int} (p0 : 0 ≤ p) (pn : p ≤ P.n) (k0 : 0 ≤ k) (k5 : k ≤ 5) (o0 : 0 ≤ o) (o1 : o ≤ 10) (l0 : -200 ≤ l) (l1 : l ≤ 200) (z0 : 0 ≤ z) (z2 : z ≤ 2) : Ok (F_T_winsOf (iI p) (iI k) (iI l) (iI o) (iI z) m) (fun v m' => v = iL (askV (four (P.n - p).toNat) (V P (P.n - p).toNat k o l) z) ∧ OI law P mk m0 m') := by
  have n9 := hB.gr.n9
  have h4 := four_le (P.n - p).toNat (by omega)
  have hok := V_ok (P := P) (P.n - p).toNat k o l
  unfold F_T_winsOf
  rw [bnd_some (firstBats_eq k0 k5)]
  refine ok_ltk (fun kk hkk => ?_)
  have hx : ∀ l', -200 ≤ l' → l' ≤ 200 → sg k l' = l → Ok (kk (iI l') m) (fun v m' => v = iL (askV (four (P.n - p).toNat) (V P (P.n - p).toNat k o l) z) ∧ OI law P mk m0 m') := by
    intro l' a b e
    rw [hkk]
    refine ok_bnd (viaFrom_ok (ok_of (at_eq hB h p0 pn k0 k5 o0 o1 a b) (fun v m' hv => ?_)))
    obtain ⟨rfl, hq⟩ := hv
    rw [e]
    have hcn : gI m' 3 0 = iI P.n := (hq.1.I (by decide) (by decide) (by decide) (by decide)).trans hB.gr.cn
    unfold askV
    rcases (show z = 0 ∨ z = 1 ∨ z = 2 by omega) with rfl | rfl | rfl
    · refine ok_f (by decide) (ok_ltk (fun k2 hk2 => ok_t rfl ?_))
      rw [hk2, if_pos rfl]
      dsimp only
      refine ok_ltk (fun k3 hk3 => ?_)
      cases hf : fb k
      · refine ok_f (by decide) ?_
        rw [hk3]
        dsimp only
        rw [hf, bnd_some (waysOf_eq false false _ _ hok h4 m'), if_pos rfl]
        exact ok_some ⟨rfl, hq⟩
      · refine ok_t rfl ?_
        rw [hk3]
        dsimp only
        rw [hf, bnd_some (waysOf_eq true true _ _ hok h4 m'), if_pos rfl]
        exact ok_some ⟨rfl, hq⟩
    · refine ok_f (by decide) (ok_ltk (fun k2 hk2 => ok_f (by decide) ?_))
      rw [hk2, if_neg (by decide), if_pos rfl]
      dsimp only
      refine ok_ltk (fun k3 hk3 => ?_)
      cases hf : fb k
      · refine ok_t rfl ?_
        rw [hk3]
        dsimp only
        rw [hf, bnd_some (waysOf_eq false true _ _ hok h4 m'), if_neg (by decide)]
        exact ok_some ⟨rfl, hq⟩
      · refine ok_f (by decide) ?_
        rw [hk3]
        dsimp only
        rw [hf, bnd_some (waysOf_eq true false _ _ hok h4 m'), if_neg (by decide)]
        exact ok_some ⟨rfl, hq⟩
    · refine ok_t rfl ?_
      rw [if_neg (by decide), if_neg (by decide), if_pos rfl]
      unfold F_Od_part
      refine ok_bnd (ok_f (by decide) (ok_t rfl ?_))
      rw [bnd_some (draws_eq hcn n9 p0 pn _ hok h4)]
      exact ok_some (ok_some ⟨rfl, hq⟩)
  cases hf : fb k
  · refine ok_f (by decide) ?_
    rw [iI_neg]
    exact hx (-l) (by omega) (by omega) (by unfold sg; rw [hf, if_neg (by decide)]; omega)
  · refine ok_t rfl ?_
    exact hx l (by omega) (by omega) (by unfold sg; rw [hf, if_pos rfl])
theorem wins_op {B : Nat} {law : Option (List (Int × List Int))} {n mg wd tx bc : Int} {t : Mt} {m : Mem} (h : IV B law n mg wd tx bc t m) (hB6 : B ≤ 1000000) (a d : Int32) (fo : Bool) (b c e : Int32) : BothL (B + 1) cd12 (F_T_wins a d fo b c e) (F_M_wins a d fo b c e) m := by
  obtain ⟨p, rfl, p1, p2⟩ := iI_ex a
  obtain ⟨i, rfl, i1, i2⟩ := iI_ex d
  obtain ⟨l, rfl, l1, l2⟩ := iI_ex b
  obtain ⟨o, rfl, o1, o2⟩ := iI_ex c
  obtain ⟨z, rfl, z1, z2⟩ := iI_ex e
  have k_cn := h.gr.cn
  have k_wn := h.gr.wn
  have k_n1 := h.gr.n1
  have k_n9 := h.gr.n9
  unfold BothL
  by_cases hr : ((0 ≤ p ∧ p ≤ n) ∧ (0 ≤ i ∧ i ≤ 3) ∧ (-81 ≤ l ∧ l ≤ 81) ∧ 0 ≤ o ∧ o ≤ 9) ∧ 0 ≤ z ∧ z ≤ 2
  · obtain ⟨⟨⟨hp0, hpn⟩, ⟨hi0, hi1⟩, ⟨hl0, hl1⟩, ho0, ho1⟩, hz0, hz2⟩ := hr
    obtain ⟨kk1, kk2, kk3, kk4, kk5⟩ := kdZ_eq (i := i) (fo := fo) hi0 hi1
    obtain ⟨m1, mk, e1, hB, hO, hI, f1⟩ := h.ready hB6 (f := 0) (dw := wd) false (by omega) (by omega) h.gr.dw0 h.gr.dw9
    have e1' : F_Od_ready (0 : Int32) (gI m 3 5) false m = some ((), m1) := by rw [h.gr.cdw]; exact e1
    have ek : F_Od_kindOf (iI i) fo m1 = some (iI (kdZ i fo), m1) := TkindOf_eq hi0 hi1
    obtain ⟨b2, m2, e2, rfl, q2⟩ := TwinsOf_ok hB hO (p := p) (k := kdZ i fo) (o := o) (l := l) (z := z) hp0 (by rw [opOf_n]; exact hpn) kk4 kk5 ho0 (by omega) (by omega) (by omega) hz0 hz2
    rw [opOf_n] at e2
    have iv2 := hI m2 q2
    have hw2 : gI m2 79 = gI m 79 := (Fr_row q2.1.fr rfl rfl).trans (Fr_row f1 rfl rfl)
    have iv2' := iv2.thr (thr_s (v := 0))
    have k_wn2 := iv2.gr.wn
    obtain ⟨m0, more, hMB, hmo, hcf⟩ := countsFrom_ok iv2' (p := p) (l := l) hp0 hpn hl0 hl1 (w := gI m 79) (by rw [← hw2]; rfl)
    obtain ⟨_, m3, e3, la3, f3⟩ := hcf
    have iv3 := Mscr iv2' (Fr_wk f3 (by simp) (by simp))
    have t3 : gI m3 78 0 = iI 0 := by rw [f3.gI (by simp) (by simp)]; rfl
    have f35 : Fr [] [(78, 23), (78, 24)] m3 (sI (sI m3 78 23 0) 78 24 0) := Fr_sI rfl (Fr_sI rfl Fr_rf (by simp)) (by simp)
    have k_wn5 : gI m3 79 0 = iI n := iv3.gr.wn
    have em : F_M_kindOf (iI i) fo (sI (sI m3 78 23 0) 78 24 0) = some (iI (jdZ i fo), sI (sI m3 78 23 0) 78 24 0) := MkindOf_eq hi0 hi1
    by_cases hg : p < n
    · have hcell := la3.2.2 p (Or.inl rfl) (by rw [opOf_n]; exact hg) (jdZ i fo) o l kk2 kk3 ho0 (by omega) (by rw [Int.sub_self, Int.mul_zero]; split <;> omega) (by rw [Int.sub_self, Int.mul_zero]; split <;> omega)
      rw [kk1, opOf_n] at hcell
      obtain ⟨_, m6, e6, g6, f6⟩ := takes_ok (p := p) (j := jdZ i fo) (o := o) (l := l) (m := sI (sI m3 78 23 0) 78 24 0) hp0 (by omega) kk2 kk3 ho0 (by omega) (by omega) (by omega) hcell.1 hcell.2
      have f36 := Fr_tr f35 f6 (by simp) (by simp)
      have iv6 := Mscr iv3 (Fr_wk f36 (by simp) (by simp))
      have e7 := MwaysOf0_eq (z := z) iv6.gr.wn k_n9 hp0 hpn g6 (V_ok _ _ _ _) hz0 (by omega)
      have t6 : gI m6 78 0 = iI 0 := by rw [f36.gI (by simp) (by simp)]; exact t3
      repeat' (first
        | (with_reducible refine ok_ck ?_ ?_; focus (simp (disch := omega) only [↓lt_def, ↓reduceIte, ckB_true, bnd_e, Int.reduceAdd, Int.reduceSub, Int.reduceMul, Int.reduceNeg, Int.reduceToNat, Bool.false_eq_true, eq_self, not_false_eq_true, not_true_eq_false, Int.toNat_natCast, lt0, lt1, lt2, lt3, lt4, lt5, lt6, lt7, lt8, lt9, lt10, lt11, lt12, lt13, lt14, lt15, lt16, lt17, lt18, lt19, lt20, lt21, lt22, lt23, lt24, lt25, lt26, lt27, lt28, lt29, lt30, lt31, lt32, lt40, lt41, lt43, lt48, lt55, lt57, lt59, lt60, lt62, lt63, lt64, lt70, lt72, lt81, lt97, lt99, lt100, lt122, lt162, lt180, lt235, lt255, lt298, lt299, lt325, lt335, lt400, lt837, lt999, lt1000, lt1001, lt1002, lt1003, lt1004, lt1005, lt1006, lt1007, lt1008, lt1100, lt1101, lt1102, lt1103, lt1104, lt1105, lt1135, lt1136, lt1172, lt2000, lt3278, lt3575, lt10000, lt12345, lt21450, lt32767, lt193050, lt1103515245, ltm162, ltm99, ltm81, ltm8, ltm1, iI_add, iI_sub, iI_mul, iI_neg, iI_divn, iI_lt_t, iI_lt_f, iI_le_t, iI_le_f, iI_eq_t, iI_eq_f, iI_lt, iI_le, iI_eq, iI_idx, iI_inb, gI_sI, gL_sL, gZ_sZ, gI_sL, gI_sZ, gL_sI, gL_sZ, gZ_sI, gZ_sL, Nat.reduceEqDiff, false_and, and_false, and_true, true_and, and_self, k_cn, k_wn, k_wn2, k_wn5]; done))
        | (with_reducible refine ok_bnd_e (e1') ?_)
        | (with_reducible refine ok_bnd_e (ek) ?_)
        | (with_reducible refine ok_bnd_e (e2) ?_)
        | (with_reducible refine ok_bnd_e (e3) ?_)
        | (with_reducible refine ok_bnd_e (em) ?_)
        | (with_reducible refine ok_bnd_e (e6) ?_)
        | (with_reducible refine ok_bnd_e (e7) ?_)
        | (with_reducible refine ok_bnd ?_)
        | (with_reducible refine ok_bndX ?_)
        | (with_reducible refine ok_lt ?_)
        | (with_reducible refine ok_t ?_ ?_; focus (simp (disch := omega) only [↓lt_def, ↓reduceIte, ckB_true, bnd_e, Int.reduceAdd, Int.reduceSub, Int.reduceMul, Int.reduceNeg, Int.reduceToNat, Bool.false_eq_true, eq_self, not_false_eq_true, not_true_eq_false, Int.toNat_natCast, lt0, lt1, lt2, lt3, lt4, lt5, lt6, lt7, lt8, lt9, lt10, lt11, lt12, lt13, lt14, lt15, lt16, lt17, lt18, lt19, lt20, lt21, lt22, lt23, lt24, lt25, lt26, lt27, lt28, lt29, lt30, lt31, lt32, lt40, lt41, lt43, lt48, lt55, lt57, lt59, lt60, lt62, lt63, lt64, lt70, lt72, lt81, lt97, lt99, lt100, lt122, lt162, lt180, lt235, lt255, lt298, lt299, lt325, lt335, lt400, lt837, lt999, lt1000, lt1001, lt1002, lt1003, lt1004, lt1005, lt1006, lt1007, lt1008, lt1100, lt1101, lt1102, lt1103, lt1104, lt1105, lt1135, lt1136, lt1172, lt2000, lt3278, lt3575, lt10000, lt12345, lt21450, lt32767, lt193050, lt1103515245, ltm162, ltm99, ltm81, ltm8, ltm1, iI_add, iI_sub, iI_mul, iI_neg, iI_divn, iI_lt_t, iI_lt_f, iI_le_t, iI_le_f, iI_eq_t, iI_eq_f, iI_lt, iI_le, iI_eq, iI_idx, iI_inb, gI_sI, gL_sL, gZ_sZ, gI_sL, gI_sZ, gL_sI, gL_sZ, gZ_sI, gZ_sL, Nat.reduceEqDiff, false_and, and_false, and_true, true_and, and_self, k_cn, k_wn, k_wn2, k_wn5]; done))
        | (with_reducible refine ok_f ?_ ?_; focus (simp (disch := omega) only [↓lt_def, ↓reduceIte, ckB_true, bnd_e, Int.reduceAdd, Int.reduceSub, Int.reduceMul, Int.reduceNeg, Int.reduceToNat, Bool.false_eq_true, eq_self, not_false_eq_true, not_true_eq_false, Int.toNat_natCast, lt0, lt1, lt2, lt3, lt4, lt5, lt6, lt7, lt8, lt9, lt10, lt11, lt12, lt13, lt14, lt15, lt16, lt17, lt18, lt19, lt20, lt21, lt22, lt23, lt24, lt25, lt26, lt27, lt28, lt29, lt30, lt31, lt32, lt40, lt41, lt43, lt48, lt55, lt57, lt59, lt60, lt62, lt63, lt64, lt70, lt72, lt81, lt97, lt99, lt100, lt122, lt162, lt180, lt235, lt255, lt298, lt299, lt325, lt335, lt400, lt837, lt999, lt1000, lt1001, lt1002, lt1003, lt1004, lt1005, lt1006, lt1007, lt1008, lt1100, lt1101, lt1102, lt1103, lt1104, lt1105, lt1135, lt1136, lt1172, lt2000, lt3278, lt3575, lt10000, lt12345, lt21450, lt32767, lt193050, lt1103515245, ltm162, ltm99, ltm81, ltm8, ltm1, iI_add, iI_sub, iI_mul, iI_neg, iI_divn, iI_lt_t, iI_lt_f, iI_le_t, iI_le_f, iI_eq_t, iI_eq_f, iI_lt, iI_le, iI_eq, iI_idx, iI_inb, gI_sI, gL_sL, gZ_sZ, gI_sL, gI_sZ, gL_sI, gL_sZ, gZ_sI, gZ_sL, Nat.reduceEqDiff, false_and, and_false, and_true, true_and, and_self, k_cn, k_wn, k_wn2, k_wn5]; done))
        | ((with_reducible refine ok_ite (fun hc => ?_) (fun hc => ?_)) <;> (try simp (disch := omega) only [↓lt_def, ↓reduceIte, ckB_true, bnd_e, Int.reduceAdd, Int.reduceSub, Int.reduceMul, Int.reduceNeg, Int.reduceToNat, Bool.false_eq_true, eq_self, not_false_eq_true, not_true_eq_false, Int.toNat_natCast, lt0, lt1, lt2, lt3, lt4, lt5, lt6, lt7, lt8, lt9, lt10, lt11, lt12, lt13, lt14, lt15, lt16, lt17, lt18, lt19, lt20, lt21, lt22, lt23, lt24, lt25, lt26, lt27, lt28, lt29, lt30, lt31, lt32, lt40, lt41, lt43, lt48, lt55, lt57, lt59, lt60, lt62, lt63, lt64, lt70, lt72, lt81, lt97, lt99, lt100, lt122, lt162, lt180, lt235, lt255, lt298, lt299, lt325, lt335, lt400, lt837, lt999, lt1000, lt1001, lt1002, lt1003, lt1004, lt1005, lt1006, lt1007, lt1008, lt1100, lt1101, lt1102, lt1103, lt1104, lt1105, lt1135, lt1136, lt1172, lt2000, lt3278, lt3575, lt10000, lt12345, lt21450, lt32767, lt193050, lt1103515245, ltm162, ltm99, ltm81, ltm8, ltm1, iI_add, iI_sub, iI_mul, iI_neg, iI_divn, iI_lt_t, iI_lt_f, iI_le_t, iI_le_f, iI_eq_t, iI_eq_f, iI_lt, iI_le, iI_eq, iI_idx, iI_inb, gI_sI, gL_sL, gZ_sZ, gI_sL, gI_sZ, gL_sI, gL_sZ, gZ_sI, gZ_sL, Nat.reduceEqDiff, false_and, and_false, and_true, true_and, and_self, k_cn, k_wn, k_wn2, k_wn5] at hc) <;> (try (exfalso; omega)))
        | (with_reducible refine ok_some ?_)
        | (with_reducible refine ok_xr ?_)
        | (with_reducible refine ok_xl ?_)
        | (unfold F_T_wins)
        | (unfold F_T_mustBeState)
        | (unfold F_T_mustBeBelow)
        | (unfold F_M_wins)
        | (unfold F_M_noPlayed)
        | (unfold F_M_noInnings)
        | (unfold F_M_noState)
        | (unfold F_M_size)
        | (unfold F_M_in)
        | (unfold F_M_throwsIf))
      exact ⟨⟨t6, rfl⟩, iv6.inv⟩
    · have iv5 := Mscr iv3 (Fr_wk f35 (by simp) (by simp))
      have hpe : (n - p).toNat = 0 := by omega
      have e7 := MwaysOf0_eq (z := z) (v := V (opOf (gI m 79) law n mg 0 wd false) (n - p).toNat (kdZ i fo) o l) iv5.gr.wn k_n9 hp0 hpn (by rw [hpe]; exact ⟨rfl, rfl⟩) (V_ok _ _ _ _) hz0 (by omega)
      repeat' (first
        | (with_reducible refine ok_ck ?_ ?_; focus (simp (disch := omega) only [↓lt_def, ↓reduceIte, ckB_true, bnd_e, Int.reduceAdd, Int.reduceSub, Int.reduceMul, Int.reduceNeg, Int.reduceToNat, Bool.false_eq_true, eq_self, not_false_eq_true, not_true_eq_false, Int.toNat_natCast, lt0, lt1, lt2, lt3, lt4, lt5, lt6, lt7, lt8, lt9, lt10, lt11, lt12, lt13, lt14, lt15, lt16, lt17, lt18, lt19, lt20, lt21, lt22, lt23, lt24, lt25, lt26, lt27, lt28, lt29, lt30, lt31, lt32, lt40, lt41, lt43, lt48, lt55, lt57, lt59, lt60, lt62, lt63, lt64, lt70, lt72, lt81, lt97, lt99, lt100, lt122, lt162, lt180, lt235, lt255, lt298, lt299, lt325, lt335, lt400, lt837, lt999, lt1000, lt1001, lt1002, lt1003, lt1004, lt1005, lt1006, lt1007, lt1008, lt1100, lt1101, lt1102, lt1103, lt1104, lt1105, lt1135, lt1136, lt1172, lt2000, lt3278, lt3575, lt10000, lt12345, lt21450, lt32767, lt193050, lt1103515245, ltm162, ltm99, ltm81, ltm8, ltm1, iI_add, iI_sub, iI_mul, iI_neg, iI_divn, iI_lt_t, iI_lt_f, iI_le_t, iI_le_f, iI_eq_t, iI_eq_f, iI_lt, iI_le, iI_eq, iI_idx, iI_inb, gI_sI, gL_sL, gZ_sZ, gI_sL, gI_sZ, gL_sI, gL_sZ, gZ_sI, gZ_sL, Nat.reduceEqDiff, false_and, and_false, and_true, true_and, and_self, k_cn, k_wn, k_wn2, k_wn5]; done))
        | (with_reducible refine ok_bnd_e (e1') ?_)
        | (with_reducible refine ok_bnd_e (ek) ?_)
        | (with_reducible refine ok_bnd_e (e2) ?_)
        | (with_reducible refine ok_bnd_e (e3) ?_)
        | (with_reducible refine ok_bnd_e (e7) ?_)
        | (with_reducible refine ok_bnd ?_)
        | (with_reducible refine ok_bndX ?_)
        | (with_reducible refine ok_lt ?_)
        | (with_reducible refine ok_t ?_ ?_; focus (simp (disch := omega) only [↓lt_def, ↓reduceIte, ckB_true, bnd_e, Int.reduceAdd, Int.reduceSub, Int.reduceMul, Int.reduceNeg, Int.reduceToNat, Bool.false_eq_true, eq_self, not_false_eq_true, not_true_eq_false, Int.toNat_natCast, lt0, lt1, lt2, lt3, lt4, lt5, lt6, lt7, lt8, lt9, lt10, lt11, lt12, lt13, lt14, lt15, lt16, lt17, lt18, lt19, lt20, lt21, lt22, lt23, lt24, lt25, lt26, lt27, lt28, lt29, lt30, lt31, lt32, lt40, lt41, lt43, lt48, lt55, lt57, lt59, lt60, lt62, lt63, lt64, lt70, lt72, lt81, lt97, lt99, lt100, lt122, lt162, lt180, lt235, lt255, lt298, lt299, lt325, lt335, lt400, lt837, lt999, lt1000, lt1001, lt1002, lt1003, lt1004, lt1005, lt1006, lt1007, lt1008, lt1100, lt1101, lt1102, lt1103, lt1104, lt1105, lt1135, lt1136, lt1172, lt2000, lt3278, lt3575, lt10000, lt12345, lt21450, lt32767, lt193050, lt1103515245, ltm162, ltm99, ltm81, ltm8, ltm1, iI_add, iI_sub, iI_mul, iI_neg, iI_divn, iI_lt_t, iI_lt_f, iI_le_t, iI_le_f, iI_eq_t, iI_eq_f, iI_lt, iI_le, iI_eq, iI_idx, iI_inb, gI_sI, gL_sL, gZ_sZ, gI_sL, gI_sZ, gL_sI, gL_sZ, gZ_sI, gZ_sL, Nat.reduceEqDiff, false_and, and_false, and_true, true_and, and_self, k_cn, k_wn, k_wn2, k_wn5]; done))
        | (with_reducible refine ok_f ?_ ?_; focus (simp (disch := omega) only [↓lt_def, ↓reduceIte, ckB_true, bnd_e, Int.reduceAdd, Int.reduceSub, Int.reduceMul, Int.reduceNeg, Int.reduceToNat, Bool.false_eq_true, eq_self, not_false_eq_true, not_true_eq_false, Int.toNat_natCast, lt0, lt1, lt2, lt3, lt4, lt5, lt6, lt7, lt8, lt9, lt10, lt11, lt12, lt13, lt14, lt15, lt16, lt17, lt18, lt19, lt20, lt21, lt22, lt23, lt24, lt25, lt26, lt27, lt28, lt29, lt30, lt31, lt32, lt40, lt41, lt43, lt48, lt55, lt57, lt59, lt60, lt62, lt63, lt64, lt70, lt72, lt81, lt97, lt99, lt100, lt122, lt162, lt180, lt235, lt255, lt298, lt299, lt325, lt335, lt400, lt837, lt999, lt1000, lt1001, lt1002, lt1003, lt1004, lt1005, lt1006, lt1007, lt1008, lt1100, lt1101, lt1102, lt1103, lt1104, lt1105, lt1135, lt1136, lt1172, lt2000, lt3278, lt3575, lt10000, lt12345, lt21450, lt32767, lt193050, lt1103515245, ltm162, ltm99, ltm81, ltm8, ltm1, iI_add, iI_sub, iI_mul, iI_neg, iI_divn, iI_lt_t, iI_lt_f, iI_le_t, iI_le_f, iI_eq_t, iI_eq_f, iI_lt, iI_le, iI_eq, iI_idx, iI_inb, gI_sI, gL_sL, gZ_sZ, gI_sL, gI_sZ, gL_sI, gL_sZ, gZ_sI, gZ_sL, Nat.reduceEqDiff, false_and, and_false, and_true, true_and, and_self, k_cn, k_wn, k_wn2, k_wn5]; done))
        | ((with_reducible refine ok_ite (fun hc => ?_) (fun hc => ?_)) <;> (try simp (disch := omega) only [↓lt_def, ↓reduceIte, ckB_true, bnd_e, Int.reduceAdd, Int.reduceSub, Int.reduceMul, Int.reduceNeg, Int.reduceToNat, Bool.false_eq_true, eq_self, not_false_eq_true, not_true_eq_false, Int.toNat_natCast, lt0, lt1, lt2, lt3, lt4, lt5, lt6, lt7, lt8, lt9, lt10, lt11, lt12, lt13, lt14, lt15, lt16, lt17, lt18, lt19, lt20, lt21, lt22, lt23, lt24, lt25, lt26, lt27, lt28, lt29, lt30, lt31, lt32, lt40, lt41, lt43, lt48, lt55, lt57, lt59, lt60, lt62, lt63, lt64, lt70, lt72, lt81, lt97, lt99, lt100, lt122, lt162, lt180, lt235, lt255, lt298, lt299, lt325, lt335, lt400, lt837, lt999, lt1000, lt1001, lt1002, lt1003, lt1004, lt1005, lt1006, lt1007, lt1008, lt1100, lt1101, lt1102, lt1103, lt1104, lt1105, lt1135, lt1136, lt1172, lt2000, lt3278, lt3575, lt10000, lt12345, lt21450, lt32767, lt193050, lt1103515245, ltm162, ltm99, ltm81, ltm8, ltm1, iI_add, iI_sub, iI_mul, iI_neg, iI_divn, iI_lt_t, iI_lt_f, iI_le_t, iI_le_f, iI_eq_t, iI_eq_f, iI_lt, iI_le, iI_eq, iI_idx, iI_inb, gI_sI, gL_sL, gZ_sZ, gI_sL, gI_sZ, gL_sI, gL_sZ, gZ_sI, gZ_sL, Nat.reduceEqDiff, false_and, and_false, and_true, true_and, and_self, k_cn, k_wn, k_wn2, k_wn5] at hc) <;> (try (exfalso; omega)))
        | (with_reducible refine ok_some ?_)
        | (with_reducible refine ok_xr ?_)
        | (with_reducible refine ok_xl ?_)
        | (unfold F_T_wins)
        | (unfold F_T_mustBeState)
        | (unfold F_T_mustBeBelow)
        | (unfold F_M_wins)
        | (unfold F_M_noPlayed)
        | (unfold F_M_noInnings)
        | (unfold F_M_noState)
        | (unfold F_M_size)
        | (unfold F_M_in)
        | (unfold F_M_throwsIf))
      exact ⟨⟨t3, rfl⟩, iv5.inv⟩
  · skip
    repeat' (first
      | (with_reducible refine ok_ck ?_ ?_; focus (simp (disch := omega) only [↓lt_def, ↓reduceIte, ckB_true, bnd_e, Int.reduceAdd, Int.reduceSub, Int.reduceMul, Int.reduceNeg, Int.reduceToNat, Bool.false_eq_true, eq_self, not_false_eq_true, not_true_eq_false, Int.toNat_natCast, lt0, lt1, lt2, lt3, lt4, lt5, lt6, lt7, lt8, lt9, lt10, lt11, lt12, lt13, lt14, lt15, lt16, lt17, lt18, lt19, lt20, lt21, lt22, lt23, lt24, lt25, lt26, lt27, lt28, lt29, lt30, lt31, lt32, lt40, lt41, lt43, lt48, lt55, lt57, lt59, lt60, lt62, lt63, lt64, lt70, lt72, lt81, lt97, lt99, lt100, lt122, lt162, lt180, lt235, lt255, lt298, lt299, lt325, lt335, lt400, lt837, lt999, lt1000, lt1001, lt1002, lt1003, lt1004, lt1005, lt1006, lt1007, lt1008, lt1100, lt1101, lt1102, lt1103, lt1104, lt1105, lt1135, lt1136, lt1172, lt2000, lt3278, lt3575, lt10000, lt12345, lt21450, lt32767, lt193050, lt1103515245, ltm162, ltm99, ltm81, ltm8, ltm1, iI_add, iI_sub, iI_mul, iI_neg, iI_divn, iI_lt_t, iI_lt_f, iI_le_t, iI_le_f, iI_eq_t, iI_eq_f, iI_lt, iI_le, iI_eq, iI_idx, iI_inb, gI_sI, gL_sL, gZ_sZ, gI_sL, gI_sZ, gL_sI, gL_sZ, gZ_sI, gZ_sL, Nat.reduceEqDiff, false_and, and_false, and_true, true_and, and_self, k_cn, k_wn]; done))
      | (with_reducible refine ok_bnd ?_)
      | (with_reducible refine ok_bndX ?_)
      | (with_reducible refine ok_lt ?_)
      | (with_reducible refine ok_t ?_ ?_; focus (simp (disch := omega) only [↓lt_def, ↓reduceIte, ckB_true, bnd_e, Int.reduceAdd, Int.reduceSub, Int.reduceMul, Int.reduceNeg, Int.reduceToNat, Bool.false_eq_true, eq_self, not_false_eq_true, not_true_eq_false, Int.toNat_natCast, lt0, lt1, lt2, lt3, lt4, lt5, lt6, lt7, lt8, lt9, lt10, lt11, lt12, lt13, lt14, lt15, lt16, lt17, lt18, lt19, lt20, lt21, lt22, lt23, lt24, lt25, lt26, lt27, lt28, lt29, lt30, lt31, lt32, lt40, lt41, lt43, lt48, lt55, lt57, lt59, lt60, lt62, lt63, lt64, lt70, lt72, lt81, lt97, lt99, lt100, lt122, lt162, lt180, lt235, lt255, lt298, lt299, lt325, lt335, lt400, lt837, lt999, lt1000, lt1001, lt1002, lt1003, lt1004, lt1005, lt1006, lt1007, lt1008, lt1100, lt1101, lt1102, lt1103, lt1104, lt1105, lt1135, lt1136, lt1172, lt2000, lt3278, lt3575, lt10000, lt12345, lt21450, lt32767, lt193050, lt1103515245, ltm162, ltm99, ltm81, ltm8, ltm1, iI_add, iI_sub, iI_mul, iI_neg, iI_divn, iI_lt_t, iI_lt_f, iI_le_t, iI_le_f, iI_eq_t, iI_eq_f, iI_lt, iI_le, iI_eq, iI_idx, iI_inb, gI_sI, gL_sL, gZ_sZ, gI_sL, gI_sZ, gL_sI, gL_sZ, gZ_sI, gZ_sL, Nat.reduceEqDiff, false_and, and_false, and_true, true_and, and_self, k_cn, k_wn]; done))
      | (with_reducible refine ok_f ?_ ?_; focus (simp (disch := omega) only [↓lt_def, ↓reduceIte, ckB_true, bnd_e, Int.reduceAdd, Int.reduceSub, Int.reduceMul, Int.reduceNeg, Int.reduceToNat, Bool.false_eq_true, eq_self, not_false_eq_true, not_true_eq_false, Int.toNat_natCast, lt0, lt1, lt2, lt3, lt4, lt5, lt6, lt7, lt8, lt9, lt10, lt11, lt12, lt13, lt14, lt15, lt16, lt17, lt18, lt19, lt20, lt21, lt22, lt23, lt24, lt25, lt26, lt27, lt28, lt29, lt30, lt31, lt32, lt40, lt41, lt43, lt48, lt55, lt57, lt59, lt60, lt62, lt63, lt64, lt70, lt72, lt81, lt97, lt99, lt100, lt122, lt162, lt180, lt235, lt255, lt298, lt299, lt325, lt335, lt400, lt837, lt999, lt1000, lt1001, lt1002, lt1003, lt1004, lt1005, lt1006, lt1007, lt1008, lt1100, lt1101, lt1102, lt1103, lt1104, lt1105, lt1135, lt1136, lt1172, lt2000, lt3278, lt3575, lt10000, lt12345, lt21450, lt32767, lt193050, lt1103515245, ltm162, ltm99, ltm81, ltm8, ltm1, iI_add, iI_sub, iI_mul, iI_neg, iI_divn, iI_lt_t, iI_lt_f, iI_le_t, iI_le_f, iI_eq_t, iI_eq_f, iI_lt, iI_le, iI_eq, iI_idx, iI_inb, gI_sI, gL_sL, gZ_sZ, gI_sL, gI_sZ, gL_sI, gL_sZ, gZ_sI, gZ_sL, Nat.reduceEqDiff, false_and, and_false, and_true, true_and, and_self, k_cn, k_wn]; done))
      | ((with_reducible refine ok_ite (fun hc => ?_) (fun hc => ?_)) <;> (try simp (disch := omega) only [↓lt_def, ↓reduceIte, ckB_true, bnd_e, Int.reduceAdd, Int.reduceSub, Int.reduceMul, Int.reduceNeg, Int.reduceToNat, Bool.false_eq_true, eq_self, not_false_eq_true, not_true_eq_false, Int.toNat_natCast, lt0, lt1, lt2, lt3, lt4, lt5, lt6, lt7, lt8, lt9, lt10, lt11, lt12, lt13, lt14, lt15, lt16, lt17, lt18, lt19, lt20, lt21, lt22, lt23, lt24, lt25, lt26, lt27, lt28, lt29, lt30, lt31, lt32, lt40, lt41, lt43, lt48, lt55, lt57, lt59, lt60, lt62, lt63, lt64, lt70, lt72, lt81, lt97, lt99, lt100, lt122, lt162, lt180, lt235, lt255, lt298, lt299, lt325, lt335, lt400, lt837, lt999, lt1000, lt1001, lt1002, lt1003, lt1004, lt1005, lt1006, lt1007, lt1008, lt1100, lt1101, lt1102, lt1103, lt1104, lt1105, lt1135, lt1136, lt1172, lt2000, lt3278, lt3575, lt10000, lt12345, lt21450, lt32767, lt193050, lt1103515245, ltm162, ltm99, ltm81, ltm8, ltm1, iI_add, iI_sub, iI_mul, iI_neg, iI_divn, iI_lt_t, iI_lt_f, iI_le_t, iI_le_f, iI_eq_t, iI_eq_f, iI_lt, iI_le, iI_eq, iI_idx, iI_inb, gI_sI, gL_sL, gZ_sZ, gI_sL, gI_sZ, gL_sI, gL_sZ, gZ_sI, gZ_sL, Nat.reduceEqDiff, false_and, and_false, and_true, true_and, and_self, k_cn, k_wn] at hc) <;> (try (exfalso; omega)))
      | (with_reducible refine ok_some ?_)
      | (with_reducible refine ok_xr ?_)
      | (with_reducible refine ok_xl ?_)
      | (unfold F_T_wins)
      | (unfold F_T_mustBeState)
      | (unfold F_T_mustBeBelow)
      | (unfold F_M_wins)
      | (unfold F_M_noPlayed)
      | (unfold F_M_noInnings)
      | (unfold F_M_noState)
      | (unfold F_M_size)
      | (unfold F_M_in)
      | (unfold F_M_throwsIf))
    all_goals exact ⟨ansL_l (by decide) rfl, ((h.thr thr_ss).up (by omega)).inv⟩
end TOLDB
