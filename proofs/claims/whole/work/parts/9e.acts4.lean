section ACTSD
/-- a side bats first -/
def toT (t : Mt) (z : Int) : Mt := Mt.mk z t.inn t.out t.pl t.win t.fol true t.sd t.r0 t.r1 t.lg
theorem toss_op {B : Nat} {law : Option (List (Int × List Int))} {n mg wd tx bc : Int} {t : Mt} {m : Mem} (h : IV B law n mg wd tx bc t m) (a : Int32) : Both B (fun e => if e = 2 then 1 else if e = 0 then 2 else 0) (F_T_toss a) (F_M_toss a) m := by
  obtain ⟨z, rfl, z1, z2⟩ := iI_ex a
  obtain ⟨c0, c1, c2, c3, c4, c5, c6, c7, c8, c9, clg⟩ := h.cm
  obtain ⟨w9, w10, w11, w12, w13, w14, w15, w16, w17, w18, wlg⟩ := h.wm
  simp only [Nat.zero_add] at w9 w10 w11 w12 w13 w14 w15 w16 w17 w18 wlg
  have k_fi0 := h.mo.fi0
  have k_fi1 := h.mo.fi1
  have k_in0 := h.mo.in0
  have k_in3 := h.mo.in3
  have k_ou0 := h.mo.ou0
  have k_ou1 := h.mo.ou1
  have k_pl0 := h.mo.pl0
  have k_pl1 := h.mo.pl1
  have k_wi0 := h.mo.wi0
  have k_wi2 := h.mo.wi2
  have k_a0 := h.mo.a0
  have k_a1 := h.mo.a1
  have k_b0 := h.mo.b0
  have k_b1 := h.mo.b1
  have k_fo := h.mo.fo
  have k_no := h.mo.no
  have k_on := h.mo.on
  have k_pn := h.mo.pn
  have k_fre := h.mo.fre
  have k_n1 := h.gr.n1
  have k_n9 := h.gr.n9
  have k_cn := h.gr.cn
  have k_wn := h.gr.wn
  have k_cmg := h.gr.cmg
  have k_wmg := h.gr.wmg
  have k_mg0 := h.gr.mg0
  have k_mg9 := h.gr.mg9
  unfold Both
  by_cases hr : (0 ≤ z ∧ z < 2) ∧ t.fi = -1
  · obtain ⟨hz, hfi⟩ := hr
    obtain ⟨n1, n2, n3, n4, n5⟩ := k_no hfi
    have hfol : t.fol = false := by
      cases hq : t.fol
      · rfl
      · have := k_fo hq; omega
    have mo' : MtOk (toT t z) n := MtOk.mk ⟨show -1 ≤ z by omega, show z ≤ 1 by omega, k_in0, k_in3, k_ou0, k_ou1, k_pl0, k_pl1, k_wi0, k_wi2, k_a0, k_a1, k_b0, k_b1, k_fo, fun q => by have q' : z = -1 := q; omega, k_on, fun _ _ => by show t.pl < n; omega, fun _ => n4⟩
    obtain ⟨m2, m4, e1, h79, e2, iv, t0⟩ := act_both h mo' (iI (levZ (gI m 79) law 0 0 z)) (α := Nat ⊕ Int32) (.inr (iI (levZ (gI m 79) law 0 0 z))) (fun mq4 => bnd (F_Ma_begin (iI z) mq4) fun _ mq7 => bnd (F_Gr_levelOf (0 : Int32) (0 : Int32) (iI z) mq7) fun xq12 mq10 => some (.inr xq12, mq10)) (fun mq16 => lt (sI mq16 79 10 (iI z)) fun mq19 => lt (sI mq19 79 14 (1 : Int32)) fun mq20 => bnd (F_M_levelOf (0 : Int32) (0 : Int32) (iI z) mq20) fun xq23 mq21 => some (xq23, mq21)) (by
        intro m1 hc1 hg1 hl1 hw1
        obtain ⟨d0, d1, d2, d3, d4, d5, d6, d7, d8, d9, dlg⟩ := hc1
        unfold F_Ma_begin
        refine ok_bnd (ok_lt (ok_lt (ok_some ?_)))
        have hgs : GR (sZ (sI m1 16 0 (iI z)) 16 6 true) 3 4 5 6 7 8 9 12 13 79 law n mg wd tx bc := GR_told hg1 (fun o ho j => by rw [gI_sZ, gI_sI, if_neg (fun q => by have := q.1; omega)]) (fun j _ => by rw [gI_sZ, gI_sI, if_neg (fun q => absurd q.1 (by decide))])
        have hls : LevOK law (sZ (sI m1 16 0 (iI z)) 16 6 true) := hl1
        have hws : gI m 79 = gI (sZ (sI m1 16 0 (iI z)) 16 6 true) 79 := by rw [← hw1]; rfl
        obtain ⟨mx, ex, lx, fx⟩ := Tlevel_eq hgs.la hgs.si hgs.cl hgs.ti hls (s := 0) (i := 0) (b := z) (by omega) (by omega) (by omega) (by omega) hz.1 hz.2
        have hf := fr_Gr_levelOf _ _ _ _ _ _ ex
        rw [← hws] at ex
        refine ok_bnd_e ex (ok_some ⟨rfl, ?_, lx, ?_⟩)
        · have hcs : CM (sZ (sI m1 16 0 (iI z)) 16 6 true) 16 (toT t z) := by
            refine ⟨?_, ?_, ?_, ?_, ?_, ?_, ?_, ?_, ?_, ?_, fun j hj => ?_⟩
            · rw [gI_sZ, gI_sI, if_pos ⟨rfl, rfl⟩]; rfl
            · rw [gI_sZ, gI_sI, if_neg (fun q => absurd q.2 (by decide))]; exact d1
            · rw [gI_sZ, gI_sI, if_neg (fun q => absurd q.2 (by decide))]; exact d2
            · rw [gI_sZ, gI_sI, if_neg (fun q => absurd q.2 (by decide))]; exact d3
            · rw [gI_sZ, gI_sI, if_neg (fun q => absurd q.2 (by decide))]; exact d4
            · rw [gZ_sZ, if_neg (fun q => absurd q.2 (by decide))]; exact d5
            · rw [gZ_sZ, if_pos ⟨rfl, rfl⟩]; rfl
            · rw [gI_sZ, gI_sI, if_neg (fun q => absurd q.2 (by decide))]; exact d7
            · rw [gI_sZ, gI_sI, if_neg (fun q => absurd q.2 (by decide))]; exact d8
            · rw [gI_sZ, gI_sI, if_neg (fun q => absurd q.2 (by decide))]; exact d9
            · rw [gI_sZ, gI_sI, if_neg (fun q => absurd q.1 (by decide))]; exact dlg j hj
          exact hcs.cg (fun j => hf.gI (by simp) (by simp)) (fun j => hf.gI (by simp) (by simp)) (fun j => hf.gZ (by simp) (by simp))
        · exact Fr_tr (Fr_sZ rfl (Fr_sI rfl Fr_rf (by simp)) (by simp)) hf (by simp) (by simp)) (by
        intro m3 hw3 hg3 hw4
        obtain ⟨d9, d10, d11, d12, d13, d14, d15, d16, d17, d18, dlg⟩ := hw3
        refine ok_lt (ok_lt ?_)
        have hgs : GR (sI (sI m3 79 10 (iI z)) 79 14 1) 3 4 5 6 7 8 9 12 13 79 law n mg wd tx bc := GR_told hg3 (fun o ho j => by rw [gI_sI, if_neg (fun q => by have := q.1; omega), gI_sI, if_neg (fun q => by have := q.1; omega)]) (fun j hj => by rw [gI_sI, if_neg (fun q => by have := q.2; omega), gI_sI, if_neg (fun q => by have := q.2; omega)])
        obtain ⟨mx, ex, fx⟩ := Mlevel_eq hgs.la (s := 0) (i := 0) (b := z) (by omega) (by omega) hz.1 hz.2
        have hf := fr_M_levelOf _ _ _ _ _ _ ex
        have hq : ∀ j, j ≠ 10 → j ≠ 14 → gI (sI (sI m3 79 10 (iI z)) 79 14 1) 79 j = gI m3 79 j := by
          intro j p q
          rw [gI_sI, if_neg (fun r => q r.2), gI_sI, if_neg (fun r => p r.2)]
        have el : levZ (gI (sI (sI m3 79 10 (iI z)) 79 14 1) 79) law 0 0 z = levZ (gI m 79) law 0 0 z := levZ_cg law (by rw [hq 6 (by decide) (by decide), hw4]) (by rw [hq 7 (by decide) (by decide), hw4]) (fun j p q => by rw [hq j (by omega) (by omega), hw4]) hz.1 (by omega)
        rw [el] at ex
        refine ok_bnd_e ex (ok_some ⟨rfl, ?_, ?_, ?_⟩)
        · have hws : WM (sI (sI m3 79 10 (iI z)) 79 14 1) 79 0 (toT t z) := by
            refine ⟨(hq 9 (by decide) (by decide)).trans d9, ?_, (hq 11 (by decide) (by decide)).trans d11, (hq 12 (by decide) (by decide)).trans d12, (hq 13 (by decide) (by decide)).trans d13, ?_, (hq 15 (by decide) (by decide)).trans d15, (hq 16 (by decide) (by decide)).trans d16, (hq 17 (by decide) (by decide)).trans d17, (hq 18 (by decide) (by decide)).trans d18, fun j hj => (hq _ (by omega) (by omega)).trans (dlg j hj)⟩
            · rw [gI_sI, if_neg (fun r => absurd r.2 (by decide)), gI_sI, if_pos ⟨rfl, rfl⟩]; rfl
            · rw [gI_sI, if_pos ⟨rfl, rfl⟩]; rfl
          exact hws.to (fun j => hf.gI (by simp) (by simp))
        · intro j hj
          rw [hf.gI (by simp) (by simp), hq j (by omega) (by omega)]
        · exact Fr_tr (Fr_sI rfl (Fr_sI rfl Fr_rf (by simp)) (by simp)) hf (by simp) (by simp))
    have w10' : gI (sI m2 78 0 0) 79 10 = iI t.fi := by rw [gI_sI, if_neg (fun q => absurd q.1 (by decide)), h79]; exact w10
    repeat' (first
      | (with_reducible refine ok_ck ?_ ?_; focus (simp (disch := omega) only [↓lt_def, ↓reduceIte, ckB_true, bnd_e, Int.reduceAdd, Int.reduceSub, Int.reduceMul, Int.reduceNeg, Int.reduceToNat, Bool.false_eq_true, eq_self, not_false_eq_true, not_true_eq_false, Int.toNat_natCast, lt0, lt1, lt2, lt3, lt4, lt5, lt6, lt7, lt8, lt9, lt10, lt11, lt12, lt13, lt14, lt15, lt16, lt17, lt18, lt19, lt20, lt21, lt22, lt23, lt24, lt25, lt26, lt27, lt28, lt29, lt30, lt31, lt32, lt40, lt41, lt43, lt48, lt55, lt57, lt59, lt60, lt62, lt63, lt64, lt70, lt72, lt81, lt97, lt99, lt100, lt122, lt162, lt180, lt235, lt255, lt298, lt299, lt325, lt335, lt400, lt837, lt999, lt1000, lt1001, lt1002, lt1003, lt1004, lt1005, lt1006, lt1007, lt1008, lt1100, lt1101, lt1102, lt1103, lt1104, lt1105, lt1135, lt1136, lt1172, lt2000, lt3278, lt3575, lt10000, lt12345, lt21450, lt32767, lt193050, lt1103515245, ltm162, ltm99, ltm81, ltm8, ltm1, iI_add, iI_sub, iI_mul, iI_neg, iI_divn, iI_lt_t, iI_lt_f, iI_le_t, iI_le_f, iI_eq_t, iI_eq_f, iI_lt, iI_le, iI_eq, iI_idx, iI_inb, gI_sI, gL_sL, gZ_sZ, gI_sL, gI_sZ, gL_sI, gL_sZ, gZ_sI, gZ_sL, Nat.reduceEqDiff, false_and, and_false, and_true, true_and, and_self, c0, w10', h79, w10]; done))
      | (with_reducible refine ok_e e1 ?_)
      | (with_reducible refine ok_e e2 ?_)
      | (with_reducible refine ok_bnd ?_)
      | (with_reducible refine ok_bndX ?_)
      | (with_reducible refine ok_lt ?_)
      | (with_reducible refine ok_t ?_ ?_; focus (simp (disch := omega) only [↓lt_def, ↓reduceIte, ckB_true, bnd_e, Int.reduceAdd, Int.reduceSub, Int.reduceMul, Int.reduceNeg, Int.reduceToNat, Bool.false_eq_true, eq_self, not_false_eq_true, not_true_eq_false, Int.toNat_natCast, lt0, lt1, lt2, lt3, lt4, lt5, lt6, lt7, lt8, lt9, lt10, lt11, lt12, lt13, lt14, lt15, lt16, lt17, lt18, lt19, lt20, lt21, lt22, lt23, lt24, lt25, lt26, lt27, lt28, lt29, lt30, lt31, lt32, lt40, lt41, lt43, lt48, lt55, lt57, lt59, lt60, lt62, lt63, lt64, lt70, lt72, lt81, lt97, lt99, lt100, lt122, lt162, lt180, lt235, lt255, lt298, lt299, lt325, lt335, lt400, lt837, lt999, lt1000, lt1001, lt1002, lt1003, lt1004, lt1005, lt1006, lt1007, lt1008, lt1100, lt1101, lt1102, lt1103, lt1104, lt1105, lt1135, lt1136, lt1172, lt2000, lt3278, lt3575, lt10000, lt12345, lt21450, lt32767, lt193050, lt1103515245, ltm162, ltm99, ltm81, ltm8, ltm1, iI_add, iI_sub, iI_mul, iI_neg, iI_divn, iI_lt_t, iI_lt_f, iI_le_t, iI_le_f, iI_eq_t, iI_eq_f, iI_lt, iI_le, iI_eq, iI_idx, iI_inb, gI_sI, gL_sL, gZ_sZ, gI_sL, gI_sZ, gL_sI, gL_sZ, gZ_sI, gZ_sL, Nat.reduceEqDiff, false_and, and_false, and_true, true_and, and_self, c0, w10', h79, w10]; done))
      | (with_reducible refine ok_f ?_ ?_; focus (simp (disch := omega) only [↓lt_def, ↓reduceIte, ckB_true, bnd_e, Int.reduceAdd, Int.reduceSub, Int.reduceMul, Int.reduceNeg, Int.reduceToNat, Bool.false_eq_true, eq_self, not_false_eq_true, not_true_eq_false, Int.toNat_natCast, lt0, lt1, lt2, lt3, lt4, lt5, lt6, lt7, lt8, lt9, lt10, lt11, lt12, lt13, lt14, lt15, lt16, lt17, lt18, lt19, lt20, lt21, lt22, lt23, lt24, lt25, lt26, lt27, lt28, lt29, lt30, lt31, lt32, lt40, lt41, lt43, lt48, lt55, lt57, lt59, lt60, lt62, lt63, lt64, lt70, lt72, lt81, lt97, lt99, lt100, lt122, lt162, lt180, lt235, lt255, lt298, lt299, lt325, lt335, lt400, lt837, lt999, lt1000, lt1001, lt1002, lt1003, lt1004, lt1005, lt1006, lt1007, lt1008, lt1100, lt1101, lt1102, lt1103, lt1104, lt1105, lt1135, lt1136, lt1172, lt2000, lt3278, lt3575, lt10000, lt12345, lt21450, lt32767, lt193050, lt1103515245, ltm162, ltm99, ltm81, ltm8, ltm1, iI_add, iI_sub, iI_mul, iI_neg, iI_divn, iI_lt_t, iI_lt_f, iI_le_t, iI_le_f, iI_eq_t, iI_eq_f, iI_lt, iI_le, iI_eq, iI_idx, iI_inb, gI_sI, gL_sL, gZ_sZ, gI_sL, gI_sZ, gL_sI, gL_sZ, gZ_sI, gZ_sL, Nat.reduceEqDiff, false_and, and_false, and_true, true_and, and_self, c0, w10', h79, w10]; done))
      | ((with_reducible refine ok_ite (fun hc => ?_) (fun hc => ?_)) <;> (try simp (disch := omega) only [↓lt_def, ↓reduceIte, ckB_true, bnd_e, Int.reduceAdd, Int.reduceSub, Int.reduceMul, Int.reduceNeg, Int.reduceToNat, Bool.false_eq_true, eq_self, not_false_eq_true, not_true_eq_false, Int.toNat_natCast, lt0, lt1, lt2, lt3, lt4, lt5, lt6, lt7, lt8, lt9, lt10, lt11, lt12, lt13, lt14, lt15, lt16, lt17, lt18, lt19, lt20, lt21, lt22, lt23, lt24, lt25, lt26, lt27, lt28, lt29, lt30, lt31, lt32, lt40, lt41, lt43, lt48, lt55, lt57, lt59, lt60, lt62, lt63, lt64, lt70, lt72, lt81, lt97, lt99, lt100, lt122, lt162, lt180, lt235, lt255, lt298, lt299, lt325, lt335, lt400, lt837, lt999, lt1000, lt1001, lt1002, lt1003, lt1004, lt1005, lt1006, lt1007, lt1008, lt1100, lt1101, lt1102, lt1103, lt1104, lt1105, lt1135, lt1136, lt1172, lt2000, lt3278, lt3575, lt10000, lt12345, lt21450, lt32767, lt193050, lt1103515245, ltm162, ltm99, ltm81, ltm8, ltm1, iI_add, iI_sub, iI_mul, iI_neg, iI_divn, iI_lt_t, iI_lt_f, iI_le_t, iI_le_f, iI_eq_t, iI_eq_f, iI_lt, iI_le, iI_eq, iI_idx, iI_inb, gI_sI, gL_sL, gZ_sZ, gI_sL, gI_sZ, gL_sI, gL_sZ, gZ_sI, gZ_sL, Nat.reduceEqDiff, false_and, and_false, and_true, true_and, and_self, c0, w10', h79, w10] at hc) <;> (try (exfalso; omega)))
      | (with_reducible refine ok_some ?_)
      | (with_reducible refine ok_xr ?_)
      | (with_reducible refine ok_xl ?_)
      | (unfold F_T_toss)
      | (unfold F_T_mustBeBelow)
      | (unfold F_M_toss)
      | (unfold F_M_noSide)
      | (unfold F_M_in)
      | (unfold F_M_throwsIf)
      | (unfold F_M_firstSide))
    exact ⟨⟨t0, rfl⟩, iv.inv⟩
  · skip
    repeat' (first
      | (with_reducible refine ok_ck ?_ ?_; focus (simp (disch := omega) only [↓lt_def, ↓reduceIte, ckB_true, bnd_e, Int.reduceAdd, Int.reduceSub, Int.reduceMul, Int.reduceNeg, Int.reduceToNat, Bool.false_eq_true, eq_self, not_false_eq_true, not_true_eq_false, Int.toNat_natCast, lt0, lt1, lt2, lt3, lt4, lt5, lt6, lt7, lt8, lt9, lt10, lt11, lt12, lt13, lt14, lt15, lt16, lt17, lt18, lt19, lt20, lt21, lt22, lt23, lt24, lt25, lt26, lt27, lt28, lt29, lt30, lt31, lt32, lt40, lt41, lt43, lt48, lt55, lt57, lt59, lt60, lt62, lt63, lt64, lt70, lt72, lt81, lt97, lt99, lt100, lt122, lt162, lt180, lt235, lt255, lt298, lt299, lt325, lt335, lt400, lt837, lt999, lt1000, lt1001, lt1002, lt1003, lt1004, lt1005, lt1006, lt1007, lt1008, lt1100, lt1101, lt1102, lt1103, lt1104, lt1105, lt1135, lt1136, lt1172, lt2000, lt3278, lt3575, lt10000, lt12345, lt21450, lt32767, lt193050, lt1103515245, ltm162, ltm99, ltm81, ltm8, ltm1, iI_add, iI_sub, iI_mul, iI_neg, iI_divn, iI_lt_t, iI_lt_f, iI_le_t, iI_le_f, iI_eq_t, iI_eq_f, iI_lt, iI_le, iI_eq, iI_idx, iI_inb, gI_sI, gL_sL, gZ_sZ, gI_sL, gI_sZ, gL_sI, gL_sZ, gZ_sI, gZ_sL, Nat.reduceEqDiff, false_and, and_false, and_true, true_and, and_self, c0, w10]; done))
      | (with_reducible refine ok_bnd ?_)
      | (with_reducible refine ok_bndX ?_)
      | (with_reducible refine ok_lt ?_)
      | (with_reducible refine ok_t ?_ ?_; focus (simp (disch := omega) only [↓lt_def, ↓reduceIte, ckB_true, bnd_e, Int.reduceAdd, Int.reduceSub, Int.reduceMul, Int.reduceNeg, Int.reduceToNat, Bool.false_eq_true, eq_self, not_false_eq_true, not_true_eq_false, Int.toNat_natCast, lt0, lt1, lt2, lt3, lt4, lt5, lt6, lt7, lt8, lt9, lt10, lt11, lt12, lt13, lt14, lt15, lt16, lt17, lt18, lt19, lt20, lt21, lt22, lt23, lt24, lt25, lt26, lt27, lt28, lt29, lt30, lt31, lt32, lt40, lt41, lt43, lt48, lt55, lt57, lt59, lt60, lt62, lt63, lt64, lt70, lt72, lt81, lt97, lt99, lt100, lt122, lt162, lt180, lt235, lt255, lt298, lt299, lt325, lt335, lt400, lt837, lt999, lt1000, lt1001, lt1002, lt1003, lt1004, lt1005, lt1006, lt1007, lt1008, lt1100, lt1101, lt1102, lt1103, lt1104, lt1105, lt1135, lt1136, lt1172, lt2000, lt3278, lt3575, lt10000, lt12345, lt21450, lt32767, lt193050, lt1103515245, ltm162, ltm99, ltm81, ltm8, ltm1, iI_add, iI_sub, iI_mul, iI_neg, iI_divn, iI_lt_t, iI_lt_f, iI_le_t, iI_le_f, iI_eq_t, iI_eq_f, iI_lt, iI_le, iI_eq, iI_idx, iI_inb, gI_sI, gL_sL, gZ_sZ, gI_sL, gI_sZ, gL_sI, gL_sZ, gZ_sI, gZ_sL, Nat.reduceEqDiff, false_and, and_false, and_true, true_and, and_self, c0, w10]; done))
      | (with_reducible refine ok_f ?_ ?_; focus (simp (disch := omega) only [↓lt_def, ↓reduceIte, ckB_true, bnd_e, Int.reduceAdd, Int.reduceSub, Int.reduceMul, Int.reduceNeg, Int.reduceToNat, Bool.false_eq_true, eq_self, not_false_eq_true, not_true_eq_false, Int.toNat_natCast, lt0, lt1, lt2, lt3, lt4, lt5, lt6, lt7, lt8, lt9, lt10, lt11, lt12, lt13, lt14, lt15, lt16, lt17, lt18, lt19, lt20, lt21, lt22, lt23, lt24, lt25, lt26, lt27, lt28, lt29, lt30, lt31, lt32, lt40, lt41, lt43, lt48, lt55, lt57, lt59, lt60, lt62, lt63, lt64, lt70, lt72, lt81, lt97, lt99, lt100, lt122, lt162, lt180, lt235, lt255, lt298, lt299, lt325, lt335, lt400, lt837, lt999, lt1000, lt1001, lt1002, lt1003, lt1004, lt1005, lt1006, lt1007, lt1008, lt1100, lt1101, lt1102, lt1103, lt1104, lt1105, lt1135, lt1136, lt1172, lt2000, lt3278, lt3575, lt10000, lt12345, lt21450, lt32767, lt193050, lt1103515245, ltm162, ltm99, ltm81, ltm8, ltm1, iI_add, iI_sub, iI_mul, iI_neg, iI_divn, iI_lt_t, iI_lt_f, iI_le_t, iI_le_f, iI_eq_t, iI_eq_f, iI_lt, iI_le, iI_eq, iI_idx, iI_inb, gI_sI, gL_sL, gZ_sZ, gI_sL, gI_sZ, gL_sI, gL_sZ, gZ_sI, gZ_sL, Nat.reduceEqDiff, false_and, and_false, and_true, true_and, and_self, c0, w10]; done))
      | ((with_reducible refine ok_ite (fun hc => ?_) (fun hc => ?_)) <;> (try simp (disch := omega) only [↓lt_def, ↓reduceIte, ckB_true, bnd_e, Int.reduceAdd, Int.reduceSub, Int.reduceMul, Int.reduceNeg, Int.reduceToNat, Bool.false_eq_true, eq_self, not_false_eq_true, not_true_eq_false, Int.toNat_natCast, lt0, lt1, lt2, lt3, lt4, lt5, lt6, lt7, lt8, lt9, lt10, lt11, lt12, lt13, lt14, lt15, lt16, lt17, lt18, lt19, lt20, lt21, lt22, lt23, lt24, lt25, lt26, lt27, lt28, lt29, lt30, lt31, lt32, lt40, lt41, lt43, lt48, lt55, lt57, lt59, lt60, lt62, lt63, lt64, lt70, lt72, lt81, lt97, lt99, lt100, lt122, lt162, lt180, lt235, lt255, lt298, lt299, lt325, lt335, lt400, lt837, lt999, lt1000, lt1001, lt1002, lt1003, lt1004, lt1005, lt1006, lt1007, lt1008, lt1100, lt1101, lt1102, lt1103, lt1104, lt1105, lt1135, lt1136, lt1172, lt2000, lt3278, lt3575, lt10000, lt12345, lt21450, lt32767, lt193050, lt1103515245, ltm162, ltm99, ltm81, ltm8, ltm1, iI_add, iI_sub, iI_mul, iI_neg, iI_divn, iI_lt_t, iI_lt_f, iI_le_t, iI_le_f, iI_eq_t, iI_eq_f, iI_lt, iI_le, iI_eq, iI_idx, iI_inb, gI_sI, gL_sL, gZ_sZ, gI_sL, gI_sZ, gL_sI, gL_sZ, gZ_sI, gZ_sL, Nat.reduceEqDiff, false_and, and_false, and_true, true_and, and_self, c0, w10] at hc) <;> (try (exfalso; omega)))
      | (with_reducible refine ok_some ?_)
      | (with_reducible refine ok_xr ?_)
      | (with_reducible refine ok_xl ?_)
      | (unfold F_T_toss)
      | (unfold F_T_mustBeBelow)
      | (unfold F_M_toss)
      | (unfold F_M_noSide)
      | (unfold F_M_in)
      | (unfold F_M_throwsIf)
      | (unfold F_M_firstSide))
    all_goals first | exact ⟨ans_l (by decide) rfl, (h.thr thr_ss).inv⟩ | exact ⟨ans_r rfl, (h.thr thr_s).inv⟩ | (refine ⟨ans_r ?_, (h.thr thr_s).inv⟩; simp (disch := omega) only [↓lt_def, ↓reduceIte, ckB_true, bnd_e, Int.reduceAdd, Int.reduceSub, Int.reduceMul, Int.reduceNeg, Int.reduceToNat, Bool.false_eq_true, eq_self, not_false_eq_true, not_true_eq_false, Int.toNat_natCast, lt0, lt1, lt2, lt3, lt4, lt5, lt6, lt7, lt8, lt9, lt10, lt11, lt12, lt13, lt14, lt15, lt16, lt17, lt18, lt19, lt20, lt21, lt22, lt23, lt24, lt25, lt26, lt27, lt28, lt29, lt30, lt31, lt32, lt40, lt41, lt43, lt48, lt55, lt57, lt59, lt60, lt62, lt63, lt64, lt70, lt72, lt81, lt97, lt99, lt100, lt122, lt162, lt180, lt235, lt255, lt298, lt299, lt325, lt335, lt400, lt837, lt999, lt1000, lt1001, lt1002, lt1003, lt1004, lt1005, lt1006, lt1007, lt1008, lt1100, lt1101, lt1102, lt1103, lt1104, lt1105, lt1135, lt1136, lt1172, lt2000, lt3278, lt3575, lt10000, lt12345, lt21450, lt32767, lt193050, lt1103515245, ltm162, ltm99, ltm81, ltm8, ltm1, iI_add, iI_sub, iI_mul, iI_neg, iI_divn, iI_lt_t, iI_lt_f, iI_le_t, iI_le_f, iI_eq_t, iI_eq_f, iI_lt, iI_le, iI_eq, iI_idx, iI_inb, gI_sI, gL_sL, gZ_sZ, gI_sL, gI_sZ, gL_sI, gL_sZ, gZ_sI, gZ_sL, Nat.reduceEqDiff, false_and, and_false, and_true, true_and, and_self, h]; done)
theorem declare_op {B : Nat} {law : Option (List (Int × List Int))} {n mg wd tx bc : Int} {t : Mt} {m : Mem} (h : IV B law n mg wd tx bc t m) : Both B cdU F_T_declare F_M_declare m := by
  obtain ⟨c0, c1, c2, c3, c4, c5, c6, c7, c8, c9, clg⟩ := h.cm
  obtain ⟨w9, w10, w11, w12, w13, w14, w15, w16, w17, w18, wlg⟩ := h.wm
  simp only [Nat.zero_add] at w9 w10 w11 w12 w13 w14 w15 w16 w17 w18 wlg
  have k_fi0 := h.mo.fi0
  have k_fi1 := h.mo.fi1
  have k_in0 := h.mo.in0
  have k_in3 := h.mo.in3
  have k_ou0 := h.mo.ou0
  have k_ou1 := h.mo.ou1
  have k_pl0 := h.mo.pl0
  have k_pl1 := h.mo.pl1
  have k_wi0 := h.mo.wi0
  have k_wi2 := h.mo.wi2
  have k_a0 := h.mo.a0
  have k_a1 := h.mo.a1
  have k_b0 := h.mo.b0
  have k_b1 := h.mo.b1
  have k_fo := h.mo.fo
  have k_no := h.mo.no
  have k_on := h.mo.on
  have k_pn := h.mo.pn
  have k_fre := h.mo.fre
  have k_n1 := h.gr.n1
  have k_n9 := h.gr.n9
  have k_cn := h.gr.cn
  have k_wn := h.gr.wn
  have k_cmg := h.gr.cmg
  have k_wmg := h.gr.wmg
  have k_mg0 := h.gr.mg0
  have k_mg9 := h.gr.mg9
  unfold Both
  have x1 := TcanD_eq (t := t) (m := m) c0 c1 c4 c6 k_fi0 k_fi1 k_wi0 k_wi2 k_in0 k_in3
  by_cases hr : canD t = true
  · have hr2 := hr
    unfold canD at hr2
    rw [Bool.and_eq_true, decide_eq_true_eq] at hr2
    obtain ⟨⟨f0, won, i2⟩, hfr⟩ := hr2
    have hbr := batZ_rng f0 k_fi1
    have hpn := k_pn f0 won
    have hbn := batZ_rng (t := nxI t) f0 k_fi1
    have mo' : MtOk (jd (nxI t) n) n := by
      have hjw : jw (nxI t) n = if t.inn + 1 = 3 ∧ 0 < leadZ (nxI t) (batZ (nxI t)) then batZ (nxI t) else t.win := by
        unfold jw
        show (if t.inn + 1 = 3 ∧ 0 < leadZ (nxI t) (batZ (nxI t)) then batZ (nxI t) else if t.inn + 1 = 3 ∧ (0 : Int) = 10 then (if leadZ (nxI t) (batZ (nxI t)) = 0 then 2 else 1 - batZ (nxI t)) else if n ≤ t.pl then 2 else t.win) = _
        split
        · rfl
        · rw [if_neg (fun q => absurd q.2 (by decide)), if_neg (by omega)]
      have hj2 : -1 ≤ jw (nxI t) n ∧ jw (nxI t) n ≤ 2 := by rw [hjw]; split <;> omega
      exact MtOk.mk ⟨k_fi0, k_fi1, show 0 ≤ t.inn + 1 by omega, show t.inn + 1 ≤ 3 by omega, show (0 : Int) ≤ 0 by omega, show (0 : Int) ≤ 10 by omega, k_pl0, k_pl1, hj2.1, hj2.2, k_a0, k_a1, k_b0, k_b1, fun q => by have := k_fo q; show 2 ≤ t.inn + 1; omega, fun q => by have q' : t.fi = -1 := q; omega, fun _ => by show (0 : Int) < 10; omega, fun _ _ => hpn, fun _ => rfl⟩
    obtain ⟨m2, m4, e1, h79, e2, iv, t0⟩ := act_both h mo' (iI (leadZ t (batZ t))) (α := Nat ⊕ Int32) (.inr (iI (leadZ t (batZ t)))) (fun mq4 => bnd (F_Ma_batting mq4) fun xq9 mq7 => bnd (F_Ma_endByDeclaring (gI mq7 3 0) mq7) fun _ mq10 => bnd (F_Ma_leadOf xq9 mq10) fun xq15 mq13 => some (.inr xq15, mq13)) (fun mq10 => bnd (F_M_batter mq10) fun xq15 mq13 => bnd (F_M_leadOf xq15 mq13) fun xq18 mq16 => bnd (F_M_nextInnings mq16) fun _ mq19 => some (xq18, mq19)) (by
        intro m1 hc1 hg1 hl1 hw1
        obtain ⟨d0, d1, d2, d3, d4, d5, d6, d7, d8, d9, dlg⟩ := id hc1
        rw [bnd_some (Tbatting_eq d0 d1 d5 k_in0 k_in3 k_fo), hg1.cn]
        have hcf : CF (sZ (sI (sI m1 16 1 (iI (t.inn + 1))) 16 2 0) 16 6 true) (nxI t) := by
          refine ⟨?_, ?_, ?_, ?_, ?_, ?_, ?_, ?_, ?_, ?_⟩
          · show _ = iI t.fi
            simp (disch := omega) only [↓lt_def, ↓reduceIte, ckB_true, bnd_e, Int.reduceAdd, Int.reduceSub, Int.reduceMul, Int.reduceNeg, Int.reduceToNat, Bool.false_eq_true, eq_self, not_false_eq_true, not_true_eq_false, Int.toNat_natCast, lt0, lt1, lt2, lt3, lt4, lt5, lt6, lt7, lt8, lt9, lt10, lt11, lt12, lt13, lt14, lt15, lt16, lt17, lt18, lt19, lt20, lt21, lt22, lt23, lt24, lt25, lt26, lt27, lt28, lt29, lt30, lt31, lt32, lt40, lt41, lt43, lt48, lt55, lt57, lt59, lt60, lt62, lt63, lt64, lt70, lt72, lt81, lt97, lt99, lt100, lt122, lt162, lt180, lt235, lt255, lt298, lt299, lt325, lt335, lt400, lt837, lt999, lt1000, lt1001, lt1002, lt1003, lt1004, lt1005, lt1006, lt1007, lt1008, lt1100, lt1101, lt1102, lt1103, lt1104, lt1105, lt1135, lt1136, lt1172, lt2000, lt3278, lt3575, lt10000, lt12345, lt21450, lt32767, lt193050, lt1103515245, ltm162, ltm99, ltm81, ltm8, ltm1, iI_add, iI_sub, iI_mul, iI_neg, iI_divn, iI_lt_t, iI_lt_f, iI_le_t, iI_le_f, iI_eq_t, iI_eq_f, iI_lt, iI_le, iI_eq, iI_idx, iI_inb, gI_sI, gL_sL, gZ_sZ, gI_sL, gI_sZ, gL_sI, gL_sZ, gZ_sI, gZ_sL, Nat.reduceEqDiff, false_and, and_false, and_true, true_and, and_self, d0]
          · show _ = iI (t.inn + 1)
            simp (disch := omega) only [↓lt_def, ↓reduceIte, ckB_true, bnd_e, Int.reduceAdd, Int.reduceSub, Int.reduceMul, Int.reduceNeg, Int.reduceToNat, Bool.false_eq_true, eq_self, not_false_eq_true, not_true_eq_false, Int.toNat_natCast, lt0, lt1, lt2, lt3, lt4, lt5, lt6, lt7, lt8, lt9, lt10, lt11, lt12, lt13, lt14, lt15, lt16, lt17, lt18, lt19, lt20, lt21, lt22, lt23, lt24, lt25, lt26, lt27, lt28, lt29, lt30, lt31, lt32, lt40, lt41, lt43, lt48, lt55, lt57, lt59, lt60, lt62, lt63, lt64, lt70, lt72, lt81, lt97, lt99, lt100, lt122, lt162, lt180, lt235, lt255, lt298, lt299, lt325, lt335, lt400, lt837, lt999, lt1000, lt1001, lt1002, lt1003, lt1004, lt1005, lt1006, lt1007, lt1008, lt1100, lt1101, lt1102, lt1103, lt1104, lt1105, lt1135, lt1136, lt1172, lt2000, lt3278, lt3575, lt10000, lt12345, lt21450, lt32767, lt193050, lt1103515245, ltm162, ltm99, ltm81, ltm8, ltm1, iI_add, iI_sub, iI_mul, iI_neg, iI_divn, iI_lt_t, iI_lt_f, iI_le_t, iI_le_f, iI_eq_t, iI_eq_f, iI_lt, iI_le, iI_eq, iI_idx, iI_inb, gI_sI, gL_sL, gZ_sZ, gI_sL, gI_sZ, gL_sI, gL_sZ, gZ_sI, gZ_sL, Nat.reduceEqDiff, false_and, and_false, and_true, true_and, and_self]
          · show _ = iI 0
            simp (disch := omega) only [↓lt_def, ↓reduceIte, ckB_true, bnd_e, Int.reduceAdd, Int.reduceSub, Int.reduceMul, Int.reduceNeg, Int.reduceToNat, Bool.false_eq_true, eq_self, not_false_eq_true, not_true_eq_false, Int.toNat_natCast, lt0, lt1, lt2, lt3, lt4, lt5, lt6, lt7, lt8, lt9, lt10, lt11, lt12, lt13, lt14, lt15, lt16, lt17, lt18, lt19, lt20, lt21, lt22, lt23, lt24, lt25, lt26, lt27, lt28, lt29, lt30, lt31, lt32, lt40, lt41, lt43, lt48, lt55, lt57, lt59, lt60, lt62, lt63, lt64, lt70, lt72, lt81, lt97, lt99, lt100, lt122, lt162, lt180, lt235, lt255, lt298, lt299, lt325, lt335, lt400, lt837, lt999, lt1000, lt1001, lt1002, lt1003, lt1004, lt1005, lt1006, lt1007, lt1008, lt1100, lt1101, lt1102, lt1103, lt1104, lt1105, lt1135, lt1136, lt1172, lt2000, lt3278, lt3575, lt10000, lt12345, lt21450, lt32767, lt193050, lt1103515245, ltm162, ltm99, ltm81, ltm8, ltm1, iI_add, iI_sub, iI_mul, iI_neg, iI_divn, iI_lt_t, iI_lt_f, iI_le_t, iI_le_f, iI_eq_t, iI_eq_f, iI_lt, iI_le, iI_eq, iI_idx, iI_inb, gI_sI, gL_sL, gZ_sZ, gI_sL, gI_sZ, gL_sI, gL_sZ, gZ_sI, gZ_sL, Nat.reduceEqDiff, false_and, and_false, and_true, true_and, and_self]
          · show _ = iI t.pl
            simp (disch := omega) only [↓lt_def, ↓reduceIte, ckB_true, bnd_e, Int.reduceAdd, Int.reduceSub, Int.reduceMul, Int.reduceNeg, Int.reduceToNat, Bool.false_eq_true, eq_self, not_false_eq_true, not_true_eq_false, Int.toNat_natCast, lt0, lt1, lt2, lt3, lt4, lt5, lt6, lt7, lt8, lt9, lt10, lt11, lt12, lt13, lt14, lt15, lt16, lt17, lt18, lt19, lt20, lt21, lt22, lt23, lt24, lt25, lt26, lt27, lt28, lt29, lt30, lt31, lt32, lt40, lt41, lt43, lt48, lt55, lt57, lt59, lt60, lt62, lt63, lt64, lt70, lt72, lt81, lt97, lt99, lt100, lt122, lt162, lt180, lt235, lt255, lt298, lt299, lt325, lt335, lt400, lt837, lt999, lt1000, lt1001, lt1002, lt1003, lt1004, lt1005, lt1006, lt1007, lt1008, lt1100, lt1101, lt1102, lt1103, lt1104, lt1105, lt1135, lt1136, lt1172, lt2000, lt3278, lt3575, lt10000, lt12345, lt21450, lt32767, lt193050, lt1103515245, ltm162, ltm99, ltm81, ltm8, ltm1, iI_add, iI_sub, iI_mul, iI_neg, iI_divn, iI_lt_t, iI_lt_f, iI_le_t, iI_le_f, iI_eq_t, iI_eq_f, iI_lt, iI_le, iI_eq, iI_idx, iI_inb, gI_sI, gL_sL, gZ_sZ, gI_sL, gI_sZ, gL_sI, gL_sZ, gZ_sI, gZ_sL, Nat.reduceEqDiff, false_and, and_false, and_true, true_and, and_self, d3]
          · show _ = iI t.win
            simp (disch := omega) only [↓lt_def, ↓reduceIte, ckB_true, bnd_e, Int.reduceAdd, Int.reduceSub, Int.reduceMul, Int.reduceNeg, Int.reduceToNat, Bool.false_eq_true, eq_self, not_false_eq_true, not_true_eq_false, Int.toNat_natCast, lt0, lt1, lt2, lt3, lt4, lt5, lt6, lt7, lt8, lt9, lt10, lt11, lt12, lt13, lt14, lt15, lt16, lt17, lt18, lt19, lt20, lt21, lt22, lt23, lt24, lt25, lt26, lt27, lt28, lt29, lt30, lt31, lt32, lt40, lt41, lt43, lt48, lt55, lt57, lt59, lt60, lt62, lt63, lt64, lt70, lt72, lt81, lt97, lt99, lt100, lt122, lt162, lt180, lt235, lt255, lt298, lt299, lt325, lt335, lt400, lt837, lt999, lt1000, lt1001, lt1002, lt1003, lt1004, lt1005, lt1006, lt1007, lt1008, lt1100, lt1101, lt1102, lt1103, lt1104, lt1105, lt1135, lt1136, lt1172, lt2000, lt3278, lt3575, lt10000, lt12345, lt21450, lt32767, lt193050, lt1103515245, ltm162, ltm99, ltm81, ltm8, ltm1, iI_add, iI_sub, iI_mul, iI_neg, iI_divn, iI_lt_t, iI_lt_f, iI_le_t, iI_le_f, iI_eq_t, iI_eq_f, iI_lt, iI_le, iI_eq, iI_idx, iI_inb, gI_sI, gL_sL, gZ_sZ, gI_sL, gI_sZ, gL_sI, gL_sZ, gZ_sI, gZ_sL, Nat.reduceEqDiff, false_and, and_false, and_true, true_and, and_self, d4]
          · show _ = t.fol
            simp (disch := omega) only [↓lt_def, ↓reduceIte, ckB_true, bnd_e, Int.reduceAdd, Int.reduceSub, Int.reduceMul, Int.reduceNeg, Int.reduceToNat, Bool.false_eq_true, eq_self, not_false_eq_true, not_true_eq_false, Int.toNat_natCast, lt0, lt1, lt2, lt3, lt4, lt5, lt6, lt7, lt8, lt9, lt10, lt11, lt12, lt13, lt14, lt15, lt16, lt17, lt18, lt19, lt20, lt21, lt22, lt23, lt24, lt25, lt26, lt27, lt28, lt29, lt30, lt31, lt32, lt40, lt41, lt43, lt48, lt55, lt57, lt59, lt60, lt62, lt63, lt64, lt70, lt72, lt81, lt97, lt99, lt100, lt122, lt162, lt180, lt235, lt255, lt298, lt299, lt325, lt335, lt400, lt837, lt999, lt1000, lt1001, lt1002, lt1003, lt1004, lt1005, lt1006, lt1007, lt1008, lt1100, lt1101, lt1102, lt1103, lt1104, lt1105, lt1135, lt1136, lt1172, lt2000, lt3278, lt3575, lt10000, lt12345, lt21450, lt32767, lt193050, lt1103515245, ltm162, ltm99, ltm81, ltm8, ltm1, iI_add, iI_sub, iI_mul, iI_neg, iI_divn, iI_lt_t, iI_lt_f, iI_le_t, iI_le_f, iI_eq_t, iI_eq_f, iI_lt, iI_le, iI_eq, iI_idx, iI_inb, gI_sI, gL_sL, gZ_sZ, gI_sL, gI_sZ, gL_sI, gL_sZ, gZ_sI, gZ_sL, Nat.reduceEqDiff, false_and, and_false, and_true, true_and, and_self, d5]
          · show _ = true
            simp (disch := omega) only [↓lt_def, ↓reduceIte, ckB_true, bnd_e, Int.reduceAdd, Int.reduceSub, Int.reduceMul, Int.reduceNeg, Int.reduceToNat, Bool.false_eq_true, eq_self, not_false_eq_true, not_true_eq_false, Int.toNat_natCast, lt0, lt1, lt2, lt3, lt4, lt5, lt6, lt7, lt8, lt9, lt10, lt11, lt12, lt13, lt14, lt15, lt16, lt17, lt18, lt19, lt20, lt21, lt22, lt23, lt24, lt25, lt26, lt27, lt28, lt29, lt30, lt31, lt32, lt40, lt41, lt43, lt48, lt55, lt57, lt59, lt60, lt62, lt63, lt64, lt70, lt72, lt81, lt97, lt99, lt100, lt122, lt162, lt180, lt235, lt255, lt298, lt299, lt325, lt335, lt400, lt837, lt999, lt1000, lt1001, lt1002, lt1003, lt1004, lt1005, lt1006, lt1007, lt1008, lt1100, lt1101, lt1102, lt1103, lt1104, lt1105, lt1135, lt1136, lt1172, lt2000, lt3278, lt3575, lt10000, lt12345, lt21450, lt32767, lt193050, lt1103515245, ltm162, ltm99, ltm81, ltm8, ltm1, iI_add, iI_sub, iI_mul, iI_neg, iI_divn, iI_lt_t, iI_lt_f, iI_le_t, iI_le_f, iI_eq_t, iI_eq_f, iI_lt, iI_le, iI_eq, iI_idx, iI_inb, gI_sI, gL_sL, gZ_sZ, gI_sL, gI_sZ, gL_sI, gL_sZ, gZ_sI, gZ_sL, Nat.reduceEqDiff, false_and, and_false, and_true, true_and, and_self]
          · show _ = t.sd
            simp (disch := omega) only [↓lt_def, ↓reduceIte, ckB_true, bnd_e, Int.reduceAdd, Int.reduceSub, Int.reduceMul, Int.reduceNeg, Int.reduceToNat, Bool.false_eq_true, eq_self, not_false_eq_true, not_true_eq_false, Int.toNat_natCast, lt0, lt1, lt2, lt3, lt4, lt5, lt6, lt7, lt8, lt9, lt10, lt11, lt12, lt13, lt14, lt15, lt16, lt17, lt18, lt19, lt20, lt21, lt22, lt23, lt24, lt25, lt26, lt27, lt28, lt29, lt30, lt31, lt32, lt40, lt41, lt43, lt48, lt55, lt57, lt59, lt60, lt62, lt63, lt64, lt70, lt72, lt81, lt97, lt99, lt100, lt122, lt162, lt180, lt235, lt255, lt298, lt299, lt325, lt335, lt400, lt837, lt999, lt1000, lt1001, lt1002, lt1003, lt1004, lt1005, lt1006, lt1007, lt1008, lt1100, lt1101, lt1102, lt1103, lt1104, lt1105, lt1135, lt1136, lt1172, lt2000, lt3278, lt3575, lt10000, lt12345, lt21450, lt32767, lt193050, lt1103515245, ltm162, ltm99, ltm81, ltm8, ltm1, iI_add, iI_sub, iI_mul, iI_neg, iI_divn, iI_lt_t, iI_lt_f, iI_le_t, iI_le_f, iI_eq_t, iI_eq_f, iI_lt, iI_le, iI_eq, iI_idx, iI_inb, gI_sI, gL_sL, gZ_sZ, gI_sL, gI_sZ, gL_sI, gL_sZ, gZ_sI, gZ_sL, Nat.reduceEqDiff, false_and, and_false, and_true, true_and, and_self, d7]
          · show _ = iI t.r0
            simp (disch := omega) only [↓lt_def, ↓reduceIte, ckB_true, bnd_e, Int.reduceAdd, Int.reduceSub, Int.reduceMul, Int.reduceNeg, Int.reduceToNat, Bool.false_eq_true, eq_self, not_false_eq_true, not_true_eq_false, Int.toNat_natCast, lt0, lt1, lt2, lt3, lt4, lt5, lt6, lt7, lt8, lt9, lt10, lt11, lt12, lt13, lt14, lt15, lt16, lt17, lt18, lt19, lt20, lt21, lt22, lt23, lt24, lt25, lt26, lt27, lt28, lt29, lt30, lt31, lt32, lt40, lt41, lt43, lt48, lt55, lt57, lt59, lt60, lt62, lt63, lt64, lt70, lt72, lt81, lt97, lt99, lt100, lt122, lt162, lt180, lt235, lt255, lt298, lt299, lt325, lt335, lt400, lt837, lt999, lt1000, lt1001, lt1002, lt1003, lt1004, lt1005, lt1006, lt1007, lt1008, lt1100, lt1101, lt1102, lt1103, lt1104, lt1105, lt1135, lt1136, lt1172, lt2000, lt3278, lt3575, lt10000, lt12345, lt21450, lt32767, lt193050, lt1103515245, ltm162, ltm99, ltm81, ltm8, ltm1, iI_add, iI_sub, iI_mul, iI_neg, iI_divn, iI_lt_t, iI_lt_f, iI_le_t, iI_le_f, iI_eq_t, iI_eq_f, iI_lt, iI_le, iI_eq, iI_idx, iI_inb, gI_sI, gL_sL, gZ_sZ, gI_sL, gI_sZ, gL_sI, gL_sZ, gZ_sI, gZ_sL, Nat.reduceEqDiff, false_and, and_false, and_true, true_and, and_self, d8]
          · show _ = iI t.r1
            simp (disch := omega) only [↓lt_def, ↓reduceIte, ckB_true, bnd_e, Int.reduceAdd, Int.reduceSub, Int.reduceMul, Int.reduceNeg, Int.reduceToNat, Bool.false_eq_true, eq_self, not_false_eq_true, not_true_eq_false, Int.toNat_natCast, lt0, lt1, lt2, lt3, lt4, lt5, lt6, lt7, lt8, lt9, lt10, lt11, lt12, lt13, lt14, lt15, lt16, lt17, lt18, lt19, lt20, lt21, lt22, lt23, lt24, lt25, lt26, lt27, lt28, lt29, lt30, lt31, lt32, lt40, lt41, lt43, lt48, lt55, lt57, lt59, lt60, lt62, lt63, lt64, lt70, lt72, lt81, lt97, lt99, lt100, lt122, lt162, lt180, lt235, lt255, lt298, lt299, lt325, lt335, lt400, lt837, lt999, lt1000, lt1001, lt1002, lt1003, lt1004, lt1005, lt1006, lt1007, lt1008, lt1100, lt1101, lt1102, lt1103, lt1104, lt1105, lt1135, lt1136, lt1172, lt2000, lt3278, lt3575, lt10000, lt12345, lt21450, lt32767, lt193050, lt1103515245, ltm162, ltm99, ltm81, ltm8, ltm1, iI_add, iI_sub, iI_mul, iI_neg, iI_divn, iI_lt_t, iI_lt_f, iI_le_t, iI_le_f, iI_eq_t, iI_eq_f, iI_lt, iI_le, iI_eq, iI_idx, iI_inb, gI_sI, gL_sL, gZ_sZ, gI_sL, gI_sZ, gL_sI, gL_sZ, gZ_sI, gZ_sL, Nat.reduceEqDiff, false_and, and_false, and_true, true_and, and_self, d9]
        have hln : -100 ≤ leadZ (nxI t) (batZ (nxI t)) ∧ leadZ (nxI t) (batZ (nxI t)) ≤ 100 := by
          have q0 : (nxI t).r0 = t.r0 := rfl
          have q1 : (nxI t).r1 = t.r1 := rfl
          unfold leadZ; rw [q0, q1]; split <;> omega
        obtain ⟨_, mx, ex, cx, fx⟩ := Tjudge_ok hcf (show 0 ≤ t.inn + 1 by omega) (show t.inn + 1 ≤ 3 by omega) (fun q => by have := k_fo q; show 2 ≤ t.inn + 1; omega) f0 k_fi1 (show (0 : Int) ≤ 0 by omega) (show (0 : Int) ≤ 10 by omega) k_pl0 (show t.pl ≤ 9 by omega) k_n1 k_n9 hln.1 hln.2
        have ee : F_Ma_endByDeclaring (iI n) m1 = some ((), mx) := by
          unfold F_Ma_endByDeclaring F_Ma_beginNext
          rw [d1, lt1, iI_add, lt_def, lt_def, lt_def, bnd_e, bnd_some ex]
        refine ok_bnd_e ee (ok_bnd_e (Tlead_eq (t := t) cx.2.2.2.2.2.2.2.2.1 cx.2.2.2.2.2.2.2.2.2 hbr.1 hbr.2) (ok_some ⟨rfl, cx.log ?_, ?_, ?_⟩))
        · intro j hj
          rw [fx.gI (by simp) (by simp), gI_sZ, gI_sI, if_neg (fun q => absurd q.1 (by decide)), gI_sI, if_neg (fun q => absurd q.1 (by decide))]
          exact dlg j hj
        · refine hl1.cg2 (fun j => ?_) ?_ ?_ (fun j _ _ => ?_)
          all_goals rw [fx.gI (by simp) (by simp), gI_sZ, gI_sI, if_neg (fun q => absurd q.1 (by decide)), gI_sI, if_neg (fun q => absurd q.1 (by decide))]
        · have y2 : Fr [16] [] m1 (sZ (sI (sI m1 16 1 (iI (t.inn + 1))) 16 2 0) 16 6 true) := Fr_sZ rfl (Fr_sI rfl (Fr_sI rfl Fr_rf (by simp)) (by simp)) (by simp)
          intro o j p q
          simp only [List.mem_cons, List.not_mem_nil, or_false, not_or] at p
          have y := fx o j (by simp) (by simp; omega)
          have y3 := y2 o j (by simp; omega) (by simp)
          exact ⟨y.1.trans y3.1, y.2.1.trans y3.2.1, y.2.2.trans y3.2.2⟩) (by
        intro m3 hw3 hg3 hw4
        obtain ⟨d9, d10, d11, d12, d13, d14, d15, d16, d17, d18, dlg⟩ := id hw3
        simp only [Nat.zero_add] at dlg
        rw [bnd_some (Mbatter_eq d10 d11 d12 k_in0 k_in3), bnd_some (Mlead_eq d15 d16 hbr.1 hbr.2)]
        obtain ⟨mx, ex, wx, ox⟩ := Mnext_ok (t := t) ⟨d9, d10, d11, d12, d13, d14, d15, d16, d17, d18⟩ k_in0 (by omega) k_fo f0 k_fi1 k_a0 (by omega) k_b0 (by omega)
        have hjw : jw (nxI t) n = if t.inn + 1 = 3 ∧ 0 < leadZ (nxI t) (batZ (nxI t)) then batZ (nxI t) else t.win := by
          unfold jw
          show (if t.inn + 1 = 3 ∧ 0 < leadZ (nxI t) (batZ (nxI t)) then batZ (nxI t) else if t.inn + 1 = 3 ∧ (0 : Int) = 10 then (if leadZ (nxI t) (batZ (nxI t)) = 0 then 2 else 1 - batZ (nxI t)) else if n ≤ t.pl then 2 else t.win) = _
          split
          · rfl
          · rw [if_neg (fun q => absurd q.2 (by decide)), if_neg (by omega)]
        rw [← hjw] at wx
        refine ok_bnd_e ex (ok_some ⟨rfl, wx.log ?_, fun j hj => ox _ _ (by omega), Fr_wk (fr_M_nextInnings _ _ _ ex) (by simp) (by simp)⟩)
        intro j hj
        rw [ox _ _ (by omega)]
        exact dlg j hj)
    have x2 := McanD_eq (t := t) (m := sI m2 78 0 0) (by rw [gI_sI, if_neg (fun q => absurd q.1 (by decide)), h79]; exact w10) (by rw [gI_sI, if_neg (fun q => absurd q.1 (by decide)), h79]; exact w11) (by rw [gI_sI, if_neg (fun q => absurd q.1 (by decide)), h79]; exact w18) (by rw [gI_sI, if_neg (fun q => absurd q.1 (by decide)), h79]; exact w14) k_fi0 k_fi1 k_wi0 k_wi2 k_in0 k_in3
    rw [hr] at x1 x2
    repeat' (first
      | (with_reducible refine ok_ck ?_ ?_; focus (simp (disch := omega) only [↓lt_def, ↓reduceIte, ckB_true, bnd_e, Int.reduceAdd, Int.reduceSub, Int.reduceMul, Int.reduceNeg, Int.reduceToNat, Bool.false_eq_true, eq_self, not_false_eq_true, not_true_eq_false, Int.toNat_natCast, lt0, lt1, lt2, lt3, lt4, lt5, lt6, lt7, lt8, lt9, lt10, lt11, lt12, lt13, lt14, lt15, lt16, lt17, lt18, lt19, lt20, lt21, lt22, lt23, lt24, lt25, lt26, lt27, lt28, lt29, lt30, lt31, lt32, lt40, lt41, lt43, lt48, lt55, lt57, lt59, lt60, lt62, lt63, lt64, lt70, lt72, lt81, lt97, lt99, lt100, lt122, lt162, lt180, lt235, lt255, lt298, lt299, lt325, lt335, lt400, lt837, lt999, lt1000, lt1001, lt1002, lt1003, lt1004, lt1005, lt1006, lt1007, lt1008, lt1100, lt1101, lt1102, lt1103, lt1104, lt1105, lt1135, lt1136, lt1172, lt2000, lt3278, lt3575, lt10000, lt12345, lt21450, lt32767, lt193050, lt1103515245, ltm162, ltm99, ltm81, ltm8, ltm1, iI_add, iI_sub, iI_mul, iI_neg, iI_divn, iI_lt_t, iI_lt_f, iI_le_t, iI_le_f, iI_eq_t, iI_eq_f, iI_lt, iI_le, iI_eq, iI_idx, iI_inb, gI_sI, gL_sL, gZ_sZ, gI_sL, gI_sZ, gL_sI, gL_sZ, gZ_sI, gZ_sL, Nat.reduceEqDiff, false_and, and_false, and_true, true_and, and_self]; done))
      | (with_reducible refine ok_bnd_e (x1) ?_)
      | (with_reducible refine ok_bnd_e (x2) ?_)
      | (with_reducible refine ok_e e1 ?_)
      | (with_reducible refine ok_e e2 ?_)
      | (with_reducible refine ok_bnd ?_)
      | (with_reducible refine ok_bndX ?_)
      | (with_reducible refine ok_lt ?_)
      | (with_reducible refine ok_t ?_ ?_; focus (simp (disch := omega) only [↓lt_def, ↓reduceIte, ckB_true, bnd_e, Int.reduceAdd, Int.reduceSub, Int.reduceMul, Int.reduceNeg, Int.reduceToNat, Bool.false_eq_true, eq_self, not_false_eq_true, not_true_eq_false, Int.toNat_natCast, lt0, lt1, lt2, lt3, lt4, lt5, lt6, lt7, lt8, lt9, lt10, lt11, lt12, lt13, lt14, lt15, lt16, lt17, lt18, lt19, lt20, lt21, lt22, lt23, lt24, lt25, lt26, lt27, lt28, lt29, lt30, lt31, lt32, lt40, lt41, lt43, lt48, lt55, lt57, lt59, lt60, lt62, lt63, lt64, lt70, lt72, lt81, lt97, lt99, lt100, lt122, lt162, lt180, lt235, lt255, lt298, lt299, lt325, lt335, lt400, lt837, lt999, lt1000, lt1001, lt1002, lt1003, lt1004, lt1005, lt1006, lt1007, lt1008, lt1100, lt1101, lt1102, lt1103, lt1104, lt1105, lt1135, lt1136, lt1172, lt2000, lt3278, lt3575, lt10000, lt12345, lt21450, lt32767, lt193050, lt1103515245, ltm162, ltm99, ltm81, ltm8, ltm1, iI_add, iI_sub, iI_mul, iI_neg, iI_divn, iI_lt_t, iI_lt_f, iI_le_t, iI_le_f, iI_eq_t, iI_eq_f, iI_lt, iI_le, iI_eq, iI_idx, iI_inb, gI_sI, gL_sL, gZ_sZ, gI_sL, gI_sZ, gL_sI, gL_sZ, gZ_sI, gZ_sL, Nat.reduceEqDiff, false_and, and_false, and_true, true_and, and_self]; done))
      | (with_reducible refine ok_f ?_ ?_; focus (simp (disch := omega) only [↓lt_def, ↓reduceIte, ckB_true, bnd_e, Int.reduceAdd, Int.reduceSub, Int.reduceMul, Int.reduceNeg, Int.reduceToNat, Bool.false_eq_true, eq_self, not_false_eq_true, not_true_eq_false, Int.toNat_natCast, lt0, lt1, lt2, lt3, lt4, lt5, lt6, lt7, lt8, lt9, lt10, lt11, lt12, lt13, lt14, lt15, lt16, lt17, lt18, lt19, lt20, lt21, lt22, lt23, lt24, lt25, lt26, lt27, lt28, lt29, lt30, lt31, lt32, lt40, lt41, lt43, lt48, lt55, lt57, lt59, lt60, lt62, lt63, lt64, lt70, lt72, lt81, lt97, lt99, lt100, lt122, lt162, lt180, lt235, lt255, lt298, lt299, lt325, lt335, lt400, lt837, lt999, lt1000, lt1001, lt1002, lt1003, lt1004, lt1005, lt1006, lt1007, lt1008, lt1100, lt1101, lt1102, lt1103, lt1104, lt1105, lt1135, lt1136, lt1172, lt2000, lt3278, lt3575, lt10000, lt12345, lt21450, lt32767, lt193050, lt1103515245, ltm162, ltm99, ltm81, ltm8, ltm1, iI_add, iI_sub, iI_mul, iI_neg, iI_divn, iI_lt_t, iI_lt_f, iI_le_t, iI_le_f, iI_eq_t, iI_eq_f, iI_lt, iI_le, iI_eq, iI_idx, iI_inb, gI_sI, gL_sL, gZ_sZ, gI_sL, gI_sZ, gL_sI, gL_sZ, gZ_sI, gZ_sL, Nat.reduceEqDiff, false_and, and_false, and_true, true_and, and_self]; done))
      | ((with_reducible refine ok_ite (fun hc => ?_) (fun hc => ?_)) <;> (try simp (disch := omega) only [↓lt_def, ↓reduceIte, ckB_true, bnd_e, Int.reduceAdd, Int.reduceSub, Int.reduceMul, Int.reduceNeg, Int.reduceToNat, Bool.false_eq_true, eq_self, not_false_eq_true, not_true_eq_false, Int.toNat_natCast, lt0, lt1, lt2, lt3, lt4, lt5, lt6, lt7, lt8, lt9, lt10, lt11, lt12, lt13, lt14, lt15, lt16, lt17, lt18, lt19, lt20, lt21, lt22, lt23, lt24, lt25, lt26, lt27, lt28, lt29, lt30, lt31, lt32, lt40, lt41, lt43, lt48, lt55, lt57, lt59, lt60, lt62, lt63, lt64, lt70, lt72, lt81, lt97, lt99, lt100, lt122, lt162, lt180, lt235, lt255, lt298, lt299, lt325, lt335, lt400, lt837, lt999, lt1000, lt1001, lt1002, lt1003, lt1004, lt1005, lt1006, lt1007, lt1008, lt1100, lt1101, lt1102, lt1103, lt1104, lt1105, lt1135, lt1136, lt1172, lt2000, lt3278, lt3575, lt10000, lt12345, lt21450, lt32767, lt193050, lt1103515245, ltm162, ltm99, ltm81, ltm8, ltm1, iI_add, iI_sub, iI_mul, iI_neg, iI_divn, iI_lt_t, iI_lt_f, iI_le_t, iI_le_f, iI_eq_t, iI_eq_f, iI_lt, iI_le, iI_eq, iI_idx, iI_inb, gI_sI, gL_sL, gZ_sZ, gI_sL, gI_sZ, gL_sI, gL_sZ, gZ_sI, gZ_sL, Nat.reduceEqDiff, false_and, and_false, and_true, true_and, and_self] at hc) <;> (try (exfalso; omega)))
      | (with_reducible refine ok_some ?_)
      | (with_reducible refine ok_xr ?_)
      | (with_reducible refine ok_xl ?_)
      | (unfold F_T_declare)
      | (unfold F_M_declare)
      | (unfold F_M_throwsIf))
    exact ⟨⟨t0, rfl⟩, iv.inv⟩
  · have x2 := McanD_eq (t := t) (m := sI m 78 0 0) w10 w11 w18 w14 k_fi0 k_fi1 k_wi0 k_wi2 k_in0 k_in3
    have hr2 : canD t = false := by simpa using hr
    rw [hr2] at x1 x2
    repeat' (first
      | (with_reducible refine ok_ck ?_ ?_; focus (simp (disch := omega) only [↓lt_def, ↓reduceIte, ckB_true, bnd_e, Int.reduceAdd, Int.reduceSub, Int.reduceMul, Int.reduceNeg, Int.reduceToNat, Bool.false_eq_true, eq_self, not_false_eq_true, not_true_eq_false, Int.toNat_natCast, lt0, lt1, lt2, lt3, lt4, lt5, lt6, lt7, lt8, lt9, lt10, lt11, lt12, lt13, lt14, lt15, lt16, lt17, lt18, lt19, lt20, lt21, lt22, lt23, lt24, lt25, lt26, lt27, lt28, lt29, lt30, lt31, lt32, lt40, lt41, lt43, lt48, lt55, lt57, lt59, lt60, lt62, lt63, lt64, lt70, lt72, lt81, lt97, lt99, lt100, lt122, lt162, lt180, lt235, lt255, lt298, lt299, lt325, lt335, lt400, lt837, lt999, lt1000, lt1001, lt1002, lt1003, lt1004, lt1005, lt1006, lt1007, lt1008, lt1100, lt1101, lt1102, lt1103, lt1104, lt1105, lt1135, lt1136, lt1172, lt2000, lt3278, lt3575, lt10000, lt12345, lt21450, lt32767, lt193050, lt1103515245, ltm162, ltm99, ltm81, ltm8, ltm1, iI_add, iI_sub, iI_mul, iI_neg, iI_divn, iI_lt_t, iI_lt_f, iI_le_t, iI_le_f, iI_eq_t, iI_eq_f, iI_lt, iI_le, iI_eq, iI_idx, iI_inb, gI_sI, gL_sL, gZ_sZ, gI_sL, gI_sZ, gL_sI, gL_sZ, gZ_sI, gZ_sL, Nat.reduceEqDiff, false_and, and_false, and_true, true_and, and_self]; done))
      | (with_reducible refine ok_bnd_e (x1) ?_)
      | (with_reducible refine ok_bnd_e (x2) ?_)
      | (with_reducible refine ok_bnd ?_)
      | (with_reducible refine ok_bndX ?_)
      | (with_reducible refine ok_lt ?_)
      | (with_reducible refine ok_t ?_ ?_; focus (simp (disch := omega) only [↓lt_def, ↓reduceIte, ckB_true, bnd_e, Int.reduceAdd, Int.reduceSub, Int.reduceMul, Int.reduceNeg, Int.reduceToNat, Bool.false_eq_true, eq_self, not_false_eq_true, not_true_eq_false, Int.toNat_natCast, lt0, lt1, lt2, lt3, lt4, lt5, lt6, lt7, lt8, lt9, lt10, lt11, lt12, lt13, lt14, lt15, lt16, lt17, lt18, lt19, lt20, lt21, lt22, lt23, lt24, lt25, lt26, lt27, lt28, lt29, lt30, lt31, lt32, lt40, lt41, lt43, lt48, lt55, lt57, lt59, lt60, lt62, lt63, lt64, lt70, lt72, lt81, lt97, lt99, lt100, lt122, lt162, lt180, lt235, lt255, lt298, lt299, lt325, lt335, lt400, lt837, lt999, lt1000, lt1001, lt1002, lt1003, lt1004, lt1005, lt1006, lt1007, lt1008, lt1100, lt1101, lt1102, lt1103, lt1104, lt1105, lt1135, lt1136, lt1172, lt2000, lt3278, lt3575, lt10000, lt12345, lt21450, lt32767, lt193050, lt1103515245, ltm162, ltm99, ltm81, ltm8, ltm1, iI_add, iI_sub, iI_mul, iI_neg, iI_divn, iI_lt_t, iI_lt_f, iI_le_t, iI_le_f, iI_eq_t, iI_eq_f, iI_lt, iI_le, iI_eq, iI_idx, iI_inb, gI_sI, gL_sL, gZ_sZ, gI_sL, gI_sZ, gL_sI, gL_sZ, gZ_sI, gZ_sL, Nat.reduceEqDiff, false_and, and_false, and_true, true_and, and_self]; done))
      | (with_reducible refine ok_f ?_ ?_; focus (simp (disch := omega) only [↓lt_def, ↓reduceIte, ckB_true, bnd_e, Int.reduceAdd, Int.reduceSub, Int.reduceMul, Int.reduceNeg, Int.reduceToNat, Bool.false_eq_true, eq_self, not_false_eq_true, not_true_eq_false, Int.toNat_natCast, lt0, lt1, lt2, lt3, lt4, lt5, lt6, lt7, lt8, lt9, lt10, lt11, lt12, lt13, lt14, lt15, lt16, lt17, lt18, lt19, lt20, lt21, lt22, lt23, lt24, lt25, lt26, lt27, lt28, lt29, lt30, lt31, lt32, lt40, lt41, lt43, lt48, lt55, lt57, lt59, lt60, lt62, lt63, lt64, lt70, lt72, lt81, lt97, lt99, lt100, lt122, lt162, lt180, lt235, lt255, lt298, lt299, lt325, lt335, lt400, lt837, lt999, lt1000, lt1001, lt1002, lt1003, lt1004, lt1005, lt1006, lt1007, lt1008, lt1100, lt1101, lt1102, lt1103, lt1104, lt1105, lt1135, lt1136, lt1172, lt2000, lt3278, lt3575, lt10000, lt12345, lt21450, lt32767, lt193050, lt1103515245, ltm162, ltm99, ltm81, ltm8, ltm1, iI_add, iI_sub, iI_mul, iI_neg, iI_divn, iI_lt_t, iI_lt_f, iI_le_t, iI_le_f, iI_eq_t, iI_eq_f, iI_lt, iI_le, iI_eq, iI_idx, iI_inb, gI_sI, gL_sL, gZ_sZ, gI_sL, gI_sZ, gL_sI, gL_sZ, gZ_sI, gZ_sL, Nat.reduceEqDiff, false_and, and_false, and_true, true_and, and_self]; done))
      | ((with_reducible refine ok_ite (fun hc => ?_) (fun hc => ?_)) <;> (try simp (disch := omega) only [↓lt_def, ↓reduceIte, ckB_true, bnd_e, Int.reduceAdd, Int.reduceSub, Int.reduceMul, Int.reduceNeg, Int.reduceToNat, Bool.false_eq_true, eq_self, not_false_eq_true, not_true_eq_false, Int.toNat_natCast, lt0, lt1, lt2, lt3, lt4, lt5, lt6, lt7, lt8, lt9, lt10, lt11, lt12, lt13, lt14, lt15, lt16, lt17, lt18, lt19, lt20, lt21, lt22, lt23, lt24, lt25, lt26, lt27, lt28, lt29, lt30, lt31, lt32, lt40, lt41, lt43, lt48, lt55, lt57, lt59, lt60, lt62, lt63, lt64, lt70, lt72, lt81, lt97, lt99, lt100, lt122, lt162, lt180, lt235, lt255, lt298, lt299, lt325, lt335, lt400, lt837, lt999, lt1000, lt1001, lt1002, lt1003, lt1004, lt1005, lt1006, lt1007, lt1008, lt1100, lt1101, lt1102, lt1103, lt1104, lt1105, lt1135, lt1136, lt1172, lt2000, lt3278, lt3575, lt10000, lt12345, lt21450, lt32767, lt193050, lt1103515245, ltm162, ltm99, ltm81, ltm8, ltm1, iI_add, iI_sub, iI_mul, iI_neg, iI_divn, iI_lt_t, iI_lt_f, iI_le_t, iI_le_f, iI_eq_t, iI_eq_f, iI_lt, iI_le, iI_eq, iI_idx, iI_inb, gI_sI, gL_sL, gZ_sZ, gI_sL, gI_sZ, gL_sI, gL_sZ, gZ_sI, gZ_sL, Nat.reduceEqDiff, false_and, and_false, and_true, true_and, and_self] at hc) <;> (try (exfalso; omega)))
      | (with_reducible refine ok_some ?_)
      | (with_reducible refine ok_xr ?_)
      | (with_reducible refine ok_xl ?_)
      | (unfold F_T_declare)
      | (unfold F_M_declare)
      | (unfold F_M_throwsIf))
    all_goals first | exact ⟨ans_l (by decide) rfl, (h.thr thr_ss).inv⟩ | exact ⟨ans_r rfl, (h.thr thr_s).inv⟩ | (refine ⟨ans_r ?_, (h.thr thr_s).inv⟩; simp (disch := omega) only [↓lt_def, ↓reduceIte, ckB_true, bnd_e, Int.reduceAdd, Int.reduceSub, Int.reduceMul, Int.reduceNeg, Int.reduceToNat, Bool.false_eq_true, eq_self, not_false_eq_true, not_true_eq_false, Int.toNat_natCast, lt0, lt1, lt2, lt3, lt4, lt5, lt6, lt7, lt8, lt9, lt10, lt11, lt12, lt13, lt14, lt15, lt16, lt17, lt18, lt19, lt20, lt21, lt22, lt23, lt24, lt25, lt26, lt27, lt28, lt29, lt30, lt31, lt32, lt40, lt41, lt43, lt48, lt55, lt57, lt59, lt60, lt62, lt63, lt64, lt70, lt72, lt81, lt97, lt99, lt100, lt122, lt162, lt180, lt235, lt255, lt298, lt299, lt325, lt335, lt400, lt837, lt999, lt1000, lt1001, lt1002, lt1003, lt1004, lt1005, lt1006, lt1007, lt1008, lt1100, lt1101, lt1102, lt1103, lt1104, lt1105, lt1135, lt1136, lt1172, lt2000, lt3278, lt3575, lt10000, lt12345, lt21450, lt32767, lt193050, lt1103515245, ltm162, ltm99, ltm81, ltm8, ltm1, iI_add, iI_sub, iI_mul, iI_neg, iI_divn, iI_lt_t, iI_lt_f, iI_le_t, iI_le_f, iI_eq_t, iI_eq_f, iI_lt, iI_le, iI_eq, iI_idx, iI_inb, gI_sI, gL_sL, gZ_sZ, gI_sL, gI_sZ, gL_sI, gL_sZ, gZ_sI, gZ_sL, Nat.reduceEqDiff, false_and, and_false, and_true, true_and, and_self, h]; done)
def foT (t : Mt) : Mt := Mt.mk t.fi t.inn t.out t.pl t.win true t.fr t.sd t.r0 t.r1 t.lg
theorem follow_op {B : Nat} {law : Option (List (Int × List Int))} {n mg wd tx bc : Int} {t : Mt} {m : Mem} (h : IV B law n mg wd tx bc t m) : Both B cdU F_T_follow F_M_follow m := by
  obtain ⟨c0, c1, c2, c3, c4, c5, c6, c7, c8, c9, clg⟩ := h.cm
  obtain ⟨w9, w10, w11, w12, w13, w14, w15, w16, w17, w18, wlg⟩ := h.wm
  simp only [Nat.zero_add] at w9 w10 w11 w12 w13 w14 w15 w16 w17 w18 wlg
  have k_fi0 := h.mo.fi0
  have k_fi1 := h.mo.fi1
  have k_in0 := h.mo.in0
  have k_in3 := h.mo.in3
  have k_ou0 := h.mo.ou0
  have k_ou1 := h.mo.ou1
  have k_pl0 := h.mo.pl0
  have k_pl1 := h.mo.pl1
  have k_wi0 := h.mo.wi0
  have k_wi2 := h.mo.wi2
  have k_a0 := h.mo.a0
  have k_a1 := h.mo.a1
  have k_b0 := h.mo.b0
  have k_b1 := h.mo.b1
  have k_fo := h.mo.fo
  have k_no := h.mo.no
  have k_on := h.mo.on
  have k_pn := h.mo.pn
  have k_fre := h.mo.fre
  have k_n1 := h.gr.n1
  have k_n9 := h.gr.n9
  have k_cn := h.gr.cn
  have k_wn := h.gr.wn
  have k_cmg := h.gr.cmg
  have k_wmg := h.gr.wmg
  have k_mg0 := h.gr.mg0
  have k_mg9 := h.gr.mg9
  unfold Both
  have x1 := TcanF_eq (t := t) (m := m) (mg := mg) c0 c1 c4 c5 c6 c8 c9 k_fi0 k_fi1 k_wi0 k_wi2 k_in0 k_in3 k_a0 (by omega) k_b0 (by omega) k_mg0 k_mg9
  rw [← k_cmg] at x1
  by_cases hr : canF t mg = true
  · have hr2 := hr
    unfold canF at hr2
    rw [Bool.and_eq_true, Bool.and_eq_true, decide_eq_true_eq] at hr2
    obtain ⟨⟨⟨f0, won, i2, -⟩, hfr⟩, hfo⟩ := hr2
    have mo' : MtOk (foT t) n := MtOk.mk ⟨k_fi0, k_fi1, k_in0, k_in3, k_ou0, k_ou1, k_pl0, k_pl1, k_wi0, k_wi2, k_a0, k_a1, k_b0, k_b1, fun _ => by show 2 ≤ t.inn; omega, k_no, k_on, k_pn, k_fre⟩
    obtain ⟨m2, m4, e1, h79, e2, iv, t0⟩ := act_both h mo' (iI (leadZ t t.fi)) (α := Nat ⊕ Int32) (.inr (iI (leadZ t t.fi))) (fun mq4 => lt (sZ mq4 16 5 true) fun mq7 => bnd (F_Ma_leadOf (gI mq7 16 0) mq7) fun xq10 mq8 => some (.inr xq10, mq8)) (fun mq10 => lt (sI mq10 79 12 (1 : Int32)) fun mq13 => bnd (F_M_firstSide mq13) fun xq16 mq14 => bnd (F_M_leadOf xq16 mq14) fun xq19 mq17 => some (xq19, mq17)) (by
        intro m1 hc1 hg1 hl1 hw1
        obtain ⟨d0, d1, d2, d3, d4, d5, d6, d7, d8, d9, dlg⟩ := id hc1
        refine ok_lt ?_
        rw [show gI (sZ m1 16 5 true) 16 0 = iI t.fi from d0]
        refine ok_bnd_e (Tlead_eq (t := t) (m := sZ m1 16 5 true) d8 d9 f0 k_fi1) (ok_some ⟨rfl, ⟨d0, d1, d2, d3, d4, ?_, ?_, d7, d8, d9, dlg⟩, hl1, Fr_sZ rfl Fr_rf (by simp)⟩)
        · rw [gZ_sZ, if_pos ⟨rfl, rfl⟩]; rfl
        · rw [gZ_sZ, if_neg (fun q => absurd q.2 (by decide))]; exact d6) (by
        intro m3 hw3 hg3 hw4
        obtain ⟨d9, d10, d11, d12, d13, d14, d15, d16, d17, d18, dlg⟩ := id hw3
        have hq : ∀ j, j ≠ 12 → gI (sI m3 79 12 1) 79 j = gI m3 79 j := fun j p => by rw [gI_sI, if_neg (fun q => p q.2)]
        refine ok_lt ?_
        unfold F_M_firstSide
        rw [bnd_e, hq 10 (by decide), show gI m3 79 10 = iI t.fi from d10]
        refine ok_bnd_e (Mlead_eq (t := t) (m := sI m3 79 12 1) ((hq 15 (by decide)).trans d15) ((hq 16 (by decide)).trans d16) f0 k_fi1) (ok_some ⟨rfl, ⟨(hq 9 (by decide)).trans d9, (hq 10 (by decide)).trans d10, (hq 11 (by decide)).trans d11, ?_, (hq 13 (by decide)).trans d13, (hq 14 (by decide)).trans d14, (hq 15 (by decide)).trans d15, (hq 16 (by decide)).trans d16, (hq 17 (by decide)).trans d17, (hq 18 (by decide)).trans d18, fun j hj => (hq _ (by omega)).trans (dlg j hj)⟩, fun j hj => hq j (by omega), Fr_sI rfl Fr_rf (by simp)⟩)
        rw [gI_sI, if_pos ⟨rfl, rfl⟩]; rfl)
    have x2 := McanF_eq (t := t) (m := sI m2 78 0 0) (mg := mg) (by rw [gI_sI, if_neg (fun q => absurd q.1 (by decide)), h79]; exact w10) (by rw [gI_sI, if_neg (fun q => absurd q.1 (by decide)), h79]; exact w11) (by rw [gI_sI, if_neg (fun q => absurd q.1 (by decide)), h79]; exact w18) (by rw [gI_sI, if_neg (fun q => absurd q.1 (by decide)), h79]; exact w12) (by rw [gI_sI, if_neg (fun q => absurd q.1 (by decide)), h79]; exact w14) (by rw [gI_sI, if_neg (fun q => absurd q.1 (by decide)), h79]; exact w15) (by rw [gI_sI, if_neg (fun q => absurd q.1 (by decide)), h79]; exact w16) (by rw [gI_sI, if_neg (fun q => absurd q.1 (by decide)), h79]; exact k_wmg) k_fi0 k_fi1 k_wi0 k_wi2 k_in0 k_in3 k_a0 (by omega) k_b0 (by omega) k_mg0 k_mg9
    rw [hr] at x1 x2
    repeat' (first
      | (with_reducible refine ok_ck ?_ ?_; focus (simp (disch := omega) only [↓lt_def, ↓reduceIte, ckB_true, bnd_e, Int.reduceAdd, Int.reduceSub, Int.reduceMul, Int.reduceNeg, Int.reduceToNat, Bool.false_eq_true, eq_self, not_false_eq_true, not_true_eq_false, Int.toNat_natCast, lt0, lt1, lt2, lt3, lt4, lt5, lt6, lt7, lt8, lt9, lt10, lt11, lt12, lt13, lt14, lt15, lt16, lt17, lt18, lt19, lt20, lt21, lt22, lt23, lt24, lt25, lt26, lt27, lt28, lt29, lt30, lt31, lt32, lt40, lt41, lt43, lt48, lt55, lt57, lt59, lt60, lt62, lt63, lt64, lt70, lt72, lt81, lt97, lt99, lt100, lt122, lt162, lt180, lt235, lt255, lt298, lt299, lt325, lt335, lt400, lt837, lt999, lt1000, lt1001, lt1002, lt1003, lt1004, lt1005, lt1006, lt1007, lt1008, lt1100, lt1101, lt1102, lt1103, lt1104, lt1105, lt1135, lt1136, lt1172, lt2000, lt3278, lt3575, lt10000, lt12345, lt21450, lt32767, lt193050, lt1103515245, ltm162, ltm99, ltm81, ltm8, ltm1, iI_add, iI_sub, iI_mul, iI_neg, iI_divn, iI_lt_t, iI_lt_f, iI_le_t, iI_le_f, iI_eq_t, iI_eq_f, iI_lt, iI_le, iI_eq, iI_idx, iI_inb, gI_sI, gL_sL, gZ_sZ, gI_sL, gI_sZ, gL_sI, gL_sZ, gZ_sI, gZ_sL, Nat.reduceEqDiff, false_and, and_false, and_true, true_and, and_self]; done))
      | (with_reducible refine ok_bnd_e (x1) ?_)
      | (with_reducible refine ok_bnd_e (x2) ?_)
      | (with_reducible refine ok_e e1 ?_)
      | (with_reducible refine ok_e e2 ?_)
      | (with_reducible refine ok_bnd ?_)
      | (with_reducible refine ok_bndX ?_)
      | (with_reducible refine ok_lt ?_)
      | (with_reducible refine ok_t ?_ ?_; focus (simp (disch := omega) only [↓lt_def, ↓reduceIte, ckB_true, bnd_e, Int.reduceAdd, Int.reduceSub, Int.reduceMul, Int.reduceNeg, Int.reduceToNat, Bool.false_eq_true, eq_self, not_false_eq_true, not_true_eq_false, Int.toNat_natCast, lt0, lt1, lt2, lt3, lt4, lt5, lt6, lt7, lt8, lt9, lt10, lt11, lt12, lt13, lt14, lt15, lt16, lt17, lt18, lt19, lt20, lt21, lt22, lt23, lt24, lt25, lt26, lt27, lt28, lt29, lt30, lt31, lt32, lt40, lt41, lt43, lt48, lt55, lt57, lt59, lt60, lt62, lt63, lt64, lt70, lt72, lt81, lt97, lt99, lt100, lt122, lt162, lt180, lt235, lt255, lt298, lt299, lt325, lt335, lt400, lt837, lt999, lt1000, lt1001, lt1002, lt1003, lt1004, lt1005, lt1006, lt1007, lt1008, lt1100, lt1101, lt1102, lt1103, lt1104, lt1105, lt1135, lt1136, lt1172, lt2000, lt3278, lt3575, lt10000, lt12345, lt21450, lt32767, lt193050, lt1103515245, ltm162, ltm99, ltm81, ltm8, ltm1, iI_add, iI_sub, iI_mul, iI_neg, iI_divn, iI_lt_t, iI_lt_f, iI_le_t, iI_le_f, iI_eq_t, iI_eq_f, iI_lt, iI_le, iI_eq, iI_idx, iI_inb, gI_sI, gL_sL, gZ_sZ, gI_sL, gI_sZ, gL_sI, gL_sZ, gZ_sI, gZ_sL, Nat.reduceEqDiff, false_and, and_false, and_true, true_and, and_self]; done))
      | (with_reducible refine ok_f ?_ ?_; focus (simp (disch := omega) only [↓lt_def, ↓reduceIte, ckB_true, bnd_e, Int.reduceAdd, Int.reduceSub, Int.reduceMul, Int.reduceNeg, Int.reduceToNat, Bool.false_eq_true, eq_self, not_false_eq_true, not_true_eq_false, Int.toNat_natCast, lt0, lt1, lt2, lt3, lt4, lt5, lt6, lt7, lt8, lt9, lt10, lt11, lt12, lt13, lt14, lt15, lt16, lt17, lt18, lt19, lt20, lt21, lt22, lt23, lt24, lt25, lt26, lt27, lt28, lt29, lt30, lt31, lt32, lt40, lt41, lt43, lt48, lt55, lt57, lt59, lt60, lt62, lt63, lt64, lt70, lt72, lt81, lt97, lt99, lt100, lt122, lt162, lt180, lt235, lt255, lt298, lt299, lt325, lt335, lt400, lt837, lt999, lt1000, lt1001, lt1002, lt1003, lt1004, lt1005, lt1006, lt1007, lt1008, lt1100, lt1101, lt1102, lt1103, lt1104, lt1105, lt1135, lt1136, lt1172, lt2000, lt3278, lt3575, lt10000, lt12345, lt21450, lt32767, lt193050, lt1103515245, ltm162, ltm99, ltm81, ltm8, ltm1, iI_add, iI_sub, iI_mul, iI_neg, iI_divn, iI_lt_t, iI_lt_f, iI_le_t, iI_le_f, iI_eq_t, iI_eq_f, iI_lt, iI_le, iI_eq, iI_idx, iI_inb, gI_sI, gL_sL, gZ_sZ, gI_sL, gI_sZ, gL_sI, gL_sZ, gZ_sI, gZ_sL, Nat.reduceEqDiff, false_and, and_false, and_true, true_and, and_self]; done))
      | ((with_reducible refine ok_ite (fun hc => ?_) (fun hc => ?_)) <;> (try simp (disch := omega) only [↓lt_def, ↓reduceIte, ckB_true, bnd_e, Int.reduceAdd, Int.reduceSub, Int.reduceMul, Int.reduceNeg, Int.reduceToNat, Bool.false_eq_true, eq_self, not_false_eq_true, not_true_eq_false, Int.toNat_natCast, lt0, lt1, lt2, lt3, lt4, lt5, lt6, lt7, lt8, lt9, lt10, lt11, lt12, lt13, lt14, lt15, lt16, lt17, lt18, lt19, lt20, lt21, lt22, lt23, lt24, lt25, lt26, lt27, lt28, lt29, lt30, lt31, lt32, lt40, lt41, lt43, lt48, lt55, lt57, lt59, lt60, lt62, lt63, lt64, lt70, lt72, lt81, lt97, lt99, lt100, lt122, lt162, lt180, lt235, lt255, lt298, lt299, lt325, lt335, lt400, lt837, lt999, lt1000, lt1001, lt1002, lt1003, lt1004, lt1005, lt1006, lt1007, lt1008, lt1100, lt1101, lt1102, lt1103, lt1104, lt1105, lt1135, lt1136, lt1172, lt2000, lt3278, lt3575, lt10000, lt12345, lt21450, lt32767, lt193050, lt1103515245, ltm162, ltm99, ltm81, ltm8, ltm1, iI_add, iI_sub, iI_mul, iI_neg, iI_divn, iI_lt_t, iI_lt_f, iI_le_t, iI_le_f, iI_eq_t, iI_eq_f, iI_lt, iI_le, iI_eq, iI_idx, iI_inb, gI_sI, gL_sL, gZ_sZ, gI_sL, gI_sZ, gL_sI, gL_sZ, gZ_sI, gZ_sL, Nat.reduceEqDiff, false_and, and_false, and_true, true_and, and_self] at hc) <;> (try (exfalso; omega)))
      | (with_reducible refine ok_some ?_)
      | (with_reducible refine ok_xr ?_)
      | (with_reducible refine ok_xl ?_)
      | (unfold F_T_follow)
      | (unfold F_M_follow)
      | (unfold F_M_throwsIf))
    exact ⟨⟨t0, rfl⟩, iv.inv⟩
  · have x2 := McanF_eq (t := t) (m := sI m 78 0 0) (mg := mg) w10 w11 w18 w12 w14 w15 w16 k_wmg k_fi0 k_fi1 k_wi0 k_wi2 k_in0 k_in3 k_a0 (by omega) k_b0 (by omega) k_mg0 k_mg9
    have hr2 : canF t mg = false := by simpa using hr
    rw [hr2] at x1 x2
    repeat' (first
      | (with_reducible refine ok_ck ?_ ?_; focus (simp (disch := omega) only [↓lt_def, ↓reduceIte, ckB_true, bnd_e, Int.reduceAdd, Int.reduceSub, Int.reduceMul, Int.reduceNeg, Int.reduceToNat, Bool.false_eq_true, eq_self, not_false_eq_true, not_true_eq_false, Int.toNat_natCast, lt0, lt1, lt2, lt3, lt4, lt5, lt6, lt7, lt8, lt9, lt10, lt11, lt12, lt13, lt14, lt15, lt16, lt17, lt18, lt19, lt20, lt21, lt22, lt23, lt24, lt25, lt26, lt27, lt28, lt29, lt30, lt31, lt32, lt40, lt41, lt43, lt48, lt55, lt57, lt59, lt60, lt62, lt63, lt64, lt70, lt72, lt81, lt97, lt99, lt100, lt122, lt162, lt180, lt235, lt255, lt298, lt299, lt325, lt335, lt400, lt837, lt999, lt1000, lt1001, lt1002, lt1003, lt1004, lt1005, lt1006, lt1007, lt1008, lt1100, lt1101, lt1102, lt1103, lt1104, lt1105, lt1135, lt1136, lt1172, lt2000, lt3278, lt3575, lt10000, lt12345, lt21450, lt32767, lt193050, lt1103515245, ltm162, ltm99, ltm81, ltm8, ltm1, iI_add, iI_sub, iI_mul, iI_neg, iI_divn, iI_lt_t, iI_lt_f, iI_le_t, iI_le_f, iI_eq_t, iI_eq_f, iI_lt, iI_le, iI_eq, iI_idx, iI_inb, gI_sI, gL_sL, gZ_sZ, gI_sL, gI_sZ, gL_sI, gL_sZ, gZ_sI, gZ_sL, Nat.reduceEqDiff, false_and, and_false, and_true, true_and, and_self]; done))
      | (with_reducible refine ok_bnd_e (x1) ?_)
      | (with_reducible refine ok_bnd_e (x2) ?_)
      | (with_reducible refine ok_bnd ?_)
      | (with_reducible refine ok_bndX ?_)
      | (with_reducible refine ok_lt ?_)
      | (with_reducible refine ok_t ?_ ?_; focus (simp (disch := omega) only [↓lt_def, ↓reduceIte, ckB_true, bnd_e, Int.reduceAdd, Int.reduceSub, Int.reduceMul, Int.reduceNeg, Int.reduceToNat, Bool.false_eq_true, eq_self, not_false_eq_true, not_true_eq_false, Int.toNat_natCast, lt0, lt1, lt2, lt3, lt4, lt5, lt6, lt7, lt8, lt9, lt10, lt11, lt12, lt13, lt14, lt15, lt16, lt17, lt18, lt19, lt20, lt21, lt22, lt23, lt24, lt25, lt26, lt27, lt28, lt29, lt30, lt31, lt32, lt40, lt41, lt43, lt48, lt55, lt57, lt59, lt60, lt62, lt63, lt64, lt70, lt72, lt81, lt97, lt99, lt100, lt122, lt162, lt180, lt235, lt255, lt298, lt299, lt325, lt335, lt400, lt837, lt999, lt1000, lt1001, lt1002, lt1003, lt1004, lt1005, lt1006, lt1007, lt1008, lt1100, lt1101, lt1102, lt1103, lt1104, lt1105, lt1135, lt1136, lt1172, lt2000, lt3278, lt3575, lt10000, lt12345, lt21450, lt32767, lt193050, lt1103515245, ltm162, ltm99, ltm81, ltm8, ltm1, iI_add, iI_sub, iI_mul, iI_neg, iI_divn, iI_lt_t, iI_lt_f, iI_le_t, iI_le_f, iI_eq_t, iI_eq_f, iI_lt, iI_le, iI_eq, iI_idx, iI_inb, gI_sI, gL_sL, gZ_sZ, gI_sL, gI_sZ, gL_sI, gL_sZ, gZ_sI, gZ_sL, Nat.reduceEqDiff, false_and, and_false, and_true, true_and, and_self]; done))
      | (with_reducible refine ok_f ?_ ?_; focus (simp (disch := omega) only [↓lt_def, ↓reduceIte, ckB_true, bnd_e, Int.reduceAdd, Int.reduceSub, Int.reduceMul, Int.reduceNeg, Int.reduceToNat, Bool.false_eq_true, eq_self, not_false_eq_true, not_true_eq_false, Int.toNat_natCast, lt0, lt1, lt2, lt3, lt4, lt5, lt6, lt7, lt8, lt9, lt10, lt11, lt12, lt13, lt14, lt15, lt16, lt17, lt18, lt19, lt20, lt21, lt22, lt23, lt24, lt25, lt26, lt27, lt28, lt29, lt30, lt31, lt32, lt40, lt41, lt43, lt48, lt55, lt57, lt59, lt60, lt62, lt63, lt64, lt70, lt72, lt81, lt97, lt99, lt100, lt122, lt162, lt180, lt235, lt255, lt298, lt299, lt325, lt335, lt400, lt837, lt999, lt1000, lt1001, lt1002, lt1003, lt1004, lt1005, lt1006, lt1007, lt1008, lt1100, lt1101, lt1102, lt1103, lt1104, lt1105, lt1135, lt1136, lt1172, lt2000, lt3278, lt3575, lt10000, lt12345, lt21450, lt32767, lt193050, lt1103515245, ltm162, ltm99, ltm81, ltm8, ltm1, iI_add, iI_sub, iI_mul, iI_neg, iI_divn, iI_lt_t, iI_lt_f, iI_le_t, iI_le_f, iI_eq_t, iI_eq_f, iI_lt, iI_le, iI_eq, iI_idx, iI_inb, gI_sI, gL_sL, gZ_sZ, gI_sL, gI_sZ, gL_sI, gL_sZ, gZ_sI, gZ_sL, Nat.reduceEqDiff, false_and, and_false, and_true, true_and, and_self]; done))
      | ((with_reducible refine ok_ite (fun hc => ?_) (fun hc => ?_)) <;> (try simp (disch := omega) only [↓lt_def, ↓reduceIte, ckB_true, bnd_e, Int.reduceAdd, Int.reduceSub, Int.reduceMul, Int.reduceNeg, Int.reduceToNat, Bool.false_eq_true, eq_self, not_false_eq_true, not_true_eq_false, Int.toNat_natCast, lt0, lt1, lt2, lt3, lt4, lt5, lt6, lt7, lt8, lt9, lt10, lt11, lt12, lt13, lt14, lt15, lt16, lt17, lt18, lt19, lt20, lt21, lt22, lt23, lt24, lt25, lt26, lt27, lt28, lt29, lt30, lt31, lt32, lt40, lt41, lt43, lt48, lt55, lt57, lt59, lt60, lt62, lt63, lt64, lt70, lt72, lt81, lt97, lt99, lt100, lt122, lt162, lt180, lt235, lt255, lt298, lt299, lt325, lt335, lt400, lt837, lt999, lt1000, lt1001, lt1002, lt1003, lt1004, lt1005, lt1006, lt1007, lt1008, lt1100, lt1101, lt1102, lt1103, lt1104, lt1105, lt1135, lt1136, lt1172, lt2000, lt3278, lt3575, lt10000, lt12345, lt21450, lt32767, lt193050, lt1103515245, ltm162, ltm99, ltm81, ltm8, ltm1, iI_add, iI_sub, iI_mul, iI_neg, iI_divn, iI_lt_t, iI_lt_f, iI_le_t, iI_le_f, iI_eq_t, iI_eq_f, iI_lt, iI_le, iI_eq, iI_idx, iI_inb, gI_sI, gL_sL, gZ_sZ, gI_sL, gI_sZ, gL_sI, gL_sZ, gZ_sI, gZ_sL, Nat.reduceEqDiff, false_and, and_false, and_true, true_and, and_self] at hc) <;> (try (exfalso; omega)))
      | (with_reducible refine ok_some ?_)
      | (with_reducible refine ok_xr ?_)
      | (with_reducible refine ok_xl ?_)
      | (unfold F_T_follow)
      | (unfold F_M_follow)
      | (unfold F_M_throwsIf))
    all_goals first | exact ⟨ans_l (by decide) rfl, (h.thr thr_ss).inv⟩ | exact ⟨ans_r rfl, (h.thr thr_s).inv⟩ | (refine ⟨ans_r ?_, (h.thr thr_s).inv⟩; simp (disch := omega) only [↓lt_def, ↓reduceIte, ckB_true, bnd_e, Int.reduceAdd, Int.reduceSub, Int.reduceMul, Int.reduceNeg, Int.reduceToNat, Bool.false_eq_true, eq_self, not_false_eq_true, not_true_eq_false, Int.toNat_natCast, lt0, lt1, lt2, lt3, lt4, lt5, lt6, lt7, lt8, lt9, lt10, lt11, lt12, lt13, lt14, lt15, lt16, lt17, lt18, lt19, lt20, lt21, lt22, lt23, lt24, lt25, lt26, lt27, lt28, lt29, lt30, lt31, lt32, lt40, lt41, lt43, lt48, lt55, lt57, lt59, lt60, lt62, lt63, lt64, lt70, lt72, lt81, lt97, lt99, lt100, lt122, lt162, lt180, lt235, lt255, lt298, lt299, lt325, lt335, lt400, lt837, lt999, lt1000, lt1001, lt1002, lt1003, lt1004, lt1005, lt1006, lt1007, lt1008, lt1100, lt1101, lt1102, lt1103, lt1104, lt1105, lt1135, lt1136, lt1172, lt2000, lt3278, lt3575, lt10000, lt12345, lt21450, lt32767, lt193050, lt1103515245, ltm162, ltm99, ltm81, ltm8, ltm1, iI_add, iI_sub, iI_mul, iI_neg, iI_divn, iI_lt_t, iI_lt_f, iI_le_t, iI_le_f, iI_eq_t, iI_eq_f, iI_lt, iI_le, iI_eq, iI_idx, iI_inb, gI_sI, gL_sL, gZ_sZ, gI_sL, gI_sZ, gL_sI, gL_sZ, gZ_sI, gZ_sL, Nat.reduceEqDiff, false_and, and_false, and_true, true_and, and_self, h]; done)
end ACTSD
