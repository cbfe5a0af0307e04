section ANEW
def anT (t : Mt) : Mt := Mt.mk (-1) 0 0 0 (-1) false false t.sd 0 0 t.lg
/-- a row of noughts in the reference's row -/
theorem anew_ok {t : Mt} {m3 : Mem} (h9 : gI m3 79 9 = t.sd) (h17 : gI m3 79 17 = iI t.pl) : Ok (bnd (F_M_played m3) fun xq7 mq5 => lt (fun (mq8 : Mem) => ((lt (sI mq8 79 10 (-1 : Int32)) fun mq9 => lt (sI mq9 79 18 (-1 : Int32)) fun mq10 => F_M_anew_L56 xq7 1000000 (235 : Int32) mq10) : Option (Int32 × Mem))) fun k36_8 => F_M_anew_L17 k36_8 1000000 (10 : Int32) mq5) (fun r m4 => r = iI t.pl ∧ WM m4 79 0 (anT t) ∧ GrEq (gI m4 79) (gI m3 79) ∧ Fr [79, 85] [] m3 m4) := by
  obtain ⟨N, hN⟩ : ∃ N : Nat, N = 1000000 := ⟨_, rfl⟩
  rw [← hN]
  unfold F_M_played
  rw [bnd_e, h17]
  refine ok_ltk (fun k hk => ?_)
  have up : ∀ (d j : Nat) (z : Mem) (nf : Nat), j + d = 19 → d < nf → ∃ nf' z', F_M_anew_L17 k nf (iI j) z = k z' ∧ nf' = nf ∧ (∀ i, j ≤ i → i < 19 → gI z' 79 i = 0) ∧ (∀ i, (i < j ∨ 19 ≤ i) → gI z' 79 i = gI z 79 i) ∧ Fr [79] [] z z' := by
    intro d
    induction d with
    | zero =>
      intro j z nf hj hnf
      obtain ⟨nf, rfl⟩ : ∃ x, nf = x + 1 := ⟨nf - 1, by omega⟩
      refine ⟨_, z, ?_, rfl, fun i a b => by omega, fun i _ => rfl, Fr_rf⟩
      rw [F_M_anew_L17, if_pos (by rw [show (19 : Int32) = iI 19 from rfl, iI_le (by omega) (by omega) (by omega) (by omega)]; omega)]
    | succ d ih =>
      intro j z nf hj hnf
      obtain ⟨nf, rfl⟩ : ∃ x, nf = x + 1 := ⟨nf - 1, by omega⟩
      obtain ⟨-, z', e, -, a, b, f⟩ := ih (j + 1) (sI z 79 j 0) nf (by omega) (by omega)
      refine ⟨_, z', ?_, rfl, fun i p q => ?_, fun i p => ?_, Fr_tr (Fr_sI rfl Fr_rf (by simp)) f (by simp) (by simp)⟩
      · rw [F_M_anew_L17, if_neg (by rw [show (19 : Int32) = iI 19 from rfl, iI_le (by omega) (by omega) (by omega) (by omega)]; omega), ckB_t (iI_inb (by omega) (by omega) (by omega)), lt_def, lt_def, iI_idx (by omega) (by omega), Int.toNat_natCast, lt1, iI_add]
        exact e
      · by_cases hij : i = j
        · rw [b i (by omega), gI_sI, if_pos ⟨rfl, hij⟩]
        · exact a i (by omega) q
      · rw [b i (by omega), gI_sI, if_neg (fun q => by have := q.2; omega)]
  have up2 : ∀ (d j : Nat) (z : Mem) (nf : Nat), j + d = 298 → d < nf → ∃ z', F_M_anew_L56 (iI t.pl) nf (iI j) z = some (iI t.pl, z') ∧ (∀ i, (i < j ∨ 298 ≤ i) → gI z' 79 i = gI z 79 i) ∧ Fr [79] [] z z' := by
    intro d
    induction d with
    | zero =>
      intro j z nf hj hnf
      obtain ⟨nf, rfl⟩ : ∃ x, nf = x + 1 := ⟨nf - 1, by omega⟩
      refine ⟨z, ?_, fun i _ => rfl, Fr_rf⟩
      rw [F_M_anew_L56, if_pos (by rw [show (298 : Int32) = iI 298 from rfl, iI_le (by omega) (by omega) (by omega) (by omega)]; omega)]
    | succ d ih =>
      intro j z nf hj hnf
      obtain ⟨nf, rfl⟩ : ∃ x, nf = x + 1 := ⟨nf - 1, by omega⟩
      obtain ⟨z', e, b, f⟩ := ih (j + 1) (sI z 79 j 0) nf (by omega) (by omega)
      refine ⟨z', ?_, fun i p => ?_, Fr_tr (Fr_sI rfl Fr_rf (by simp)) f (by simp) (by simp)⟩
      · rw [F_M_anew_L56, if_neg (by rw [show (298 : Int32) = iI 298 from rfl, iI_le (by omega) (by omega) (by omega) (by omega)]; omega), ckB_t (iI_inb (by omega) (by omega) (by omega)), lt_def, lt_def, iI_idx (by omega) (by omega), Int.toNat_natCast, lt1, iI_add]
        exact e
      · rw [b i (by omega), gI_sI, if_neg (fun q => by have := q.2; omega)]
  obtain ⟨-, za, ea, -, a1, b1, f1⟩ := up 9 10 m3 N (by omega) (by omega)
  obtain ⟨zb, eb, b2, f2⟩ := up2 63 235 (sI (sI za 79 10 (-1)) 79 18 (-1)) N (by omega) (by omega)
  refine ok_e (a := iI t.pl) (m' := zb) ?_ ⟨rfl, ?_, ?_, ?_⟩
  · refine (show _ = _ from ea).trans ?_
    rw [hk]
    dsimp only
    rw [lt_def, lt_def]
    exact eb
  · have g : ∀ i, i < 235 → i ≠ 10 → i ≠ 18 → gI zb 79 i = gI za 79 i := by
      intro i p q r
      rw [b2 i (by omega), gI_sI, if_neg (fun w => r w.2), gI_sI, if_neg (fun w => q w.2)]
    have hlt : ∀ j : Nat, (j : Int) < 7 * (anT t).pl → gI zb 79 (0 + 235 + j) = (anT t).lg j := fun j hj => by have q : (j : Int) < 7 * 0 := hj; omega
    refine ⟨?_, ?_, ?_, ?_, ?_, ?_, ?_, ?_, ?_, ?_, hlt⟩
    · show gI zb 79 9 = t.sd
      rw [g 9 (by omega) (by omega) (by omega), b1 9 (by omega), h9]
    · show gI zb 79 10 = iI (-1)
      rw [b2 10 (by omega), gI_sI, if_neg (fun w => absurd w.2 (by decide)), gI_sI, if_pos ⟨rfl, rfl⟩]; rfl
    · show gI zb 79 11 = iI 0
      rw [g 11 (by omega) (by omega) (by omega), a1 11 (by omega) (by omega)]; rfl
    · show gI zb 79 12 = b2i false
      rw [g 12 (by omega) (by omega) (by omega), a1 12 (by omega) (by omega)]; rfl
    · show gI zb 79 13 = iI 0
      rw [g 13 (by omega) (by omega) (by omega), a1 13 (by omega) (by omega)]; rfl
    · show gI zb 79 14 = b2i false
      rw [g 14 (by omega) (by omega) (by omega), a1 14 (by omega) (by omega)]; rfl
    · show gI zb 79 15 = iI 0
      rw [g 15 (by omega) (by omega) (by omega), a1 15 (by omega) (by omega)]; rfl
    · show gI zb 79 16 = iI 0
      rw [g 16 (by omega) (by omega) (by omega), a1 16 (by omega) (by omega)]; rfl
    · show gI zb 79 17 = iI 0
      rw [g 17 (by omega) (by omega) (by omega), a1 17 (by omega) (by omega)]; rfl
    · show gI zb 79 18 = iI (-1)
      rw [b2 18 (by omega), gI_sI, if_pos ⟨rfl, rfl⟩]; rfl
  · intro i hi
    rw [b2 i (by omega), gI_sI, if_neg (fun w => by have := w.2; omega), gI_sI, if_neg (fun w => by have := w.2; omega), b1 i (by omega)]
  · have y : Fr [79] [] za (sI (sI za 79 10 (-1)) 79 18 (-1)) := Fr_sI rfl (Fr_sI rfl Fr_rf (by simp)) (by simp)
    have y2 : Fr [79] [] m3 zb := Fr_tr f1 (Fr_tr y f2 (fun a q => q) (fun a q => q)) (fun a q => q) (fun a q => q)
    exact Fr_wk y2 (by simp) (by simp)
theorem anew_op {B : Nat} {law : Option (List (Int × List Int))} {n mg wd tx bc : Int} {t : Mt} {m : Mem} (h : IV B law n mg wd tx bc t m) : Ok (F_T_anew m) (fun rT m1 => Ok (F_M_anew m1) (fun rM m2 => rT = rM ∧ Inv B m2)) := by
  obtain ⟨c0, c1, c2, c3, c4, c5, c6, c7, c8, c9, clg⟩ := h.cm
  obtain ⟨w9, w10, w11, w12, w13, w14, w15, w16, w17, w18, wlg⟩ := h.wm
  simp only [Nat.zero_add] at w9 w10 w11 w12 w13 w14 w15 w16 w17 w18 wlg
  have k_fi0 := h.mo.fi0
  have k_fi1 := h.mo.fi1
  have k_in0 := h.mo.in0
  have k_in3 := h.mo.in3
  have k_ou0 := h.mo.ou0
  have k_ou1 := h.mo.ou1
  have k_pl0 := h.mo.pl0
  have k_pl1 := h.mo.pl1
  have k_wi0 := h.mo.wi0
  have k_wi2 := h.mo.wi2
  have k_a0 := h.mo.a0
  have k_a1 := h.mo.a1
  have k_b0 := h.mo.b0
  have k_b1 := h.mo.b1
  have k_fo := h.mo.fo
  have k_no := h.mo.no
  have k_on := h.mo.on
  have k_pn := h.mo.pn
  have k_fre := h.mo.fre
  have k_n1 := h.gr.n1
  have k_n9 := h.gr.n9
  have k_cn := h.gr.cn
  have k_wn := h.gr.wn
  have k_cmg := h.gr.cmg
  have k_wmg := h.gr.wmg
  have k_mg0 := h.gr.mg0
  have k_mg9 := h.gr.mg9
  have mo' : MtOk (anT t) n := MtOk.mk ⟨show (-1 : Int) ≤ -1 by omega, show (-1 : Int) ≤ 1 by omega, show (0 : Int) ≤ 0 by omega, show (0 : Int) ≤ 3 by omega, show (0 : Int) ≤ 0 by omega, show (0 : Int) ≤ 10 by omega, show (0 : Int) ≤ 0 by omega, show (0 : Int) ≤ n by omega, show (-1 : Int) ≤ -1 by omega, show (-1 : Int) ≤ 2 by omega, show (0 : Int) ≤ 0 by omega, show (0 : Int) ≤ 9 * 0 by omega, show (0 : Int) ≤ 0 by omega, show (0 : Int) ≤ 9 * 0 by omega, fun q => (by have q' : false = true := q; cases q'), fun _ => ⟨rfl, rfl, rfl, rfl, rfl⟩, fun _ => show (0 : Int) < 10 by omega, fun q _ => by have q' : (0 : Int) ≤ -1 := q; omega, fun _ => rfl⟩
  obtain ⟨m2, m4, e1, h79, e2, iv, t0⟩ := act_both h mo' (iI t.pl) (iI t.pl) (fun mq1 => lt (gI mq1 16 3 : Int32) fun xq4 => bnd (F_Ma_clearMatch mq1) fun _ mq5 => some (xq4, mq5)) (fun mq2 => bnd (F_M_played mq2) fun xq7 mq5 => lt (fun (mq8 : Mem) => ((lt (sI mq8 79 10 (-1 : Int32)) fun mq9 => lt (sI mq9 79 18 (-1 : Int32)) fun mq10 => F_M_anew_L56 xq7 1000000 (235 : Int32) mq10) : Option (Int32 × Mem))) fun k36_8 => F_M_anew_L17 k36_8 1000000 (10 : Int32) mq5) (by
      intro m1 hc1 hg1 hl1 hw1
      obtain ⟨d0, d1, d2, d3, d4, d5, d6, d7, d8, d9, dlg⟩ := id hc1
      refine ok_lt ?_
      unfold F_Ma_clearMatch
      refine ok_bnd (ok_lt (ok_lt (ok_lt (ok_lt (ok_lt (ok_lt (ok_lt (ok_lt (ok_lt (ok_some (ok_some ⟨d3, ⟨?_, ?_, ?_, ?_, ?_, ?_, ?_, ?_, ?_, ?_, ?_⟩, hl1, ?_⟩)))))))))))
      · show _ = iI (-1)
        simp (disch := omega) only [↓lt_def, ↓reduceIte, ckB_true, bnd_e, Int.reduceAdd, Int.reduceSub, Int.reduceMul, Int.reduceNeg, Int.reduceToNat, Bool.false_eq_true, eq_self, not_false_eq_true, not_true_eq_false, Int.toNat_natCast, lt0, lt1, lt2, lt3, lt4, lt5, lt6, lt7, lt8, lt9, lt10, lt11, lt12, lt13, lt14, lt15, lt16, lt17, lt18, lt19, lt20, lt21, lt22, lt23, lt24, lt25, lt26, lt27, lt28, lt29, lt30, lt31, lt32, lt40, lt41, lt43, lt48, lt55, lt57, lt59, lt60, lt62, lt63, lt64, lt70, lt72, lt81, lt97, lt99, lt100, lt122, lt162, lt180, lt235, lt255, lt298, lt299, lt325, lt335, lt400, lt837, lt999, lt1000, lt1001, lt1002, lt1003, lt1004, lt1005, lt1006, lt1007, lt1008, lt1100, lt1101, lt1102, lt1103, lt1104, lt1105, lt1135, lt1136, lt1172, lt2000, lt3278, lt3575, lt10000, lt12345, lt21450, lt32767, lt193050, lt1103515245, ltm162, ltm99, ltm81, ltm8, ltm1, iI_add, iI_sub, iI_mul, iI_neg, iI_divn, iI_lt_t, iI_lt_f, iI_le_t, iI_le_f, iI_eq_t, iI_eq_f, iI_lt, iI_le, iI_eq, iI_idx, iI_inb, gI_sI, gL_sL, gZ_sZ, gI_sL, gI_sZ, gL_sI, gL_sZ, gZ_sI, gZ_sL, Nat.reduceEqDiff, false_and, and_false, and_true, true_and, and_self]
      · show _ = iI 0
        simp (disch := omega) only [↓lt_def, ↓reduceIte, ckB_true, bnd_e, Int.reduceAdd, Int.reduceSub, Int.reduceMul, Int.reduceNeg, Int.reduceToNat, Bool.false_eq_true, eq_self, not_false_eq_true, not_true_eq_false, Int.toNat_natCast, lt0, lt1, lt2, lt3, lt4, lt5, lt6, lt7, lt8, lt9, lt10, lt11, lt12, lt13, lt14, lt15, lt16, lt17, lt18, lt19, lt20, lt21, lt22, lt23, lt24, lt25, lt26, lt27, lt28, lt29, lt30, lt31, lt32, lt40, lt41, lt43, lt48, lt55, lt57, lt59, lt60, lt62, lt63, lt64, lt70, lt72, lt81, lt97, lt99, lt100, lt122, lt162, lt180, lt235, lt255, lt298, lt299, lt325, lt335, lt400, lt837, lt999, lt1000, lt1001, lt1002, lt1003, lt1004, lt1005, lt1006, lt1007, lt1008, lt1100, lt1101, lt1102, lt1103, lt1104, lt1105, lt1135, lt1136, lt1172, lt2000, lt3278, lt3575, lt10000, lt12345, lt21450, lt32767, lt193050, lt1103515245, ltm162, ltm99, ltm81, ltm8, ltm1, iI_add, iI_sub, iI_mul, iI_neg, iI_divn, iI_lt_t, iI_lt_f, iI_le_t, iI_le_f, iI_eq_t, iI_eq_f, iI_lt, iI_le, iI_eq, iI_idx, iI_inb, gI_sI, gL_sL, gZ_sZ, gI_sL, gI_sZ, gL_sI, gL_sZ, gZ_sI, gZ_sL, Nat.reduceEqDiff, false_and, and_false, and_true, true_and, and_self]
      · show _ = iI 0
        simp (disch := omega) only [↓lt_def, ↓reduceIte, ckB_true, bnd_e, Int.reduceAdd, Int.reduceSub, Int.reduceMul, Int.reduceNeg, Int.reduceToNat, Bool.false_eq_true, eq_self, not_false_eq_true, not_true_eq_false, Int.toNat_natCast, lt0, lt1, lt2, lt3, lt4, lt5, lt6, lt7, lt8, lt9, lt10, lt11, lt12, lt13, lt14, lt15, lt16, lt17, lt18, lt19, lt20, lt21, lt22, lt23, lt24, lt25, lt26, lt27, lt28, lt29, lt30, lt31, lt32, lt40, lt41, lt43, lt48, lt55, lt57, lt59, lt60, lt62, lt63, lt64, lt70, lt72, lt81, lt97, lt99, lt100, lt122, lt162, lt180, lt235, lt255, lt298, lt299, lt325, lt335, lt400, lt837, lt999, lt1000, lt1001, lt1002, lt1003, lt1004, lt1005, lt1006, lt1007, lt1008, lt1100, lt1101, lt1102, lt1103, lt1104, lt1105, lt1135, lt1136, lt1172, lt2000, lt3278, lt3575, lt10000, lt12345, lt21450, lt32767, lt193050, lt1103515245, ltm162, ltm99, ltm81, ltm8, ltm1, iI_add, iI_sub, iI_mul, iI_neg, iI_divn, iI_lt_t, iI_lt_f, iI_le_t, iI_le_f, iI_eq_t, iI_eq_f, iI_lt, iI_le, iI_eq, iI_idx, iI_inb, gI_sI, gL_sL, gZ_sZ, gI_sL, gI_sZ, gL_sI, gL_sZ, gZ_sI, gZ_sL, Nat.reduceEqDiff, false_and, and_false, and_true, true_and, and_self]
      · show _ = iI 0
        simp (disch := omega) only [↓lt_def, ↓reduceIte, ckB_true, bnd_e, Int.reduceAdd, Int.reduceSub, Int.reduceMul, Int.reduceNeg, Int.reduceToNat, Bool.false_eq_true, eq_self, not_false_eq_true, not_true_eq_false, Int.toNat_natCast, lt0, lt1, lt2, lt3, lt4, lt5, lt6, lt7, lt8, lt9, lt10, lt11, lt12, lt13, lt14, lt15, lt16, lt17, lt18, lt19, lt20, lt21, lt22, lt23, lt24, lt25, lt26, lt27, lt28, lt29, lt30, lt31, lt32, lt40, lt41, lt43, lt48, lt55, lt57, lt59, lt60, lt62, lt63, lt64, lt70, lt72, lt81, lt97, lt99, lt100, lt122, lt162, lt180, lt235, lt255, lt298, lt299, lt325, lt335, lt400, lt837, lt999, lt1000, lt1001, lt1002, lt1003, lt1004, lt1005, lt1006, lt1007, lt1008, lt1100, lt1101, lt1102, lt1103, lt1104, lt1105, lt1135, lt1136, lt1172, lt2000, lt3278, lt3575, lt10000, lt12345, lt21450, lt32767, lt193050, lt1103515245, ltm162, ltm99, ltm81, ltm8, ltm1, iI_add, iI_sub, iI_mul, iI_neg, iI_divn, iI_lt_t, iI_lt_f, iI_le_t, iI_le_f, iI_eq_t, iI_eq_f, iI_lt, iI_le, iI_eq, iI_idx, iI_inb, gI_sI, gL_sL, gZ_sZ, gI_sL, gI_sZ, gL_sI, gL_sZ, gZ_sI, gZ_sL, Nat.reduceEqDiff, false_and, and_false, and_true, true_and, and_self]
      · show _ = iI (-1)
        simp (disch := omega) only [↓lt_def, ↓reduceIte, ckB_true, bnd_e, Int.reduceAdd, Int.reduceSub, Int.reduceMul, Int.reduceNeg, Int.reduceToNat, Bool.false_eq_true, eq_self, not_false_eq_true, not_true_eq_false, Int.toNat_natCast, lt0, lt1, lt2, lt3, lt4, lt5, lt6, lt7, lt8, lt9, lt10, lt11, lt12, lt13, lt14, lt15, lt16, lt17, lt18, lt19, lt20, lt21, lt22, lt23, lt24, lt25, lt26, lt27, lt28, lt29, lt30, lt31, lt32, lt40, lt41, lt43, lt48, lt55, lt57, lt59, lt60, lt62, lt63, lt64, lt70, lt72, lt81, lt97, lt99, lt100, lt122, lt162, lt180, lt235, lt255, lt298, lt299, lt325, lt335, lt400, lt837, lt999, lt1000, lt1001, lt1002, lt1003, lt1004, lt1005, lt1006, lt1007, lt1008, lt1100, lt1101, lt1102, lt1103, lt1104, lt1105, lt1135, lt1136, lt1172, lt2000, lt3278, lt3575, lt10000, lt12345, lt21450, lt32767, lt193050, lt1103515245, ltm162, ltm99, ltm81, ltm8, ltm1, iI_add, iI_sub, iI_mul, iI_neg, iI_divn, iI_lt_t, iI_lt_f, iI_le_t, iI_le_f, iI_eq_t, iI_eq_f, iI_lt, iI_le, iI_eq, iI_idx, iI_inb, gI_sI, gL_sL, gZ_sZ, gI_sL, gI_sZ, gL_sI, gL_sZ, gZ_sI, gZ_sL, Nat.reduceEqDiff, false_and, and_false, and_true, true_and, and_self]
      · show _ = false
        simp (disch := omega) only [↓lt_def, ↓reduceIte, ckB_true, bnd_e, Int.reduceAdd, Int.reduceSub, Int.reduceMul, Int.reduceNeg, Int.reduceToNat, Bool.false_eq_true, eq_self, not_false_eq_true, not_true_eq_false, Int.toNat_natCast, lt0, lt1, lt2, lt3, lt4, lt5, lt6, lt7, lt8, lt9, lt10, lt11, lt12, lt13, lt14, lt15, lt16, lt17, lt18, lt19, lt20, lt21, lt22, lt23, lt24, lt25, lt26, lt27, lt28, lt29, lt30, lt31, lt32, lt40, lt41, lt43, lt48, lt55, lt57, lt59, lt60, lt62, lt63, lt64, lt70, lt72, lt81, lt97, lt99, lt100, lt122, lt162, lt180, lt235, lt255, lt298, lt299, lt325, lt335, lt400, lt837, lt999, lt1000, lt1001, lt1002, lt1003, lt1004, lt1005, lt1006, lt1007, lt1008, lt1100, lt1101, lt1102, lt1103, lt1104, lt1105, lt1135, lt1136, lt1172, lt2000, lt3278, lt3575, lt10000, lt12345, lt21450, lt32767, lt193050, lt1103515245, ltm162, ltm99, ltm81, ltm8, ltm1, iI_add, iI_sub, iI_mul, iI_neg, iI_divn, iI_lt_t, iI_lt_f, iI_le_t, iI_le_f, iI_eq_t, iI_eq_f, iI_lt, iI_le, iI_eq, iI_idx, iI_inb, gI_sI, gL_sL, gZ_sZ, gI_sL, gI_sZ, gL_sI, gL_sZ, gZ_sI, gZ_sL, Nat.reduceEqDiff, false_and, and_false, and_true, true_and, and_self]
      · show _ = false
        simp (disch := omega) only [↓lt_def, ↓reduceIte, ckB_true, bnd_e, Int.reduceAdd, Int.reduceSub, Int.reduceMul, Int.reduceNeg, Int.reduceToNat, Bool.false_eq_true, eq_self, not_false_eq_true, not_true_eq_false, Int.toNat_natCast, lt0, lt1, lt2, lt3, lt4, lt5, lt6, lt7, lt8, lt9, lt10, lt11, lt12, lt13, lt14, lt15, lt16, lt17, lt18, lt19, lt20, lt21, lt22, lt23, lt24, lt25, lt26, lt27, lt28, lt29, lt30, lt31, lt32, lt40, lt41, lt43, lt48, lt55, lt57, lt59, lt60, lt62, lt63, lt64, lt70, lt72, lt81, lt97, lt99, lt100, lt122, lt162, lt180, lt235, lt255, lt298, lt299, lt325, lt335, lt400, lt837, lt999, lt1000, lt1001, lt1002, lt1003, lt1004, lt1005, lt1006, lt1007, lt1008, lt1100, lt1101, lt1102, lt1103, lt1104, lt1105, lt1135, lt1136, lt1172, lt2000, lt3278, lt3575, lt10000, lt12345, lt21450, lt32767, lt193050, lt1103515245, ltm162, ltm99, ltm81, ltm8, ltm1, iI_add, iI_sub, iI_mul, iI_neg, iI_divn, iI_lt_t, iI_lt_f, iI_le_t, iI_le_f, iI_eq_t, iI_eq_f, iI_lt, iI_le, iI_eq, iI_idx, iI_inb, gI_sI, gL_sL, gZ_sZ, gI_sL, gI_sZ, gL_sI, gL_sZ, gZ_sI, gZ_sL, Nat.reduceEqDiff, false_and, and_false, and_true, true_and, and_self]
      · show _ = t.sd
        simp (disch := omega) only [↓lt_def, ↓reduceIte, ckB_true, bnd_e, Int.reduceAdd, Int.reduceSub, Int.reduceMul, Int.reduceNeg, Int.reduceToNat, Bool.false_eq_true, eq_self, not_false_eq_true, not_true_eq_false, Int.toNat_natCast, lt0, lt1, lt2, lt3, lt4, lt5, lt6, lt7, lt8, lt9, lt10, lt11, lt12, lt13, lt14, lt15, lt16, lt17, lt18, lt19, lt20, lt21, lt22, lt23, lt24, lt25, lt26, lt27, lt28, lt29, lt30, lt31, lt32, lt40, lt41, lt43, lt48, lt55, lt57, lt59, lt60, lt62, lt63, lt64, lt70, lt72, lt81, lt97, lt99, lt100, lt122, lt162, lt180, lt235, lt255, lt298, lt299, lt325, lt335, lt400, lt837, lt999, lt1000, lt1001, lt1002, lt1003, lt1004, lt1005, lt1006, lt1007, lt1008, lt1100, lt1101, lt1102, lt1103, lt1104, lt1105, lt1135, lt1136, lt1172, lt2000, lt3278, lt3575, lt10000, lt12345, lt21450, lt32767, lt193050, lt1103515245, ltm162, ltm99, ltm81, ltm8, ltm1, iI_add, iI_sub, iI_mul, iI_neg, iI_divn, iI_lt_t, iI_lt_f, iI_le_t, iI_le_f, iI_eq_t, iI_eq_f, iI_lt, iI_le, iI_eq, iI_idx, iI_inb, gI_sI, gL_sL, gZ_sZ, gI_sL, gI_sZ, gL_sI, gL_sZ, gZ_sI, gZ_sL, Nat.reduceEqDiff, false_and, and_false, and_true, true_and, and_self, d7]
      · show _ = iI 0
        simp (disch := omega) only [↓lt_def, ↓reduceIte, ckB_true, bnd_e, Int.reduceAdd, Int.reduceSub, Int.reduceMul, Int.reduceNeg, Int.reduceToNat, Bool.false_eq_true, eq_self, not_false_eq_true, not_true_eq_false, Int.toNat_natCast, lt0, lt1, lt2, lt3, lt4, lt5, lt6, lt7, lt8, lt9, lt10, lt11, lt12, lt13, lt14, lt15, lt16, lt17, lt18, lt19, lt20, lt21, lt22, lt23, lt24, lt25, lt26, lt27, lt28, lt29, lt30, lt31, lt32, lt40, lt41, lt43, lt48, lt55, lt57, lt59, lt60, lt62, lt63, lt64, lt70, lt72, lt81, lt97, lt99, lt100, lt122, lt162, lt180, lt235, lt255, lt298, lt299, lt325, lt335, lt400, lt837, lt999, lt1000, lt1001, lt1002, lt1003, lt1004, lt1005, lt1006, lt1007, lt1008, lt1100, lt1101, lt1102, lt1103, lt1104, lt1105, lt1135, lt1136, lt1172, lt2000, lt3278, lt3575, lt10000, lt12345, lt21450, lt32767, lt193050, lt1103515245, ltm162, ltm99, ltm81, ltm8, ltm1, iI_add, iI_sub, iI_mul, iI_neg, iI_divn, iI_lt_t, iI_lt_f, iI_le_t, iI_le_f, iI_eq_t, iI_eq_f, iI_lt, iI_le, iI_eq, iI_idx, iI_inb, gI_sI, gL_sL, gZ_sZ, gI_sL, gI_sZ, gL_sI, gL_sZ, gZ_sI, gZ_sL, Nat.reduceEqDiff, false_and, and_false, and_true, true_and, and_self]
      · show _ = iI 0
        simp (disch := omega) only [↓lt_def, ↓reduceIte, ckB_true, bnd_e, Int.reduceAdd, Int.reduceSub, Int.reduceMul, Int.reduceNeg, Int.reduceToNat, Bool.false_eq_true, eq_self, not_false_eq_true, not_true_eq_false, Int.toNat_natCast, lt0, lt1, lt2, lt3, lt4, lt5, lt6, lt7, lt8, lt9, lt10, lt11, lt12, lt13, lt14, lt15, lt16, lt17, lt18, lt19, lt20, lt21, lt22, lt23, lt24, lt25, lt26, lt27, lt28, lt29, lt30, lt31, lt32, lt40, lt41, lt43, lt48, lt55, lt57, lt59, lt60, lt62, lt63, lt64, lt70, lt72, lt81, lt97, lt99, lt100, lt122, lt162, lt180, lt235, lt255, lt298, lt299, lt325, lt335, lt400, lt837, lt999, lt1000, lt1001, lt1002, lt1003, lt1004, lt1005, lt1006, lt1007, lt1008, lt1100, lt1101, lt1102, lt1103, lt1104, lt1105, lt1135, lt1136, lt1172, lt2000, lt3278, lt3575, lt10000, lt12345, lt21450, lt32767, lt193050, lt1103515245, ltm162, ltm99, ltm81, ltm8, ltm1, iI_add, iI_sub, iI_mul, iI_neg, iI_divn, iI_lt_t, iI_lt_f, iI_le_t, iI_le_f, iI_eq_t, iI_eq_f, iI_lt, iI_le, iI_eq, iI_idx, iI_inb, gI_sI, gL_sL, gZ_sZ, gI_sL, gI_sZ, gL_sI, gL_sZ, gZ_sI, gZ_sL, Nat.reduceEqDiff, false_and, and_false, and_true, true_and, and_self]
      · intro j hj
        have q : (j : Int) < 7 * 0 := hj
        omega
      · exact Fr_sI rfl (Fr_sI rfl (Fr_sZ rfl (Fr_sZ rfl (Fr_sI rfl (Fr_sI rfl (Fr_sI rfl (Fr_sI rfl (Fr_sI rfl Fr_rf (by simp)) (by simp)) (by simp)) (by simp)) (by simp)) (by simp)) (by simp)) (by simp)) (by simp)) (by
      intro m3 hw3 hg3 hw4
      exact anew_ok hw3.1 hw3.2.2.2.2.2.2.2.2.1)
  have e1' : F_T_anew m = some (iI t.pl, m2) := e1
  have e2' : F_M_anew m2 = some (iI t.pl, m4) := by
    unfold F_M_anew
    rw [lt_def]
    exact e2
  exact ok_e e1' (ok_e e2' ⟨rfl, iv.inv⟩)
end ANEW
