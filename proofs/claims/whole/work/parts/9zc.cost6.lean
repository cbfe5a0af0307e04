section COSTF
def cdC : Nat → Int := fun e => if e = 1 then 1 else if e = 0 then 2 else 0
theorem cost_op {B : Nat} {law : Option (List (Int × List Int))} {n mg wd tx bc : Int} {t : Mt} {m : Mem} (h : IV B law n mg wd tx bc t m) (hB6 : B ≤ 1000000) (a : Int32) : BothL (B + 1) cdC (F_T_cost a) (F_M_cost a) m := by
  obtain ⟨z, rfl, z1, z2⟩ := iI_ex a
  obtain ⟨c0, c1, c2, c3, c4, c5, c6, c7, c8, c9, clg⟩ := h.cm
  obtain ⟨w9, w10, w11, w12, w13, w14, w15, w16, w17, w18, wlg⟩ := h.wm
  simp only [Nat.zero_add] at w9 w10 w11 w12 w13 w14 w15 w16 w17 w18 wlg
  have k_fi0 := h.mo.fi0
  have k_fi1 := h.mo.fi1
  have k_in0 := h.mo.in0
  have k_in3 := h.mo.in3
  have k_ou0 := h.mo.ou0
  have k_ou1 := h.mo.ou1
  have k_pl0 := h.mo.pl0
  have k_pl1 := h.mo.pl1
  have k_wi0 := h.mo.wi0
  have k_wi2 := h.mo.wi2
  have k_a0 := h.mo.a0
  have k_a1 := h.mo.a1
  have k_b0 := h.mo.b0
  have k_b1 := h.mo.b1
  have k_fo := h.mo.fo
  have k_no := h.mo.no
  have k_on := h.mo.on
  have k_pn := h.mo.pn
  have k_fre := h.mo.fre
  have k_n1 := h.gr.n1
  have k_n9 := h.gr.n9
  have k_cn := h.gr.cn
  have k_wn := h.gr.wn
  have k_cmg := h.gr.cmg
  have k_wmg := h.gr.wmg
  have k_mg0 := h.gr.mg0
  have k_mg9 := h.gr.mg9
  unfold BothL
  have x1 := Ton_eq (t := t) (m := m) c0 c4 k_fi0 k_fi1 k_wi0 k_wi2
  by_cases hzr : 0 ≤ z ∧ z ≤ 3
  · obtain ⟨z0, z3⟩ := hzr
    by_cases on : 0 ≤ t.fi ∧ t.win = -1
    · obtain ⟨f0, hw⟩ := id on
      rw [decide_eq_true on] at x1
      have hpnn := k_pn f0 hw
      have hkr := (kdZ_eq (i := t.inn) (fo := t.fol) k_in0 k_in3).2.2.2
      have hsp := spZ_rng h.mo
      have hld : -90 ≤ leadZ t t.fi ∧ leadZ t t.fi ≤ 90 := by unfold leadZ; split <;> omega
      have y1 : F_Ma_kind m = some (iI (kdZ t.inn t.fol), m) := kind_eq c1 c5 k_in0 k_in3
      have y2 := spot_eq (t := t) (m := m) c2 c6
      have y3 : F_Ma_leadOf (gI m 16 0) m = some (iI (leadZ t t.fi), m) := by rw [c0]; exact Tlead_eq (t := t) c8 c9 f0 k_fi1
      have y4 : F_Od_otherChoice (iI (kdZ t.inn t.fol)) (iI (spZ t)) (iI (leadZ t t.fi)) m = some (iI (ocT t mg), m) := otherChoice_eq k_cmg k_mg0 k_mg9 hkr.1 hkr.2 hsp.1 hsp.2 (by omega) (by omega)
      have hoc : 0 ≤ ocT t mg ∧ ocT t mg ≤ 3 := by
        unfold ocT oc
        split
        · omega
        · split
          · split <;> omega
          · omega
      by_cases hv : z = 0 ∨ z = ocT t mg
      · have key : ∃ m1 vT, F_T_cost (iI z) m = some (.inr (iL vT), m1) ∧ IV (B + 1) law n mg wd tx bc t m1 ∧ gI m1 79 = gI m 79 ∧ vT = (if ocT t mg = 0 then 0 else (max (vl (opOf (gI m 79) law n mg t.fi wd false) (four (n - t.pl).toNat) (goV (opOf (gI m 79) law n mg t.fi wd false) t)) (vl (opOf (gI m 79) law n mg t.fi wd false) (four (n - t.pl).toNat) (owV (opOf (gI m 79) law n mg t.fi wd false) t)) - (if z = 0 then vl (opOf (gI m 79) law n mg t.fi wd false) (four (n - t.pl).toNat) (goV (opOf (gI m 79) law n mg t.fi wd false) t) else vl (opOf (gI m 79) law n mg t.fi wd false) (four (n - t.pl).toNat) (owV (opOf (gI m 79) law n mg t.fi wd false) t)))) := by
          by_cases hne : ocT t mg = 0
          · rw [hne] at y4 hv
            have hz0 : z = 0 := by omega
            have hq : Ok (F_T_cost (iI z) m) (fun r m' => r = .inr (iL 0) ∧ m' = m) := by
              rw [hz0]
              repeat' (first
                | (with_reducible refine ok_ck ?_ ?_; focus (simp (disch := omega) only [↓lt_def, ↓reduceIte, ckB_true, bnd_e, Int.reduceAdd, Int.reduceSub, Int.reduceMul, Int.reduceNeg, Int.reduceToNat, Bool.false_eq_true, eq_self, not_false_eq_true, not_true_eq_false, Int.toNat_natCast, lt0, lt1, lt2, lt3, lt4, lt5, lt6, lt7, lt8, lt9, lt10, lt11, lt12, lt13, lt14, lt15, lt16, lt17, lt18, lt19, lt20, lt21, lt22, lt23, lt24, lt25, lt26, lt27, lt28, lt29, lt30, lt31, lt32, lt40, lt41, lt43, lt48, lt55, lt57, lt59, lt60, lt62, lt63, lt64, lt70, lt72, lt81, lt97, lt99, lt100, lt122, lt162, lt180, lt235, lt255, lt298, lt299, lt325, lt335, lt400, lt837, lt999, lt1000, lt1001, lt1002, lt1003, lt1004, lt1005, lt1006, lt1007, lt1008, lt1100, lt1101, lt1102, lt1103, lt1104, lt1105, lt1135, lt1136, lt1172, lt2000, lt3278, lt3575, lt10000, lt12345, lt21450, lt32767, lt193050, lt1103515245, ltm162, ltm99, ltm81, ltm8, ltm1, iI_add, iI_sub, iI_mul, iI_neg, iI_divn, iI_lt_t, iI_lt_f, iI_le_t, iI_le_f, iI_eq_t, iI_eq_f, iI_lt, iI_le, iI_eq, iI_idx, iI_inb, gI_sI, gL_sL, gZ_sZ, gI_sL, gI_sZ, gL_sI, gL_sZ, gZ_sI, gZ_sL, Nat.reduceEqDiff, false_and, and_false, and_true, true_and, and_self]; done))
                | (with_reducible refine ok_bnd_e (x1) ?_)
                | (with_reducible refine ok_bnd_e (y1) ?_)
                | (with_reducible refine ok_bnd_e (y2) ?_)
                | (with_reducible refine ok_bnd_e (y3) ?_)
                | (with_reducible refine ok_bnd_e (y4) ?_)
                | (with_reducible refine ok_bnd ?_)
                | (with_reducible refine ok_bndX ?_)
                | (with_reducible refine ok_lt ?_)
                | (with_reducible refine ok_t ?_ ?_; focus (simp (disch := omega) only [↓lt_def, ↓reduceIte, ckB_true, bnd_e, Int.reduceAdd, Int.reduceSub, Int.reduceMul, Int.reduceNeg, Int.reduceToNat, Bool.false_eq_true, eq_self, not_false_eq_true, not_true_eq_false, Int.toNat_natCast, lt0, lt1, lt2, lt3, lt4, lt5, lt6, lt7, lt8, lt9, lt10, lt11, lt12, lt13, lt14, lt15, lt16, lt17, lt18, lt19, lt20, lt21, lt22, lt23, lt24, lt25, lt26, lt27, lt28, lt29, lt30, lt31, lt32, lt40, lt41, lt43, lt48, lt55, lt57, lt59, lt60, lt62, lt63, lt64, lt70, lt72, lt81, lt97, lt99, lt100, lt122, lt162, lt180, lt235, lt255, lt298, lt299, lt325, lt335, lt400, lt837, lt999, lt1000, lt1001, lt1002, lt1003, lt1004, lt1005, lt1006, lt1007, lt1008, lt1100, lt1101, lt1102, lt1103, lt1104, lt1105, lt1135, lt1136, lt1172, lt2000, lt3278, lt3575, lt10000, lt12345, lt21450, lt32767, lt193050, lt1103515245, ltm162, ltm99, ltm81, ltm8, ltm1, iI_add, iI_sub, iI_mul, iI_neg, iI_divn, iI_lt_t, iI_lt_f, iI_le_t, iI_le_f, iI_eq_t, iI_eq_f, iI_lt, iI_le, iI_eq, iI_idx, iI_inb, gI_sI, gL_sL, gZ_sZ, gI_sL, gI_sZ, gL_sI, gL_sZ, gZ_sI, gZ_sL, Nat.reduceEqDiff, false_and, and_false, and_true, true_and, and_self]; done))
                | (with_reducible refine ok_f ?_ ?_; focus (simp (disch := omega) only [↓lt_def, ↓reduceIte, ckB_true, bnd_e, Int.reduceAdd, Int.reduceSub, Int.reduceMul, Int.reduceNeg, Int.reduceToNat, Bool.false_eq_true, eq_self, not_false_eq_true, not_true_eq_false, Int.toNat_natCast, lt0, lt1, lt2, lt3, lt4, lt5, lt6, lt7, lt8, lt9, lt10, lt11, lt12, lt13, lt14, lt15, lt16, lt17, lt18, lt19, lt20, lt21, lt22, lt23, lt24, lt25, lt26, lt27, lt28, lt29, lt30, lt31, lt32, lt40, lt41, lt43, lt48, lt55, lt57, lt59, lt60, lt62, lt63, lt64, lt70, lt72, lt81, lt97, lt99, lt100, lt122, lt162, lt180, lt235, lt255, lt298, lt299, lt325, lt335, lt400, lt837, lt999, lt1000, lt1001, lt1002, lt1003, lt1004, lt1005, lt1006, lt1007, lt1008, lt1100, lt1101, lt1102, lt1103, lt1104, lt1105, lt1135, lt1136, lt1172, lt2000, lt3278, lt3575, lt10000, lt12345, lt21450, lt32767, lt193050, lt1103515245, ltm162, ltm99, ltm81, ltm8, ltm1, iI_add, iI_sub, iI_mul, iI_neg, iI_divn, iI_lt_t, iI_lt_f, iI_le_t, iI_le_f, iI_eq_t, iI_eq_f, iI_lt, iI_le, iI_eq, iI_idx, iI_inb, gI_sI, gL_sL, gZ_sZ, gI_sL, gI_sZ, gL_sI, gL_sZ, gZ_sI, gZ_sL, Nat.reduceEqDiff, false_and, and_false, and_true, true_and, and_self]; done))
                | ((with_reducible refine ok_ite (fun hc => ?_) (fun hc => ?_)) <;> (try simp (disch := omega) only [↓lt_def, ↓reduceIte, ckB_true, bnd_e, Int.reduceAdd, Int.reduceSub, Int.reduceMul, Int.reduceNeg, Int.reduceToNat, Bool.false_eq_true, eq_self, not_false_eq_true, not_true_eq_false, Int.toNat_natCast, lt0, lt1, lt2, lt3, lt4, lt5, lt6, lt7, lt8, lt9, lt10, lt11, lt12, lt13, lt14, lt15, lt16, lt17, lt18, lt19, lt20, lt21, lt22, lt23, lt24, lt25, lt26, lt27, lt28, lt29, lt30, lt31, lt32, lt40, lt41, lt43, lt48, lt55, lt57, lt59, lt60, lt62, lt63, lt64, lt70, lt72, lt81, lt97, lt99, lt100, lt122, lt162, lt180, lt235, lt255, lt298, lt299, lt325, lt335, lt400, lt837, lt999, lt1000, lt1001, lt1002, lt1003, lt1004, lt1005, lt1006, lt1007, lt1008, lt1100, lt1101, lt1102, lt1103, lt1104, lt1105, lt1135, lt1136, lt1172, lt2000, lt3278, lt3575, lt10000, lt12345, lt21450, lt32767, lt193050, lt1103515245, ltm162, ltm99, ltm81, ltm8, ltm1, iI_add, iI_sub, iI_mul, iI_neg, iI_divn, iI_lt_t, iI_lt_f, iI_le_t, iI_le_f, iI_eq_t, iI_eq_f, iI_lt, iI_le, iI_eq, iI_idx, iI_inb, gI_sI, gL_sL, gZ_sZ, gI_sL, gI_sZ, gL_sI, gL_sZ, gZ_sI, gZ_sL, Nat.reduceEqDiff, false_and, and_false, and_true, true_and, and_self] at hc) <;> (try (exfalso; omega)))
                | (with_reducible refine ok_some ?_)
                | (with_reducible refine ok_xr ?_)
                | (with_reducible refine ok_xl ?_)
                | (unfold F_T_cost)
                | (unfold F_T_mustBeOn))
              exact ⟨rfl, rfl⟩
            obtain ⟨_, mm, e, rfl, hmm⟩ := hq
            rw [hmm] at e
            exact ⟨m, 0, e, h.up (by omega), rfl, by rw [if_pos hne]⟩
          · obtain ⟨_, m1, e, rfl, i1, w1⟩ := Tcost_ok h hB6 f0 hw z0 z3 hv hne
            exact ⟨m1, _, e, i1, w1, by rw [if_neg hne]⟩
        obtain ⟨m1, vT, e1, i1, w1, hvT⟩ := key
        have i1' := i1.thr (thr_s (v := 0))
        obtain ⟨P, hP⟩ : ∃ P, P = opOf (gI m 79) law n mg t.fi wd false := ⟨_, rfl⟩
        rw [← hP] at hvT
        obtain ⟨m0, more, hMB, hmo, hcn⟩ := countsNow2_ok i1'.gr i1'.wm i1'.mo f0 hw i1'.bli (w := gI m 79) (by rw [← w1]; rfl)
        rw [← hP] at hMB hmo hcn
        have hPn : P.n = n := by rw [hP, opOf_n]
        have hPd : P.dw = wd := by rw [hP, opOf_dw]
        obtain ⟨_, m2, e2, la2, f2⟩ := hcn
        have i2 := Mscr i1' (Fr_wk f2 (by simp) (by simp))
        obtain ⟨_, m3, e3, lv3, f3⟩ := lays_ok hMB la2.1 (p := t.pl) k_pl0 (by omega)
        have i3 := Mscr i2 (Fr_wk f3 (by simp) (by simp))
        have la3 : LaSt law P t.fi m0 t.pl t.pl (if leadZ t (batZ t) < 0 then -leadZ t (batZ t) else leadZ t (batZ t)) more m3 := ⟨Fr_tr la2.1 f3 (by simp) (by simp), fun _ => lv3, fun q hq hqn j o l' a b c d e g => by rw [f3.gI (by simp) (by simp), f3.gI (by simp) (by simp)]; exact la2.2.2 q hq hqn j o l' a b c d e g⟩
        have hbl : -81 ≤ leadZ t (batZ t) ∧ leadZ t (batZ t) ≤ 81 := by unfold leadZ; split <;> omega
        have hal := four_le (n - t.pl).toNat (by omega)
        have hfo : four (n - t.pl).toNat = 4 * four (n - (t.pl + 1)).toNat := by rw [show (n - t.pl).toNat = (n - (t.pl + 1)).toNat + 1 by omega]; rfl
        have ha0 := four_pos (n - (t.pl + 1)).toNat
        have hvg : vOK (goV P t) (four (n - t.pl).toNat) := by rw [hfo]; unfold goV; rw [hPn]; exact ses_ok (by omega) (V_ok _)
        have hvo : vOK (owV P t) (four (n - t.pl).toNat) := by
          rw [hfo]
          unfold owV ow
          rw [hPn]
          split
          · exact ses_ok (by omega) (V_ok _)
          · split
            · exact sw_ok (ses_ok (by omega) (V_ok _))
            · exact nx_ok (by omega) (fun _ _ _ => frV_ok (by omega) (V_ok _))
        have b1 := vl_rng (P := P) hvg (by rw [hPd]; exact h.gr.dw0) (by rw [hPd]; exact h.gr.dw9)
        have b2 := vl_rng (P := P) hvo (by rw [hPd]; exact h.gr.dw0) (by rw [hPd]; exact h.gr.dw9)
        have hcb := canBe_eq (c := z) i1'.wm i1'.mo k_n9 f0 hw i1'.gr.wmg k_mg0 k_mg9 z0 z3
        rw [decide_eq_true hv] at hcb
        refine ok_e e1 ?_
        have t30 : gI m3 78 0 = iI 0 := by rw [f3.gI (by simp) (by simp), f2.gI (by simp) (by simp)]; rfl
        have eM : Ok (F_M_cost_L67 (fun yq28 mq27 => bnd (F_M_worthBy (iI z) mq27) fun yq31 mq29 => some (yq28 - yq31, mq29)) 1000000 0 0 m3) (fun r m' => r = iL vT ∧ gI m' 78 0 = iI 0) := by
          refine Mcost_loop hMB hPn i3.mo f0 hw hmo (by split <;> omega) (by split <;> omega) (by split <;> omega) _ _ _ _ rfl rfl b1.1 (by omega) b2.1 (by omega) (fun mm hwm lam => ?_) m3 i3.wm la3
          refine ok_bnd (ok_of (MworthBy_ok hMB hPn hwm i3.mo f0 hw hmo lam (by split <;> omega) (by split <;> omega) (by split <;> omega) z0 z3 hv) (fun v m' hq => ok_some ⟨?_, ?_⟩))
          · rw [hq.1, iL_sub, hvT]
            congr 1
            by_cases ho : ocT t mg = 0
            · rw [if_pos ho, if_pos ho, if_pos (by omega)]
              omega
            · rw [if_neg ho, if_neg ho]
          · rw [hq.2.gI (by simp) (by simp), lam.1.I (by simp) (by simp), ← la3.1.I (o := 78) (j := 0) (by simp) (by simp)]
            exact t30
        obtain ⟨_, m4, e4, rfl, t4⟩ := eM
        have v17 : gI m2 79 17 = iI t.pl := i2.wm.2.2.2.2.2.2.2.2.1
        have e3' : F_M_laysLevels (gI m2 79 17) m2 = some ((), m3) := by rw [v17]; exact e3
        have eF : Ok (F_M_cost (iI z) m1) (fun r m' => r = iL vT ∧ m' = m4) := by
          repeat' (first
            | (with_reducible refine ok_ck ?_ ?_; focus (simp (disch := omega) only [↓lt_def, ↓reduceIte, ckB_true, bnd_e, Int.reduceAdd, Int.reduceSub, Int.reduceMul, Int.reduceNeg, Int.reduceToNat, Bool.false_eq_true, eq_self, not_false_eq_true, not_true_eq_false, Int.toNat_natCast, lt0, lt1, lt2, lt3, lt4, lt5, lt6, lt7, lt8, lt9, lt10, lt11, lt12, lt13, lt14, lt15, lt16, lt17, lt18, lt19, lt20, lt21, lt22, lt23, lt24, lt25, lt26, lt27, lt28, lt29, lt30, lt31, lt32, lt40, lt41, lt43, lt48, lt55, lt57, lt59, lt60, lt62, lt63, lt64, lt70, lt72, lt81, lt97, lt99, lt100, lt122, lt162, lt180, lt235, lt255, lt298, lt299, lt325, lt335, lt400, lt837, lt999, lt1000, lt1001, lt1002, lt1003, lt1004, lt1005, lt1006, lt1007, lt1008, lt1100, lt1101, lt1102, lt1103, lt1104, lt1105, lt1135, lt1136, lt1172, lt2000, lt3278, lt3575, lt10000, lt12345, lt21450, lt32767, lt193050, lt1103515245, ltm162, ltm99, ltm81, ltm8, ltm1, iI_add, iI_sub, iI_mul, iI_neg, iI_divn, iI_lt_t, iI_lt_f, iI_le_t, iI_le_f, iI_eq_t, iI_eq_f, iI_lt, iI_le, iI_eq, iI_idx, iI_inb, gI_sI, gL_sL, gZ_sZ, gI_sL, gI_sZ, gL_sI, gL_sZ, gZ_sI, gZ_sL, Nat.reduceEqDiff, false_and, and_false, and_true, true_and, and_self, v17]; done))
            | (with_reducible refine ok_bnd_e (hcb) ?_)
            | (with_reducible refine ok_bnd_e (e2) ?_)
            | (with_reducible refine ok_bnd_e (e3') ?_)
            | (with_reducible refine ok_e e4 ?_)
            | (with_reducible refine ok_bnd ?_)
            | (with_reducible refine ok_bndX ?_)
            | (with_reducible refine ok_lt ?_)
            | (with_reducible refine ok_t ?_ ?_; focus (simp (disch := omega) only [↓lt_def, ↓reduceIte, ckB_true, bnd_e, Int.reduceAdd, Int.reduceSub, Int.reduceMul, Int.reduceNeg, Int.reduceToNat, Bool.false_eq_true, eq_self, not_false_eq_true, not_true_eq_false, Int.toNat_natCast, lt0, lt1, lt2, lt3, lt4, lt5, lt6, lt7, lt8, lt9, lt10, lt11, lt12, lt13, lt14, lt15, lt16, lt17, lt18, lt19, lt20, lt21, lt22, lt23, lt24, lt25, lt26, lt27, lt28, lt29, lt30, lt31, lt32, lt40, lt41, lt43, lt48, lt55, lt57, lt59, lt60, lt62, lt63, lt64, lt70, lt72, lt81, lt97, lt99, lt100, lt122, lt162, lt180, lt235, lt255, lt298, lt299, lt325, lt335, lt400, lt837, lt999, lt1000, lt1001, lt1002, lt1003, lt1004, lt1005, lt1006, lt1007, lt1008, lt1100, lt1101, lt1102, lt1103, lt1104, lt1105, lt1135, lt1136, lt1172, lt2000, lt3278, lt3575, lt10000, lt12345, lt21450, lt32767, lt193050, lt1103515245, ltm162, ltm99, ltm81, ltm8, ltm1, iI_add, iI_sub, iI_mul, iI_neg, iI_divn, iI_lt_t, iI_lt_f, iI_le_t, iI_le_f, iI_eq_t, iI_eq_f, iI_lt, iI_le, iI_eq, iI_idx, iI_inb, gI_sI, gL_sL, gZ_sZ, gI_sL, gI_sZ, gL_sI, gL_sZ, gZ_sI, gZ_sL, Nat.reduceEqDiff, false_and, and_false, and_true, true_and, and_self, v17]; done))
            | (with_reducible refine ok_f ?_ ?_; focus (simp (disch := omega) only [↓lt_def, ↓reduceIte, ckB_true, bnd_e, Int.reduceAdd, Int.reduceSub, Int.reduceMul, Int.reduceNeg, Int.reduceToNat, Bool.false_eq_true, eq_self, not_false_eq_true, not_true_eq_false, Int.toNat_natCast, lt0, lt1, lt2, lt3, lt4, lt5, lt6, lt7, lt8, lt9, lt10, lt11, lt12, lt13, lt14, lt15, lt16, lt17, lt18, lt19, lt20, lt21, lt22, lt23, lt24, lt25, lt26, lt27, lt28, lt29, lt30, lt31, lt32, lt40, lt41, lt43, lt48, lt55, lt57, lt59, lt60, lt62, lt63, lt64, lt70, lt72, lt81, lt97, lt99, lt100, lt122, lt162, lt180, lt235, lt255, lt298, lt299, lt325, lt335, lt400, lt837, lt999, lt1000, lt1001, lt1002, lt1003, lt1004, lt1005, lt1006, lt1007, lt1008, lt1100, lt1101, lt1102, lt1103, lt1104, lt1105, lt1135, lt1136, lt1172, lt2000, lt3278, lt3575, lt10000, lt12345, lt21450, lt32767, lt193050, lt1103515245, ltm162, ltm99, ltm81, ltm8, ltm1, iI_add, iI_sub, iI_mul, iI_neg, iI_divn, iI_lt_t, iI_lt_f, iI_le_t, iI_le_f, iI_eq_t, iI_eq_f, iI_lt, iI_le, iI_eq, iI_idx, iI_inb, gI_sI, gL_sL, gZ_sZ, gI_sL, gI_sZ, gL_sI, gL_sZ, gZ_sI, gZ_sL, Nat.reduceEqDiff, false_and, and_false, and_true, true_and, and_self, v17]; done))
            | ((with_reducible refine ok_ite (fun hc => ?_) (fun hc => ?_)) <;> (try simp (disch := omega) only [↓lt_def, ↓reduceIte, ckB_true, bnd_e, Int.reduceAdd, Int.reduceSub, Int.reduceMul, Int.reduceNeg, Int.reduceToNat, Bool.false_eq_true, eq_self, not_false_eq_true, not_true_eq_false, Int.toNat_natCast, lt0, lt1, lt2, lt3, lt4, lt5, lt6, lt7, lt8, lt9, lt10, lt11, lt12, lt13, lt14, lt15, lt16, lt17, lt18, lt19, lt20, lt21, lt22, lt23, lt24, lt25, lt26, lt27, lt28, lt29, lt30, lt31, lt32, lt40, lt41, lt43, lt48, lt55, lt57, lt59, lt60, lt62, lt63, lt64, lt70, lt72, lt81, lt97, lt99, lt100, lt122, lt162, lt180, lt235, lt255, lt298, lt299, lt325, lt335, lt400, lt837, lt999, lt1000, lt1001, lt1002, lt1003, lt1004, lt1005, lt1006, lt1007, lt1008, lt1100, lt1101, lt1102, lt1103, lt1104, lt1105, lt1135, lt1136, lt1172, lt2000, lt3278, lt3575, lt10000, lt12345, lt21450, lt32767, lt193050, lt1103515245, ltm162, ltm99, ltm81, ltm8, ltm1, iI_add, iI_sub, iI_mul, iI_neg, iI_divn, iI_lt_t, iI_lt_f, iI_le_t, iI_le_f, iI_eq_t, iI_eq_f, iI_lt, iI_le, iI_eq, iI_idx, iI_inb, gI_sI, gL_sL, gZ_sZ, gI_sL, gI_sZ, gL_sI, gL_sZ, gZ_sI, gZ_sL, Nat.reduceEqDiff, false_and, and_false, and_true, true_and, and_self, v17] at hc) <;> (try (exfalso; omega)))
            | (with_reducible refine ok_some ?_)
            | (with_reducible refine ok_xr ?_)
            | (with_reducible refine ok_xl ?_)
            | (unfold F_M_cost)
            | (unfold F_M_in)
            | (unfold F_M_throwsIf)
            | (unfold F_M_played))
          all_goals exact ⟨rfl, rfl⟩
        obtain ⟨_, _, e5, rfl, rfl⟩ := eF
        have f5 := fr_M_cost _ _ _ _ e5
        exact ok_e e5 ⟨⟨t4, rfl⟩, (Mscr i1 (Fr_wk f5 (by simp) (by simp))).inv⟩
      · have x2 : F_M_canBe (iI z) (sI m 78 0 0) = some (false, sI m 78 0 0) := by
          rw [canBe_eq (c := z) (n := n) (mg := mg) (t := t) (h.thr (thr_s (v := 0))).wm h.mo k_n9 f0 hw (h.thr (thr_s (v := 0))).gr.wmg k_mg0 k_mg9 z0 z3, decide_eq_false hv]
        repeat' (first
          | (with_reducible refine ok_ck ?_ ?_; focus (simp (disch := omega) only [↓lt_def, ↓reduceIte, ckB_true, bnd_e, Int.reduceAdd, Int.reduceSub, Int.reduceMul, Int.reduceNeg, Int.reduceToNat, Bool.false_eq_true, eq_self, not_false_eq_true, not_true_eq_false, Int.toNat_natCast, lt0, lt1, lt2, lt3, lt4, lt5, lt6, lt7, lt8, lt9, lt10, lt11, lt12, lt13, lt14, lt15, lt16, lt17, lt18, lt19, lt20, lt21, lt22, lt23, lt24, lt25, lt26, lt27, lt28, lt29, lt30, lt31, lt32, lt40, lt41, lt43, lt48, lt55, lt57, lt59, lt60, lt62, lt63, lt64, lt70, lt72, lt81, lt97, lt99, lt100, lt122, lt162, lt180, lt235, lt255, lt298, lt299, lt325, lt335, lt400, lt837, lt999, lt1000, lt1001, lt1002, lt1003, lt1004, lt1005, lt1006, lt1007, lt1008, lt1100, lt1101, lt1102, lt1103, lt1104, lt1105, lt1135, lt1136, lt1172, lt2000, lt3278, lt3575, lt10000, lt12345, lt21450, lt32767, lt193050, lt1103515245, ltm162, ltm99, ltm81, ltm8, ltm1, iI_add, iI_sub, iI_mul, iI_neg, iI_divn, iI_lt_t, iI_lt_f, iI_le_t, iI_le_f, iI_eq_t, iI_eq_f, iI_lt, iI_le, iI_eq, iI_idx, iI_inb, gI_sI, gL_sL, gZ_sZ, gI_sL, gI_sZ, gL_sI, gL_sZ, gZ_sI, gZ_sL, Nat.reduceEqDiff, false_and, and_false, and_true, true_and, and_self]; done))
          | (with_reducible refine ok_bnd_e (x1) ?_)
          | (with_reducible refine ok_bnd_e (x2) ?_)
          | (with_reducible refine ok_bnd_e (y1) ?_)
          | (with_reducible refine ok_bnd_e (y2) ?_)
          | (with_reducible refine ok_bnd_e (y3) ?_)
          | (with_reducible refine ok_bnd_e (y4) ?_)
          | (with_reducible refine ok_bnd ?_)
          | (with_reducible refine ok_bndX ?_)
          | (with_reducible refine ok_lt ?_)
          | (with_reducible refine ok_t ?_ ?_; focus (simp (disch := omega) only [↓lt_def, ↓reduceIte, ckB_true, bnd_e, Int.reduceAdd, Int.reduceSub, Int.reduceMul, Int.reduceNeg, Int.reduceToNat, Bool.false_eq_true, eq_self, not_false_eq_true, not_true_eq_false, Int.toNat_natCast, lt0, lt1, lt2, lt3, lt4, lt5, lt6, lt7, lt8, lt9, lt10, lt11, lt12, lt13, lt14, lt15, lt16, lt17, lt18, lt19, lt20, lt21, lt22, lt23, lt24, lt25, lt26, lt27, lt28, lt29, lt30, lt31, lt32, lt40, lt41, lt43, lt48, lt55, lt57, lt59, lt60, lt62, lt63, lt64, lt70, lt72, lt81, lt97, lt99, lt100, lt122, lt162, lt180, lt235, lt255, lt298, lt299, lt325, lt335, lt400, lt837, lt999, lt1000, lt1001, lt1002, lt1003, lt1004, lt1005, lt1006, lt1007, lt1008, lt1100, lt1101, lt1102, lt1103, lt1104, lt1105, lt1135, lt1136, lt1172, lt2000, lt3278, lt3575, lt10000, lt12345, lt21450, lt32767, lt193050, lt1103515245, ltm162, ltm99, ltm81, ltm8, ltm1, iI_add, iI_sub, iI_mul, iI_neg, iI_divn, iI_lt_t, iI_lt_f, iI_le_t, iI_le_f, iI_eq_t, iI_eq_f, iI_lt, iI_le, iI_eq, iI_idx, iI_inb, gI_sI, gL_sL, gZ_sZ, gI_sL, gI_sZ, gL_sI, gL_sZ, gZ_sI, gZ_sL, Nat.reduceEqDiff, false_and, and_false, and_true, true_and, and_self]; done))
          | (with_reducible refine ok_f ?_ ?_; focus (simp (disch := omega) only [↓lt_def, ↓reduceIte, ckB_true, bnd_e, Int.reduceAdd, Int.reduceSub, Int.reduceMul, Int.reduceNeg, Int.reduceToNat, Bool.false_eq_true, eq_self, not_false_eq_true, not_true_eq_false, Int.toNat_natCast, lt0, lt1, lt2, lt3, lt4, lt5, lt6, lt7, lt8, lt9, lt10, lt11, lt12, lt13, lt14, lt15, lt16, lt17, lt18, lt19, lt20, lt21, lt22, lt23, lt24, lt25, lt26, lt27, lt28, lt29, lt30, lt31, lt32, lt40, lt41, lt43, lt48, lt55, lt57, lt59, lt60, lt62, lt63, lt64, lt70, lt72, lt81, lt97, lt99, lt100, lt122, lt162, lt180, lt235, lt255, lt298, lt299, lt325, lt335, lt400, lt837, lt999, lt1000, lt1001, lt1002, lt1003, lt1004, lt1005, lt1006, lt1007, lt1008, lt1100, lt1101, lt1102, lt1103, lt1104, lt1105, lt1135, lt1136, lt1172, lt2000, lt3278, lt3575, lt10000, lt12345, lt21450, lt32767, lt193050, lt1103515245, ltm162, ltm99, ltm81, ltm8, ltm1, iI_add, iI_sub, iI_mul, iI_neg, iI_divn, iI_lt_t, iI_lt_f, iI_le_t, iI_le_f, iI_eq_t, iI_eq_f, iI_lt, iI_le, iI_eq, iI_idx, iI_inb, gI_sI, gL_sL, gZ_sZ, gI_sL, gI_sZ, gL_sI, gL_sZ, gZ_sI, gZ_sL, Nat.reduceEqDiff, false_and, and_false, and_true, true_and, and_self]; done))
          | ((with_reducible refine ok_ite (fun hc => ?_) (fun hc => ?_)) <;> (try simp (disch := omega) only [↓lt_def, ↓reduceIte, ckB_true, bnd_e, Int.reduceAdd, Int.reduceSub, Int.reduceMul, Int.reduceNeg, Int.reduceToNat, Bool.false_eq_true, eq_self, not_false_eq_true, not_true_eq_false, Int.toNat_natCast, lt0, lt1, lt2, lt3, lt4, lt5, lt6, lt7, lt8, lt9, lt10, lt11, lt12, lt13, lt14, lt15, lt16, lt17, lt18, lt19, lt20, lt21, lt22, lt23, lt24, lt25, lt26, lt27, lt28, lt29, lt30, lt31, lt32, lt40, lt41, lt43, lt48, lt55, lt57, lt59, lt60, lt62, lt63, lt64, lt70, lt72, lt81, lt97, lt99, lt100, lt122, lt162, lt180, lt235, lt255, lt298, lt299, lt325, lt335, lt400, lt837, lt999, lt1000, lt1001, lt1002, lt1003, lt1004, lt1005, lt1006, lt1007, lt1008, lt1100, lt1101, lt1102, lt1103, lt1104, lt1105, lt1135, lt1136, lt1172, lt2000, lt3278, lt3575, lt10000, lt12345, lt21450, lt32767, lt193050, lt1103515245, ltm162, ltm99, ltm81, ltm8, ltm1, iI_add, iI_sub, iI_mul, iI_neg, iI_divn, iI_lt_t, iI_lt_f, iI_le_t, iI_le_f, iI_eq_t, iI_eq_f, iI_lt, iI_le, iI_eq, iI_idx, iI_inb, gI_sI, gL_sL, gZ_sZ, gI_sL, gI_sZ, gL_sI, gL_sZ, gZ_sI, gZ_sL, Nat.reduceEqDiff, false_and, and_false, and_true, true_and, and_self] at hc) <;> (try (exfalso; omega)))
          | (with_reducible refine ok_some ?_)
          | (with_reducible refine ok_xr ?_)
          | (with_reducible refine ok_xl ?_)
          | (unfold F_T_cost)
          | (unfold F_T_mustBeOn)
          | (unfold F_M_cost)
          | (unfold F_M_in)
          | (unfold F_M_throwsIf))
        all_goals exact ⟨ansL_l (by decide) rfl, ((h.thr thr_ss).up (by omega)).inv⟩
    · have x2 := Mon_eq (t := t) (m := sI m 78 0 0) w10 w18 k_fi0 k_fi1 k_wi0 k_wi2
      rw [decide_eq_false on] at x1 x2
      have x3 : F_M_canBe (iI z) (sI m 78 0 0) = some (false, sI m 78 0 0) := by
        apply ok_eq
        repeat' (first
          | (with_reducible refine ok_ck ?_ ?_; focus (simp (disch := omega) only [↓lt_def, ↓reduceIte, ckB_true, bnd_e, Int.reduceAdd, Int.reduceSub, Int.reduceMul, Int.reduceNeg, Int.reduceToNat, Bool.false_eq_true, eq_self, not_false_eq_true, not_true_eq_false, Int.toNat_natCast, lt0, lt1, lt2, lt3, lt4, lt5, lt6, lt7, lt8, lt9, lt10, lt11, lt12, lt13, lt14, lt15, lt16, lt17, lt18, lt19, lt20, lt21, lt22, lt23, lt24, lt25, lt26, lt27, lt28, lt29, lt30, lt31, lt32, lt40, lt41, lt43, lt48, lt55, lt57, lt59, lt60, lt62, lt63, lt64, lt70, lt72, lt81, lt97, lt99, lt100, lt122, lt162, lt180, lt235, lt255, lt298, lt299, lt325, lt335, lt400, lt837, lt999, lt1000, lt1001, lt1002, lt1003, lt1004, lt1005, lt1006, lt1007, lt1008, lt1100, lt1101, lt1102, lt1103, lt1104, lt1105, lt1135, lt1136, lt1172, lt2000, lt3278, lt3575, lt10000, lt12345, lt21450, lt32767, lt193050, lt1103515245, ltm162, ltm99, ltm81, ltm8, ltm1, iI_add, iI_sub, iI_mul, iI_neg, iI_divn, iI_lt_t, iI_lt_f, iI_le_t, iI_le_f, iI_eq_t, iI_eq_f, iI_lt, iI_le, iI_eq, iI_idx, iI_inb, gI_sI, gL_sL, gZ_sZ, gI_sL, gI_sZ, gL_sI, gL_sZ, gZ_sI, gZ_sL, Nat.reduceEqDiff, false_and, and_false, and_true, true_and, and_self]; done))
          | (with_reducible refine ok_bnd_e (x2) ?_)
          | (with_reducible refine ok_bnd ?_)
          | (with_reducible refine ok_bndX ?_)
          | (with_reducible refine ok_lt ?_)
          | (with_reducible refine ok_t ?_ ?_; focus (simp (disch := omega) only [↓lt_def, ↓reduceIte, ckB_true, bnd_e, Int.reduceAdd, Int.reduceSub, Int.reduceMul, Int.reduceNeg, Int.reduceToNat, Bool.false_eq_true, eq_self, not_false_eq_true, not_true_eq_false, Int.toNat_natCast, lt0, lt1, lt2, lt3, lt4, lt5, lt6, lt7, lt8, lt9, lt10, lt11, lt12, lt13, lt14, lt15, lt16, lt17, lt18, lt19, lt20, lt21, lt22, lt23, lt24, lt25, lt26, lt27, lt28, lt29, lt30, lt31, lt32, lt40, lt41, lt43, lt48, lt55, lt57, lt59, lt60, lt62, lt63, lt64, lt70, lt72, lt81, lt97, lt99, lt100, lt122, lt162, lt180, lt235, lt255, lt298, lt299, lt325, lt335, lt400, lt837, lt999, lt1000, lt1001, lt1002, lt1003, lt1004, lt1005, lt1006, lt1007, lt1008, lt1100, lt1101, lt1102, lt1103, lt1104, lt1105, lt1135, lt1136, lt1172, lt2000, lt3278, lt3575, lt10000, lt12345, lt21450, lt32767, lt193050, lt1103515245, ltm162, ltm99, ltm81, ltm8, ltm1, iI_add, iI_sub, iI_mul, iI_neg, iI_divn, iI_lt_t, iI_lt_f, iI_le_t, iI_le_f, iI_eq_t, iI_eq_f, iI_lt, iI_le, iI_eq, iI_idx, iI_inb, gI_sI, gL_sL, gZ_sZ, gI_sL, gI_sZ, gL_sI, gL_sZ, gZ_sI, gZ_sL, Nat.reduceEqDiff, false_and, and_false, and_true, true_and, and_self]; done))
          | (with_reducible refine ok_f ?_ ?_; focus (simp (disch := omega) only [↓lt_def, ↓reduceIte, ckB_true, bnd_e, Int.reduceAdd, Int.reduceSub, Int.reduceMul, Int.reduceNeg, Int.reduceToNat, Bool.false_eq_true, eq_self, not_false_eq_true, not_true_eq_false, Int.toNat_natCast, lt0, lt1, lt2, lt3, lt4, lt5, lt6, lt7, lt8, lt9, lt10, lt11, lt12, lt13, lt14, lt15, lt16, lt17, lt18, lt19, lt20, lt21, lt22, lt23, lt24, lt25, lt26, lt27, lt28, lt29, lt30, lt31, lt32, lt40, lt41, lt43, lt48, lt55, lt57, lt59, lt60, lt62, lt63, lt64, lt70, lt72, lt81, lt97, lt99, lt100, lt122, lt162, lt180, lt235, lt255, lt298, lt299, lt325, lt335, lt400, lt837, lt999, lt1000, lt1001, lt1002, lt1003, lt1004, lt1005, lt1006, lt1007, lt1008, lt1100, lt1101, lt1102, lt1103, lt1104, lt1105, lt1135, lt1136, lt1172, lt2000, lt3278, lt3575, lt10000, lt12345, lt21450, lt32767, lt193050, lt1103515245, ltm162, ltm99, ltm81, ltm8, ltm1, iI_add, iI_sub, iI_mul, iI_neg, iI_divn, iI_lt_t, iI_lt_f, iI_le_t, iI_le_f, iI_eq_t, iI_eq_f, iI_lt, iI_le, iI_eq, iI_idx, iI_inb, gI_sI, gL_sL, gZ_sZ, gI_sL, gI_sZ, gL_sI, gL_sZ, gZ_sI, gZ_sL, Nat.reduceEqDiff, false_and, and_false, and_true, true_and, and_self]; done))
          | ((with_reducible refine ok_ite (fun hc => ?_) (fun hc => ?_)) <;> (try simp (disch := omega) only [↓lt_def, ↓reduceIte, ckB_true, bnd_e, Int.reduceAdd, Int.reduceSub, Int.reduceMul, Int.reduceNeg, Int.reduceToNat, Bool.false_eq_true, eq_self, not_false_eq_true, not_true_eq_false, Int.toNat_natCast, lt0, lt1, lt2, lt3, lt4, lt5, lt6, lt7, lt8, lt9, lt10, lt11, lt12, lt13, lt14, lt15, lt16, lt17, lt18, lt19, lt20, lt21, lt22, lt23, lt24, lt25, lt26, lt27, lt28, lt29, lt30, lt31, lt32, lt40, lt41, lt43, lt48, lt55, lt57, lt59, lt60, lt62, lt63, lt64, lt70, lt72, lt81, lt97, lt99, lt100, lt122, lt162, lt180, lt235, lt255, lt298, lt299, lt325, lt335, lt400, lt837, lt999, lt1000, lt1001, lt1002, lt1003, lt1004, lt1005, lt1006, lt1007, lt1008, lt1100, lt1101, lt1102, lt1103, lt1104, lt1105, lt1135, lt1136, lt1172, lt2000, lt3278, lt3575, lt10000, lt12345, lt21450, lt32767, lt193050, lt1103515245, ltm162, ltm99, ltm81, ltm8, ltm1, iI_add, iI_sub, iI_mul, iI_neg, iI_divn, iI_lt_t, iI_lt_f, iI_le_t, iI_le_f, iI_eq_t, iI_eq_f, iI_lt, iI_le, iI_eq, iI_idx, iI_inb, gI_sI, gL_sL, gZ_sZ, gI_sL, gI_sZ, gL_sI, gL_sZ, gZ_sI, gZ_sL, Nat.reduceEqDiff, false_and, and_false, and_true, true_and, and_self] at hc) <;> (try (exfalso; omega)))
          | (with_reducible refine ok_some ?_)
          | (with_reducible refine ok_xr ?_)
          | (with_reducible refine ok_xl ?_)
          | (unfold F_M_canBe)
          | (unfold F_M_canDeclare)
          | (unfold F_M_canFollow)
          | (unfold F_M_canHold))
        all_goals exact ⟨rfl, rfl⟩
      repeat' (first
        | (with_reducible refine ok_ck ?_ ?_; focus (simp (disch := omega) only [↓lt_def, ↓reduceIte, ckB_true, bnd_e, Int.reduceAdd, Int.reduceSub, Int.reduceMul, Int.reduceNeg, Int.reduceToNat, Bool.false_eq_true, eq_self, not_false_eq_true, not_true_eq_false, Int.toNat_natCast, lt0, lt1, lt2, lt3, lt4, lt5, lt6, lt7, lt8, lt9, lt10, lt11, lt12, lt13, lt14, lt15, lt16, lt17, lt18, lt19, lt20, lt21, lt22, lt23, lt24, lt25, lt26, lt27, lt28, lt29, lt30, lt31, lt32, lt40, lt41, lt43, lt48, lt55, lt57, lt59, lt60, lt62, lt63, lt64, lt70, lt72, lt81, lt97, lt99, lt100, lt122, lt162, lt180, lt235, lt255, lt298, lt299, lt325, lt335, lt400, lt837, lt999, lt1000, lt1001, lt1002, lt1003, lt1004, lt1005, lt1006, lt1007, lt1008, lt1100, lt1101, lt1102, lt1103, lt1104, lt1105, lt1135, lt1136, lt1172, lt2000, lt3278, lt3575, lt10000, lt12345, lt21450, lt32767, lt193050, lt1103515245, ltm162, ltm99, ltm81, ltm8, ltm1, iI_add, iI_sub, iI_mul, iI_neg, iI_divn, iI_lt_t, iI_lt_f, iI_le_t, iI_le_f, iI_eq_t, iI_eq_f, iI_lt, iI_le, iI_eq, iI_idx, iI_inb, gI_sI, gL_sL, gZ_sZ, gI_sL, gI_sZ, gL_sI, gL_sZ, gZ_sI, gZ_sL, Nat.reduceEqDiff, false_and, and_false, and_true, true_and, and_self]; done))
        | (with_reducible refine ok_bnd_e (x1) ?_)
        | (with_reducible refine ok_bnd_e (x3) ?_)
        | (with_reducible refine ok_bnd ?_)
        | (with_reducible refine ok_bndX ?_)
        | (with_reducible refine ok_lt ?_)
        | (with_reducible refine ok_t ?_ ?_; focus (simp (disch := omega) only [↓lt_def, ↓reduceIte, ckB_true, bnd_e, Int.reduceAdd, Int.reduceSub, Int.reduceMul, Int.reduceNeg, Int.reduceToNat, Bool.false_eq_true, eq_self, not_false_eq_true, not_true_eq_false, Int.toNat_natCast, lt0, lt1, lt2, lt3, lt4, lt5, lt6, lt7, lt8, lt9, lt10, lt11, lt12, lt13, lt14, lt15, lt16, lt17, lt18, lt19, lt20, lt21, lt22, lt23, lt24, lt25, lt26, lt27, lt28, lt29, lt30, lt31, lt32, lt40, lt41, lt43, lt48, lt55, lt57, lt59, lt60, lt62, lt63, lt64, lt70, lt72, lt81, lt97, lt99, lt100, lt122, lt162, lt180, lt235, lt255, lt298, lt299, lt325, lt335, lt400, lt837, lt999, lt1000, lt1001, lt1002, lt1003, lt1004, lt1005, lt1006, lt1007, lt1008, lt1100, lt1101, lt1102, lt1103, lt1104, lt1105, lt1135, lt1136, lt1172, lt2000, lt3278, lt3575, lt10000, lt12345, lt21450, lt32767, lt193050, lt1103515245, ltm162, ltm99, ltm81, ltm8, ltm1, iI_add, iI_sub, iI_mul, iI_neg, iI_divn, iI_lt_t, iI_lt_f, iI_le_t, iI_le_f, iI_eq_t, iI_eq_f, iI_lt, iI_le, iI_eq, iI_idx, iI_inb, gI_sI, gL_sL, gZ_sZ, gI_sL, gI_sZ, gL_sI, gL_sZ, gZ_sI, gZ_sL, Nat.reduceEqDiff, false_and, and_false, and_true, true_and, and_self]; done))
        | (with_reducible refine ok_f ?_ ?_; focus (simp (disch := omega) only [↓lt_def, ↓reduceIte, ckB_true, bnd_e, Int.reduceAdd, Int.reduceSub, Int.reduceMul, Int.reduceNeg, Int.reduceToNat, Bool.false_eq_true, eq_self, not_false_eq_true, not_true_eq_false, Int.toNat_natCast, lt0, lt1, lt2, lt3, lt4, lt5, lt6, lt7, lt8, lt9, lt10, lt11, lt12, lt13, lt14, lt15, lt16, lt17, lt18, lt19, lt20, lt21, lt22, lt23, lt24, lt25, lt26, lt27, lt28, lt29, lt30, lt31, lt32, lt40, lt41, lt43, lt48, lt55, lt57, lt59, lt60, lt62, lt63, lt64, lt70, lt72, lt81, lt97, lt99, lt100, lt122, lt162, lt180, lt235, lt255, lt298, lt299, lt325, lt335, lt400, lt837, lt999, lt1000, lt1001, lt1002, lt1003, lt1004, lt1005, lt1006, lt1007, lt1008, lt1100, lt1101, lt1102, lt1103, lt1104, lt1105, lt1135, lt1136, lt1172, lt2000, lt3278, lt3575, lt10000, lt12345, lt21450, lt32767, lt193050, lt1103515245, ltm162, ltm99, ltm81, ltm8, ltm1, iI_add, iI_sub, iI_mul, iI_neg, iI_divn, iI_lt_t, iI_lt_f, iI_le_t, iI_le_f, iI_eq_t, iI_eq_f, iI_lt, iI_le, iI_eq, iI_idx, iI_inb, gI_sI, gL_sL, gZ_sZ, gI_sL, gI_sZ, gL_sI, gL_sZ, gZ_sI, gZ_sL, Nat.reduceEqDiff, false_and, and_false, and_true, true_and, and_self]; done))
        | ((with_reducible refine ok_ite (fun hc => ?_) (fun hc => ?_)) <;> (try simp (disch := omega) only [↓lt_def, ↓reduceIte, ckB_true, bnd_e, Int.reduceAdd, Int.reduceSub, Int.reduceMul, Int.reduceNeg, Int.reduceToNat, Bool.false_eq_true, eq_self, not_false_eq_true, not_true_eq_false, Int.toNat_natCast, lt0, lt1, lt2, lt3, lt4, lt5, lt6, lt7, lt8, lt9, lt10, lt11, lt12, lt13, lt14, lt15, lt16, lt17, lt18, lt19, lt20, lt21, lt22, lt23, lt24, lt25, lt26, lt27, lt28, lt29, lt30, lt31, lt32, lt40, lt41, lt43, lt48, lt55, lt57, lt59, lt60, lt62, lt63, lt64, lt70, lt72, lt81, lt97, lt99, lt100, lt122, lt162, lt180, lt235, lt255, lt298, lt299, lt325, lt335, lt400, lt837, lt999, lt1000, lt1001, lt1002, lt1003, lt1004, lt1005, lt1006, lt1007, lt1008, lt1100, lt1101, lt1102, lt1103, lt1104, lt1105, lt1135, lt1136, lt1172, lt2000, lt3278, lt3575, lt10000, lt12345, lt21450, lt32767, lt193050, lt1103515245, ltm162, ltm99, ltm81, ltm8, ltm1, iI_add, iI_sub, iI_mul, iI_neg, iI_divn, iI_lt_t, iI_lt_f, iI_le_t, iI_le_f, iI_eq_t, iI_eq_f, iI_lt, iI_le, iI_eq, iI_idx, iI_inb, gI_sI, gL_sL, gZ_sZ, gI_sL, gI_sZ, gL_sI, gL_sZ, gZ_sI, gZ_sL, Nat.reduceEqDiff, false_and, and_false, and_true, true_and, and_self] at hc) <;> (try (exfalso; omega)))
        | (with_reducible refine ok_some ?_)
        | (with_reducible refine ok_xr ?_)
        | (with_reducible refine ok_xl ?_)
        | (unfold F_T_cost)
        | (unfold F_T_mustBeOn)
        | (unfold F_M_cost)
        | (unfold F_M_in)
        | (unfold F_M_throwsIf))
      all_goals exact ⟨ansL_l (by decide) rfl, ((h.thr thr_ss).up (by omega)).inv⟩
  · skip
    repeat' (first
      | (with_reducible refine ok_ck ?_ ?_; focus (simp (disch := omega) only [↓lt_def, ↓reduceIte, ckB_true, bnd_e, Int.reduceAdd, Int.reduceSub, Int.reduceMul, Int.reduceNeg, Int.reduceToNat, Bool.false_eq_true, eq_self, not_false_eq_true, not_true_eq_false, Int.toNat_natCast, lt0, lt1, lt2, lt3, lt4, lt5, lt6, lt7, lt8, lt9, lt10, lt11, lt12, lt13, lt14, lt15, lt16, lt17, lt18, lt19, lt20, lt21, lt22, lt23, lt24, lt25, lt26, lt27, lt28, lt29, lt30, lt31, lt32, lt40, lt41, lt43, lt48, lt55, lt57, lt59, lt60, lt62, lt63, lt64, lt70, lt72, lt81, lt97, lt99, lt100, lt122, lt162, lt180, lt235, lt255, lt298, lt299, lt325, lt335, lt400, lt837, lt999, lt1000, lt1001, lt1002, lt1003, lt1004, lt1005, lt1006, lt1007, lt1008, lt1100, lt1101, lt1102, lt1103, lt1104, lt1105, lt1135, lt1136, lt1172, lt2000, lt3278, lt3575, lt10000, lt12345, lt21450, lt32767, lt193050, lt1103515245, ltm162, ltm99, ltm81, ltm8, ltm1, iI_add, iI_sub, iI_mul, iI_neg, iI_divn, iI_lt_t, iI_lt_f, iI_le_t, iI_le_f, iI_eq_t, iI_eq_f, iI_lt, iI_le, iI_eq, iI_idx, iI_inb, gI_sI, gL_sL, gZ_sZ, gI_sL, gI_sZ, gL_sI, gL_sZ, gZ_sI, gZ_sL, Nat.reduceEqDiff, false_and, and_false, and_true, true_and, and_self]; done))
      | (with_reducible refine ok_bnd ?_)
      | (with_reducible refine ok_bndX ?_)
      | (with_reducible refine ok_lt ?_)
      | (with_reducible refine ok_t ?_ ?_; focus (simp (disch := omega) only [↓lt_def, ↓reduceIte, ckB_true, bnd_e, Int.reduceAdd, Int.reduceSub, Int.reduceMul, Int.reduceNeg, Int.reduceToNat, Bool.false_eq_true, eq_self, not_false_eq_true, not_true_eq_false, Int.toNat_natCast, lt0, lt1, lt2, lt3, lt4, lt5, lt6, lt7, lt8, lt9, lt10, lt11, lt12, lt13, lt14, lt15, lt16, lt17, lt18, lt19, lt20, lt21, lt22, lt23, lt24, lt25, lt26, lt27, lt28, lt29, lt30, lt31, lt32, lt40, lt41, lt43, lt48, lt55, lt57, lt59, lt60, lt62, lt63, lt64, lt70, lt72, lt81, lt97, lt99, lt100, lt122, lt162, lt180, lt235, lt255, lt298, lt299, lt325, lt335, lt400, lt837, lt999, lt1000, lt1001, lt1002, lt1003, lt1004, lt1005, lt1006, lt1007, lt1008, lt1100, lt1101, lt1102, lt1103, lt1104, lt1105, lt1135, lt1136, lt1172, lt2000, lt3278, lt3575, lt10000, lt12345, lt21450, lt32767, lt193050, lt1103515245, ltm162, ltm99, ltm81, ltm8, ltm1, iI_add, iI_sub, iI_mul, iI_neg, iI_divn, iI_lt_t, iI_lt_f, iI_le_t, iI_le_f, iI_eq_t, iI_eq_f, iI_lt, iI_le, iI_eq, iI_idx, iI_inb, gI_sI, gL_sL, gZ_sZ, gI_sL, gI_sZ, gL_sI, gL_sZ, gZ_sI, gZ_sL, Nat.reduceEqDiff, false_and, and_false, and_true, true_and, and_self]; done))
      | (with_reducible refine ok_f ?_ ?_; focus (simp (disch := omega) only [↓lt_def, ↓reduceIte, ckB_true, bnd_e, Int.reduceAdd, Int.reduceSub, Int.reduceMul, Int.reduceNeg, Int.reduceToNat, Bool.false_eq_true, eq_self, not_false_eq_true, not_true_eq_false, Int.toNat_natCast, lt0, lt1, lt2, lt3, lt4, lt5, lt6, lt7, lt8, lt9, lt10, lt11, lt12, lt13, lt14, lt15, lt16, lt17, lt18, lt19, lt20, lt21, lt22, lt23, lt24, lt25, lt26, lt27, lt28, lt29, lt30, lt31, lt32, lt40, lt41, lt43, lt48, lt55, lt57, lt59, lt60, lt62, lt63, lt64, lt70, lt72, lt81, lt97, lt99, lt100, lt122, lt162, lt180, lt235, lt255, lt298, lt299, lt325, lt335, lt400, lt837, lt999, lt1000, lt1001, lt1002, lt1003, lt1004, lt1005, lt1006, lt1007, lt1008, lt1100, lt1101, lt1102, lt1103, lt1104, lt1105, lt1135, lt1136, lt1172, lt2000, lt3278, lt3575, lt10000, lt12345, lt21450, lt32767, lt193050, lt1103515245, ltm162, ltm99, ltm81, ltm8, ltm1, iI_add, iI_sub, iI_mul, iI_neg, iI_divn, iI_lt_t, iI_lt_f, iI_le_t, iI_le_f, iI_eq_t, iI_eq_f, iI_lt, iI_le, iI_eq, iI_idx, iI_inb, gI_sI, gL_sL, gZ_sZ, gI_sL, gI_sZ, gL_sI, gL_sZ, gZ_sI, gZ_sL, Nat.reduceEqDiff, false_and, and_false, and_true, true_and, and_self]; done))
      | ((with_reducible refine ok_ite (fun hc => ?_) (fun hc => ?_)) <;> (try simp (disch := omega) only [↓lt_def, ↓reduceIte, ckB_true, bnd_e, Int.reduceAdd, Int.reduceSub, Int.reduceMul, Int.reduceNeg, Int.reduceToNat, Bool.false_eq_true, eq_self, not_false_eq_true, not_true_eq_false, Int.toNat_natCast, lt0, lt1, lt2, lt3, lt4, lt5, lt6, lt7, lt8, lt9, lt10, lt11, lt12, lt13, lt14, lt15, lt16, lt17, lt18, lt19, lt20, lt21, lt22, lt23, lt24, lt25, lt26, lt27, lt28, lt29, lt30, lt31, lt32, lt40, lt41, lt43, lt48, lt55, lt57, lt59, lt60, lt62, lt63, lt64, lt70, lt72, lt81, lt97, lt99, lt100, lt122, lt162, lt180, lt235, lt255, lt298, lt299, lt325, lt335, lt400, lt837, lt999, lt1000, lt1001, lt1002, lt1003, lt1004, lt1005, lt1006, lt1007, lt1008, lt1100, lt1101, lt1102, lt1103, lt1104, lt1105, lt1135, lt1136, lt1172, lt2000, lt3278, lt3575, lt10000, lt12345, lt21450, lt32767, lt193050, lt1103515245, ltm162, ltm99, ltm81, ltm8, ltm1, iI_add, iI_sub, iI_mul, iI_neg, iI_divn, iI_lt_t, iI_lt_f, iI_le_t, iI_le_f, iI_eq_t, iI_eq_f, iI_lt, iI_le, iI_eq, iI_idx, iI_inb, gI_sI, gL_sL, gZ_sZ, gI_sL, gI_sZ, gL_sI, gL_sZ, gZ_sI, gZ_sL, Nat.reduceEqDiff, false_and, and_false, and_true, true_and, and_self] at hc) <;> (try (exfalso; omega)))
      | (with_reducible refine ok_some ?_)
      | (with_reducible refine ok_xr ?_)
      | (with_reducible refine ok_xl ?_)
      | (unfold F_T_cost)
      | (unfold F_M_cost)
      | (unfold F_M_in)
      | (unfold F_M_throwsIf))
    all_goals exact ⟨ansL_l (by decide) rfl, ((h.thr thr_ss).up (by omega)).inv⟩
end COSTF
