section TOLDD
def chs (v : Int → Int × Int) : Nat → Int
  | 0 => -1
  | d + 1 => if (v d).1 < (v d).2 then chs v d else d
theorem Tchs_loop {law : Option (List (Int × List Int))} {P : OP} {mg tx bc f dw : Int} {mk : Int64} {bl : Bool} {wd : Int} {m0 : Mem} (hB : OB law P mg tx bc f dw mk bl wd m0) {p : Int} (p0 : 0 ≤ p) (pn : p ≤ P.n) : ∀ (d : Nat) (m : Mem) (nf : Nat), OI law P mk m0 m → d ≤ 82 → d < nf → Ok (F_T_chased_L33 (iI p) (iI 3) nf (iI ((d : Int) - 1)) m) (fun r m' => r = .inr (iI (chs (fun b => V P (P.n - p).toNat 3 0 (-b)) d)) ∧ OI law P mk m0 m') := by
  intro d
  have n9 := hB.gr.n9
  have h4 := four_le (P.n - p).toNat (by omega)
  induction d with
  | zero =>
    intro m nf h hd hnf
    obtain ⟨nf, rfl⟩ : ∃ x, nf = x + 1 := ⟨nf - 1, by omega⟩
    rw [F_T_chased_L33]
    exact ok_t (by decide) (ok_some ⟨rfl, h⟩)
  | succ d ih =>
    intro m nf h hd hnf
    obtain ⟨nf, rfl⟩ : ∃ x, nf = x + 1 := ⟨nf - 1, by omega⟩
    obtain ⟨v1, v2, v3⟩ := V_ok (P := P) (P.n - p).toNat 3 0 (-(d : Int))
    rw [show ((d + 1 : Nat) : Int) - 1 = (d : Int) by omega, F_T_chased_L33]
    refine ok_f (by rw [lt0, iI_lt (by omega) (by omega) (by omega) (by omega)]; omega) ?_
    rw [iI_neg, lt0, lt1]
    refine ok_bnd (ok_of (TwinsOf_ok hB h (p := p) (k := 3) (o := 0) (l := -(d : Int)) (z := 0) p0 pn (by omega) (by omega) (by omega) (by omega) (by omega) (by omega) (by omega) (by omega)) (fun y m1 hv => ?_))
    obtain ⟨rfl, h1⟩ := hv
    refine ok_bnd (ok_of (TwinsOf_ok hB h1 (p := p) (k := 3) (o := 0) (l := -(d : Int)) (z := 1) p0 pn (by omega) (by omega) (by omega) (by omega) (by omega) (by omega) (by omega) (by omega)) (fun y m2 hv => ?_))
    obtain ⟨rfl, h2⟩ := hv
    rw [show askV (four (P.n - p).toNat) (V P (P.n - p).toNat 3 0 (-(d : Int))) 0 = (V P (P.n - p).toNat 3 0 (-(d : Int))).1 from rfl, show askV (four (P.n - p).toNat) (V P (P.n - p).toNat 3 0 (-(d : Int))) 1 = (V P (P.n - p).toNat 3 0 (-(d : Int))).2 from rfl]
    simp only [chs]
    by_cases hc : (V P (P.n - p).toNat 3 0 (-(d : Int))).1 < (V P (P.n - p).toNat 3 0 (-(d : Int))).2
    · refine ok_t (by rw [iL_lt (by omega) (by omega) (by omega) (by omega)]; exact hc) (ok_lt ?_)
      rw [if_pos hc, iI_neg, iI_add, show (d : Int) + -1 = (d : Int) - 1 by omega]
      exact ih m2 nf h2 (by omega) (by omega)
    · refine ok_f (by rw [iL_lt (by omega) (by omega) (by omega) (by omega)]; exact hc) (ok_some ⟨?_, h2⟩)
      rw [if_neg hc]
theorem Mchs_loop {law : Option (List (Int × List Int))} {P : OP} {mg tx bc f dw : Int} {bl : Bool} {wd : Int} {m0 : Mem} (hB : MB law P mg tx bc f dw bl wd m0) {p more : Int} (p0 : 0 ≤ p) (pn : p < P.n) : ∀ (d : Nat) (m : Mem) (nf : Nat), LaSt law P f m0 p p 81 more m → d ≤ 82 → d < nf → Ok (F_M_chased_L41 (iI p) nf (iI ((d : Int) - 1)) m) (fun r m' => r = iI (chs (fun b => V P (P.n - p).toNat 3 0 (-b)) d) ∧ Fr [] [(78, 23), (78, 24)] m m') := by
  intro d
  have n9 := hB.gr.n9
  have h4 := four_le (P.n - p).toNat (by omega)
  induction d with
  | zero =>
    intro m nf h hd hnf
    obtain ⟨nf, rfl⟩ : ∃ x, nf = x + 1 := ⟨nf - 1, by omega⟩
    rw [F_M_chased_L41]
    exact ok_t (by decide) (ok_some ⟨rfl, Fr_rf⟩)
  | succ d ih =>
    intro m nf h hd hnf
    obtain ⟨nf, rfl⟩ : ∃ x, nf = x + 1 := ⟨nf - 1, by omega⟩
    obtain ⟨v1, v2, v3⟩ := V_ok (P := P) (P.n - p).toNat 3 0 (-(d : Int))
    rw [show ((d + 1 : Nat) : Int) - 1 = (d : Int) by omega, F_M_chased_L41]
    refine ok_f (by rw [lt0, iI_lt (by omega) (by omega) (by omega) (by omega)]; omega) ?_
    rw [iI_neg, lt4, lt0]
    have hcell := h.2.2 p (Or.inl rfl) pn 4 0 (-(d : Int)) (by omega) (by omega) (by omega) (by omega) (by rw [Int.sub_self, Int.mul_zero]; omega) (by rw [Int.sub_self, Int.mul_zero]; omega)
    rw [mu4] at hcell
    refine ok_bnd (ok_of (takes_ok (p := p) (j := 4) (o := 0) (l := -(d : Int)) p0 (by omega) (by omega) (by omega) (by omega) (by omega) (by omega) (by omega) hcell.1 hcell.2) (fun _ m1 hv => ?_))
    obtain ⟨g1, f1⟩ := hv
    rw [g1.1, g1.2]
    simp only [chs]
    by_cases hc : (V P (P.n - p).toNat 3 0 (-(d : Int))).1 < (V P (P.n - p).toNat 3 0 (-(d : Int))).2
    · refine ok_t (by rw [iI_lt (by omega) (by omega) (by omega) (by omega)]; exact hc) (ok_lt ?_)
      rw [if_pos hc, ltm1, iI_add, show (d : Int) + -1 = (d : Int) - 1 by omega]
      have h' : LaSt law P f m0 p p 81 more m1 := ⟨h.1.tr f1, fun q => (h.2.1 q).fr f1, fun q a b => (h.2.2 q a b).fr f1⟩
      exact ok_of (ih m1 nf h' (by omega) (by omega)) (fun r m' hv => ⟨hv.1, Fr_tr f1 hv.2 (by simp) (by simp)⟩)
    · refine ok_f (by rw [iI_lt (by omega) (by omega) (by omega) (by omega)]; exact hc) (ok_some ⟨?_, f1⟩)
      rw [if_neg hc]
theorem chased_op {B : Nat} {law : Option (List (Int × List Int))} {n mg wd tx bc : Int} {t : Mt} {m : Mem} (h : IV B law n mg wd tx bc t m) (hB6 : B ≤ 1000000) (a : Int32) : Both (B + 1) cd12 (F_T_chased a) (F_M_chased a) m := by
  obtain ⟨p, rfl, p1, p2⟩ := iI_ex a
  have k_cn := h.gr.cn
  have k_wn := h.gr.wn
  have k_n1 := h.gr.n1
  have k_n9 := h.gr.n9
  unfold Both
  by_cases hr : 0 ≤ p ∧ p ≤ n
  · obtain ⟨hp0, hpn⟩ := hr
    obtain ⟨m1, mk, e1, hB, hO, hI, f1⟩ := h.ready hB6 (f := 0) (dw := wd) false (by omega) (by omega) h.gr.dw0 h.gr.dw9
    have e1' : F_Od_ready (0 : Int32) (gI m 3 5) false m = some ((), m1) := by rw [h.gr.cdw]; exact e1
    have ek : F_Od_kindOf (3 : Int32) false m1 = some (iI 3, m1) := TkindOf_eq (i := 3) (fo := false) (by omega) (by omega)
    obtain ⟨b2, m2, e2, rfl, q2⟩ := Tchs_loop hB (p := p) hp0 (by rw [opOf_n]; exact hpn) 82 m1 1000000 hO (by omega) (by omega)
    rw [opOf_n] at e2
    have iv2 := hI m2 q2
    have hw2 : gI m2 79 = gI m 79 := (Fr_row q2.1.fr rfl rfl).trans (Fr_row f1 rfl rfl)
    have iv2' := iv2.thr (thr_s (v := 0))
    have k_wn2 := iv2.gr.wn
    have e2' : F_T_chased_L33 (iI p) (iI 3) 1000000 (81 : Int32) m1 = some (.inr (iI (chs (fun b => V (opOf (gI m 79) law n mg 0 wd false) (n - p).toNat 3 0 (-b)) 82)), m2) := e2
    by_cases hg : p < n
    · obtain ⟨m0, more, hMB, hmo, hcf⟩ := countsFrom_ok iv2' (p := p) (l := 81) hp0 hpn (by omega) (by omega) (w := gI m 79) (by rw [← hw2]; rfl)
      obtain ⟨_, m3, e3, la3, f3⟩ := hcf
      have e3' : F_M_countsFrom (iI p) (81 : Int32) (sI m2 78 0 0) = some ((), m3) := e3
      obtain ⟨b4, m4, e4, rfl, f4⟩ := Mchs_loop hMB hp0 (by rw [opOf_n]; exact hg) 82 m3 1000000 la3 (by omega) (by omega)
      rw [opOf_n] at e4
      have iv4 := Mscr (Mscr iv2' (Fr_wk f3 (by simp) (by simp))) (Fr_wk f4 (by simp) (by simp))
      have t4 : gI m4 78 0 = iI 0 := by rw [f4.gI (by simp) (by simp), f3.gI (by simp) (by simp)]; rfl
      have e4' : F_M_chased_L41 (iI p) 1000000 (81 : Int32) m3 = some (iI (chs (fun b => V (opOf (gI m 79) law n mg 0 wd false) (n - p).toNat 3 0 (-b)) 82), m4) := e4
      repeat' (first
        | (with_reducible refine ok_ck ?_ ?_; focus (simp (disch := omega) only [↓lt_def, ↓reduceIte, ckB_true, bnd_e, Int.reduceAdd, Int.reduceSub, Int.reduceMul, Int.reduceNeg, Int.reduceToNat, Bool.false_eq_true, eq_self, not_false_eq_true, not_true_eq_false, Int.toNat_natCast, lt0, lt1, lt2, lt3, lt4, lt5, lt6, lt7, lt8, lt9, lt10, lt11, lt12, lt13, lt14, lt15, lt16, lt17, lt18, lt19, lt20, lt21, lt22, lt23, lt24, lt25, lt26, lt27, lt28, lt29, lt30, lt31, lt32, lt40, lt41, lt43, lt48, lt55, lt57, lt59, lt60, lt62, lt63, lt64, lt70, lt72, lt81, lt97, lt99, lt100, lt122, lt162, lt180, lt235, lt255, lt298, lt299, lt325, lt335, lt400, lt837, lt999, lt1000, lt1001, lt1002, lt1003, lt1004, lt1005, lt1006, lt1007, lt1008, lt1100, lt1101, lt1102, lt1103, lt1104, lt1105, lt1135, lt1136, lt1172, lt2000, lt3278, lt3575, lt10000, lt12345, lt21450, lt32767, lt193050, lt1103515245, ltm162, ltm99, ltm81, ltm8, ltm1, iI_add, iI_sub, iI_mul, iI_neg, iI_divn, iI_lt_t, iI_lt_f, iI_le_t, iI_le_f, iI_eq_t, iI_eq_f, iI_lt, iI_le, iI_eq, iI_idx, iI_inb, gI_sI, gL_sL, gZ_sZ, gI_sL, gI_sZ, gL_sI, gL_sZ, gZ_sI, gZ_sL, Nat.reduceEqDiff, false_and, and_false, and_true, true_and, and_self, k_cn, k_wn, k_wn2]; done))
        | (with_reducible refine ok_bnd_e (e1') ?_)
        | (with_reducible refine ok_bnd_e (ek) ?_)
        | (with_reducible refine ok_bnd_e (e3') ?_)
        | (with_reducible refine ok_e e2' ?_)
        | (with_reducible refine ok_e e4' ?_)
        | (with_reducible refine ok_bnd ?_)
        | (with_reducible refine ok_bndX ?_)
        | (with_reducible refine ok_lt ?_)
        | (with_reducible refine ok_t ?_ ?_; focus (simp (disch := omega) only [↓lt_def, ↓reduceIte, ckB_true, bnd_e, Int.reduceAdd, Int.reduceSub, Int.reduceMul, Int.reduceNeg, Int.reduceToNat, Bool.false_eq_true, eq_self, not_false_eq_true, not_true_eq_false, Int.toNat_natCast, lt0, lt1, lt2, lt3, lt4, lt5, lt6, lt7, lt8, lt9, lt10, lt11, lt12, lt13, lt14, lt15, lt16, lt17, lt18, lt19, lt20, lt21, lt22, lt23, lt24, lt25, lt26, lt27, lt28, lt29, lt30, lt31, lt32, lt40, lt41, lt43, lt48, lt55, lt57, lt59, lt60, lt62, lt63, lt64, lt70, lt72, lt81, lt97, lt99, lt100, lt122, lt162, lt180, lt235, lt255, lt298, lt299, lt325, lt335, lt400, lt837, lt999, lt1000, lt1001, lt1002, lt1003, lt1004, lt1005, lt1006, lt1007, lt1008, lt1100, lt1101, lt1102, lt1103, lt1104, lt1105, lt1135, lt1136, lt1172, lt2000, lt3278, lt3575, lt10000, lt12345, lt21450, lt32767, lt193050, lt1103515245, ltm162, ltm99, ltm81, ltm8, ltm1, iI_add, iI_sub, iI_mul, iI_neg, iI_divn, iI_lt_t, iI_lt_f, iI_le_t, iI_le_f, iI_eq_t, iI_eq_f, iI_lt, iI_le, iI_eq, iI_idx, iI_inb, gI_sI, gL_sL, gZ_sZ, gI_sL, gI_sZ, gL_sI, gL_sZ, gZ_sI, gZ_sL, Nat.reduceEqDiff, false_and, and_false, and_true, true_and, and_self, k_cn, k_wn, k_wn2]; done))
        | (with_reducible refine ok_f ?_ ?_; focus (simp (disch := omega) only [↓lt_def, ↓reduceIte, ckB_true, bnd_e, Int.reduceAdd, Int.reduceSub, Int.reduceMul, Int.reduceNeg, Int.reduceToNat, Bool.false_eq_true, eq_self, not_false_eq_true, not_true_eq_false, Int.toNat_natCast, lt0, lt1, lt2, lt3, lt4, lt5, lt6, lt7, lt8, lt9, lt10, lt11, lt12, lt13, lt14, lt15, lt16, lt17, lt18, lt19, lt20, lt21, lt22, lt23, lt24, lt25, lt26, lt27, lt28, lt29, lt30, lt31, lt32, lt40, lt41, lt43, lt48, lt55, lt57, lt59, lt60, lt62, lt63, lt64, lt70, lt72, lt81, lt97, lt99, lt100, lt122, lt162, lt180, lt235, lt255, lt298, lt299, lt325, lt335, lt400, lt837, lt999, lt1000, lt1001, lt1002, lt1003, lt1004, lt1005, lt1006, lt1007, lt1008, lt1100, lt1101, lt1102, lt1103, lt1104, lt1105, lt1135, lt1136, lt1172, lt2000, lt3278, lt3575, lt10000, lt12345, lt21450, lt32767, lt193050, lt1103515245, ltm162, ltm99, ltm81, ltm8, ltm1, iI_add, iI_sub, iI_mul, iI_neg, iI_divn, iI_lt_t, iI_lt_f, iI_le_t, iI_le_f, iI_eq_t, iI_eq_f, iI_lt, iI_le, iI_eq, iI_idx, iI_inb, gI_sI, gL_sL, gZ_sZ, gI_sL, gI_sZ, gL_sI, gL_sZ, gZ_sI, gZ_sL, Nat.reduceEqDiff, false_and, and_false, and_true, true_and, and_self, k_cn, k_wn, k_wn2]; done))
        | ((with_reducible refine ok_ite (fun hc => ?_) (fun hc => ?_)) <;> (try simp (disch := omega) only [↓lt_def, ↓reduceIte, ckB_true, bnd_e, Int.reduceAdd, Int.reduceSub, Int.reduceMul, Int.reduceNeg, Int.reduceToNat, Bool.false_eq_true, eq_self, not_false_eq_true, not_true_eq_false, Int.toNat_natCast, lt0, lt1, lt2, lt3, lt4, lt5, lt6, lt7, lt8, lt9, lt10, lt11, lt12, lt13, lt14, lt15, lt16, lt17, lt18, lt19, lt20, lt21, lt22, lt23, lt24, lt25, lt26, lt27, lt28, lt29, lt30, lt31, lt32, lt40, lt41, lt43, lt48, lt55, lt57, lt59, lt60, lt62, lt63, lt64, lt70, lt72, lt81, lt97, lt99, lt100, lt122, lt162, lt180, lt235, lt255, lt298, lt299, lt325, lt335, lt400, lt837, lt999, lt1000, lt1001, lt1002, lt1003, lt1004, lt1005, lt1006, lt1007, lt1008, lt1100, lt1101, lt1102, lt1103, lt1104, lt1105, lt1135, lt1136, lt1172, lt2000, lt3278, lt3575, lt10000, lt12345, lt21450, lt32767, lt193050, lt1103515245, ltm162, ltm99, ltm81, ltm8, ltm1, iI_add, iI_sub, iI_mul, iI_neg, iI_divn, iI_lt_t, iI_lt_f, iI_le_t, iI_le_f, iI_eq_t, iI_eq_f, iI_lt, iI_le, iI_eq, iI_idx, iI_inb, gI_sI, gL_sL, gZ_sZ, gI_sL, gI_sZ, gL_sI, gL_sZ, gZ_sI, gZ_sL, Nat.reduceEqDiff, false_and, and_false, and_true, true_and, and_self, k_cn, k_wn, k_wn2] at hc) <;> (try (exfalso; omega)))
        | (with_reducible refine ok_some ?_)
        | (with_reducible refine ok_xr ?_)
        | (with_reducible refine ok_xl ?_)
        | (unfold F_T_chased)
        | (unfold F_T_mustBeState)
        | (unfold F_T_mustBeBelow)
        | (unfold F_M_chased)
        | (unfold F_M_noPlayed)
        | (unfold F_M_size)
        | (unfold F_M_in)
        | (unfold F_M_throwsIf))
      exact ⟨⟨t4, rfl⟩, iv4.inv⟩
    · have hz : chs (fun b => V (opOf (gI m 79) law n mg 0 wd false) (n - p).toNat 3 0 (-b)) 82 = 81 := by
        rw [show (n - p).toNat = 0 by omega]
        rfl
      rw [hz] at e2'
      repeat' (first
        | (with_reducible refine ok_ck ?_ ?_; focus (simp (disch := omega) only [↓lt_def, ↓reduceIte, ckB_true, bnd_e, Int.reduceAdd, Int.reduceSub, Int.reduceMul, Int.reduceNeg, Int.reduceToNat, Bool.false_eq_true, eq_self, not_false_eq_true, not_true_eq_false, Int.toNat_natCast, lt0, lt1, lt2, lt3, lt4, lt5, lt6, lt7, lt8, lt9, lt10, lt11, lt12, lt13, lt14, lt15, lt16, lt17, lt18, lt19, lt20, lt21, lt22, lt23, lt24, lt25, lt26, lt27, lt28, lt29, lt30, lt31, lt32, lt40, lt41, lt43, lt48, lt55, lt57, lt59, lt60, lt62, lt63, lt64, lt70, lt72, lt81, lt97, lt99, lt100, lt122, lt162, lt180, lt235, lt255, lt298, lt299, lt325, lt335, lt400, lt837, lt999, lt1000, lt1001, lt1002, lt1003, lt1004, lt1005, lt1006, lt1007, lt1008, lt1100, lt1101, lt1102, lt1103, lt1104, lt1105, lt1135, lt1136, lt1172, lt2000, lt3278, lt3575, lt10000, lt12345, lt21450, lt32767, lt193050, lt1103515245, ltm162, ltm99, ltm81, ltm8, ltm1, iI_add, iI_sub, iI_mul, iI_neg, iI_divn, iI_lt_t, iI_lt_f, iI_le_t, iI_le_f, iI_eq_t, iI_eq_f, iI_lt, iI_le, iI_eq, iI_idx, iI_inb, gI_sI, gL_sL, gZ_sZ, gI_sL, gI_sZ, gL_sI, gL_sZ, gZ_sI, gZ_sL, Nat.reduceEqDiff, false_and, and_false, and_true, true_and, and_self, k_cn, k_wn, k_wn2]; done))
        | (with_reducible refine ok_bnd_e (e1') ?_)
        | (with_reducible refine ok_bnd_e (ek) ?_)
        | (with_reducible refine ok_e e2' ?_)
        | (with_reducible refine ok_bnd ?_)
        | (with_reducible refine ok_bndX ?_)
        | (with_reducible refine ok_lt ?_)
        | (with_reducible refine ok_t ?_ ?_; focus (simp (disch := omega) only [↓lt_def, ↓reduceIte, ckB_true, bnd_e, Int.reduceAdd, Int.reduceSub, Int.reduceMul, Int.reduceNeg, Int.reduceToNat, Bool.false_eq_true, eq_self, not_false_eq_true, not_true_eq_false, Int.toNat_natCast, lt0, lt1, lt2, lt3, lt4, lt5, lt6, lt7, lt8, lt9, lt10, lt11, lt12, lt13, lt14, lt15, lt16, lt17, lt18, lt19, lt20, lt21, lt22, lt23, lt24, lt25, lt26, lt27, lt28, lt29, lt30, lt31, lt32, lt40, lt41, lt43, lt48, lt55, lt57, lt59, lt60, lt62, lt63, lt64, lt70, lt72, lt81, lt97, lt99, lt100, lt122, lt162, lt180, lt235, lt255, lt298, lt299, lt325, lt335, lt400, lt837, lt999, lt1000, lt1001, lt1002, lt1003, lt1004, lt1005, lt1006, lt1007, lt1008, lt1100, lt1101, lt1102, lt1103, lt1104, lt1105, lt1135, lt1136, lt1172, lt2000, lt3278, lt3575, lt10000, lt12345, lt21450, lt32767, lt193050, lt1103515245, ltm162, ltm99, ltm81, ltm8, ltm1, iI_add, iI_sub, iI_mul, iI_neg, iI_divn, iI_lt_t, iI_lt_f, iI_le_t, iI_le_f, iI_eq_t, iI_eq_f, iI_lt, iI_le, iI_eq, iI_idx, iI_inb, gI_sI, gL_sL, gZ_sZ, gI_sL, gI_sZ, gL_sI, gL_sZ, gZ_sI, gZ_sL, Nat.reduceEqDiff, false_and, and_false, and_true, true_and, and_self, k_cn, k_wn, k_wn2]; done))
        | (with_reducible refine ok_f ?_ ?_; focus (simp (disch := omega) only [↓lt_def, ↓reduceIte, ckB_true, bnd_e, Int.reduceAdd, Int.reduceSub, Int.reduceMul, Int.reduceNeg, Int.reduceToNat, Bool.false_eq_true, eq_self, not_false_eq_true, not_true_eq_false, Int.toNat_natCast, lt0, lt1, lt2, lt3, lt4, lt5, lt6, lt7, lt8, lt9, lt10, lt11, lt12, lt13, lt14, lt15, lt16, lt17, lt18, lt19, lt20, lt21, lt22, lt23, lt24, lt25, lt26, lt27, lt28, lt29, lt30, lt31, lt32, lt40, lt41, lt43, lt48, lt55, lt57, lt59, lt60, lt62, lt63, lt64, lt70, lt72, lt81, lt97, lt99, lt100, lt122, lt162, lt180, lt235, lt255, lt298, lt299, lt325, lt335, lt400, lt837, lt999, lt1000, lt1001, lt1002, lt1003, lt1004, lt1005, lt1006, lt1007, lt1008, lt1100, lt1101, lt1102, lt1103, lt1104, lt1105, lt1135, lt1136, lt1172, lt2000, lt3278, lt3575, lt10000, lt12345, lt21450, lt32767, lt193050, lt1103515245, ltm162, ltm99, ltm81, ltm8, ltm1, iI_add, iI_sub, iI_mul, iI_neg, iI_divn, iI_lt_t, iI_lt_f, iI_le_t, iI_le_f, iI_eq_t, iI_eq_f, iI_lt, iI_le, iI_eq, iI_idx, iI_inb, gI_sI, gL_sL, gZ_sZ, gI_sL, gI_sZ, gL_sI, gL_sZ, gZ_sI, gZ_sL, Nat.reduceEqDiff, false_and, and_false, and_true, true_and, and_self, k_cn, k_wn, k_wn2]; done))
        | ((with_reducible refine ok_ite (fun hc => ?_) (fun hc => ?_)) <;> (try simp (disch := omega) only [↓lt_def, ↓reduceIte, ckB_true, bnd_e, Int.reduceAdd, Int.reduceSub, Int.reduceMul, Int.reduceNeg, Int.reduceToNat, Bool.false_eq_true, eq_self, not_false_eq_true, not_true_eq_false, Int.toNat_natCast, lt0, lt1, lt2, lt3, lt4, lt5, lt6, lt7, lt8, lt9, lt10, lt11, lt12, lt13, lt14, lt15, lt16, lt17, lt18, lt19, lt20, lt21, lt22, lt23, lt24, lt25, lt26, lt27, lt28, lt29, lt30, lt31, lt32, lt40, lt41, lt43, lt48, lt55, lt57, lt59, lt60, lt62, lt63, lt64, lt70, lt72, lt81, lt97, lt99, lt100, lt122, lt162, lt180, lt235, lt255, lt298, lt299, lt325, lt335, lt400, lt837, lt999, lt1000, lt1001, lt1002, lt1003, lt1004, lt1005, lt1006, lt1007, lt1008, lt1100, lt1101, lt1102, lt1103, lt1104, lt1105, lt1135, lt1136, lt1172, lt2000, lt3278, lt3575, lt10000, lt12345, lt21450, lt32767, lt193050, lt1103515245, ltm162, ltm99, ltm81, ltm8, ltm1, iI_add, iI_sub, iI_mul, iI_neg, iI_divn, iI_lt_t, iI_lt_f, iI_le_t, iI_le_f, iI_eq_t, iI_eq_f, iI_lt, iI_le, iI_eq, iI_idx, iI_inb, gI_sI, gL_sL, gZ_sZ, gI_sL, gI_sZ, gL_sI, gL_sZ, gZ_sI, gZ_sL, Nat.reduceEqDiff, false_and, and_false, and_true, true_and, and_self, k_cn, k_wn, k_wn2] at hc) <;> (try (exfalso; omega)))
        | (with_reducible refine ok_some ?_)
        | (with_reducible refine ok_xr ?_)
        | (with_reducible refine ok_xl ?_)
        | (unfold F_T_chased)
        | (unfold F_T_mustBeState)
        | (unfold F_T_mustBeBelow)
        | (unfold F_M_chased)
        | (unfold F_M_noPlayed)
        | (unfold F_M_size)
        | (unfold F_M_in)
        | (unfold F_M_throwsIf))
      all_goals exact ⟨⟨rfl, rfl⟩, iv2'.inv⟩
  · skip
    repeat' (first
      | (with_reducible refine ok_ck ?_ ?_; focus (simp (disch := omega) only [↓lt_def, ↓reduceIte, ckB_true, bnd_e, Int.reduceAdd, Int.reduceSub, Int.reduceMul, Int.reduceNeg, Int.reduceToNat, Bool.false_eq_true, eq_self, not_false_eq_true, not_true_eq_false, Int.toNat_natCast, lt0, lt1, lt2, lt3, lt4, lt5, lt6, lt7, lt8, lt9, lt10, lt11, lt12, lt13, lt14, lt15, lt16, lt17, lt18, lt19, lt20, lt21, lt22, lt23, lt24, lt25, lt26, lt27, lt28, lt29, lt30, lt31, lt32, lt40, lt41, lt43, lt48, lt55, lt57, lt59, lt60, lt62, lt63, lt64, lt70, lt72, lt81, lt97, lt99, lt100, lt122, lt162, lt180, lt235, lt255, lt298, lt299, lt325, lt335, lt400, lt837, lt999, lt1000, lt1001, lt1002, lt1003, lt1004, lt1005, lt1006, lt1007, lt1008, lt1100, lt1101, lt1102, lt1103, lt1104, lt1105, lt1135, lt1136, lt1172, lt2000, lt3278, lt3575, lt10000, lt12345, lt21450, lt32767, lt193050, lt1103515245, ltm162, ltm99, ltm81, ltm8, ltm1, iI_add, iI_sub, iI_mul, iI_neg, iI_divn, iI_lt_t, iI_lt_f, iI_le_t, iI_le_f, iI_eq_t, iI_eq_f, iI_lt, iI_le, iI_eq, iI_idx, iI_inb, gI_sI, gL_sL, gZ_sZ, gI_sL, gI_sZ, gL_sI, gL_sZ, gZ_sI, gZ_sL, Nat.reduceEqDiff, false_and, and_false, and_true, true_and, and_self, k_cn, k_wn]; done))
      | (with_reducible refine ok_bnd ?_)
      | (with_reducible refine ok_bndX ?_)
      | (with_reducible refine ok_lt ?_)
      | (with_reducible refine ok_t ?_ ?_; focus (simp (disch := omega) only [↓lt_def, ↓reduceIte, ckB_true, bnd_e, Int.reduceAdd, Int.reduceSub, Int.reduceMul, Int.reduceNeg, Int.reduceToNat, Bool.false_eq_true, eq_self, not_false_eq_true, not_true_eq_false, Int.toNat_natCast, lt0, lt1, lt2, lt3, lt4, lt5, lt6, lt7, lt8, lt9, lt10, lt11, lt12, lt13, lt14, lt15, lt16, lt17, lt18, lt19, lt20, lt21, lt22, lt23, lt24, lt25, lt26, lt27, lt28, lt29, lt30, lt31, lt32, lt40, lt41, lt43, lt48, lt55, lt57, lt59, lt60, lt62, lt63, lt64, lt70, lt72, lt81, lt97, lt99, lt100, lt122, lt162, lt180, lt235, lt255, lt298, lt299, lt325, lt335, lt400, lt837, lt999, lt1000, lt1001, lt1002, lt1003, lt1004, lt1005, lt1006, lt1007, lt1008, lt1100, lt1101, lt1102, lt1103, lt1104, lt1105, lt1135, lt1136, lt1172, lt2000, lt3278, lt3575, lt10000, lt12345, lt21450, lt32767, lt193050, lt1103515245, ltm162, ltm99, ltm81, ltm8, ltm1, iI_add, iI_sub, iI_mul, iI_neg, iI_divn, iI_lt_t, iI_lt_f, iI_le_t, iI_le_f, iI_eq_t, iI_eq_f, iI_lt, iI_le, iI_eq, iI_idx, iI_inb, gI_sI, gL_sL, gZ_sZ, gI_sL, gI_sZ, gL_sI, gL_sZ, gZ_sI, gZ_sL, Nat.reduceEqDiff, false_and, and_false, and_true, true_and, and_self, k_cn, k_wn]; done))
      | (with_reducible refine ok_f ?_ ?_; focus (simp (disch := omega) only [↓lt_def, ↓reduceIte, ckB_true, bnd_e, Int.reduceAdd, Int.reduceSub, Int.reduceMul, Int.reduceNeg, Int.reduceToNat, Bool.false_eq_true, eq_self, not_false_eq_true, not_true_eq_false, Int.toNat_natCast, lt0, lt1, lt2, lt3, lt4, lt5, lt6, lt7, lt8, lt9, lt10, lt11, lt12, lt13, lt14, lt15, lt16, lt17, lt18, lt19, lt20, lt21, lt22, lt23, lt24, lt25, lt26, lt27, lt28, lt29, lt30, lt31, lt32, lt40, lt41, lt43, lt48, lt55, lt57, lt59, lt60, lt62, lt63, lt64, lt70, lt72, lt81, lt97, lt99, lt100, lt122, lt162, lt180, lt235, lt255, lt298, lt299, lt325, lt335, lt400, lt837, lt999, lt1000, lt1001, lt1002, lt1003, lt1004, lt1005, lt1006, lt1007, lt1008, lt1100, lt1101, lt1102, lt1103, lt1104, lt1105, lt1135, lt1136, lt1172, lt2000, lt3278, lt3575, lt10000, lt12345, lt21450, lt32767, lt193050, lt1103515245, ltm162, ltm99, ltm81, ltm8, ltm1, iI_add, iI_sub, iI_mul, iI_neg, iI_divn, iI_lt_t, iI_lt_f, iI_le_t, iI_le_f, iI_eq_t, iI_eq_f, iI_lt, iI_le, iI_eq, iI_idx, iI_inb, gI_sI, gL_sL, gZ_sZ, gI_sL, gI_sZ, gL_sI, gL_sZ, gZ_sI, gZ_sL, Nat.reduceEqDiff, false_and, and_false, and_true, true_and, and_self, k_cn, k_wn]; done))
      | ((with_reducible refine ok_ite (fun hc => ?_) (fun hc => ?_)) <;> (try simp (disch := omega) only [↓lt_def, ↓reduceIte, ckB_true, bnd_e, Int.reduceAdd, Int.reduceSub, Int.reduceMul, Int.reduceNeg, Int.reduceToNat, Bool.false_eq_true, eq_self, not_false_eq_true, not_true_eq_false, Int.toNat_natCast, lt0, lt1, lt2, lt3, lt4, lt5, lt6, lt7, lt8, lt9, lt10, lt11, lt12, lt13, lt14, lt15, lt16, lt17, lt18, lt19, lt20, lt21, lt22, lt23, lt24, lt25, lt26, lt27, lt28, lt29, lt30, lt31, lt32, lt40, lt41, lt43, lt48, lt55, lt57, lt59, lt60, lt62, lt63, lt64, lt70, lt72, lt81, lt97, lt99, lt100, lt122, lt162, lt180, lt235, lt255, lt298, lt299, lt325, lt335, lt400, lt837, lt999, lt1000, lt1001, lt1002, lt1003, lt1004, lt1005, lt1006, lt1007, lt1008, lt1100, lt1101, lt1102, lt1103, lt1104, lt1105, lt1135, lt1136, lt1172, lt2000, lt3278, lt3575, lt10000, lt12345, lt21450, lt32767, lt193050, lt1103515245, ltm162, ltm99, ltm81, ltm8, ltm1, iI_add, iI_sub, iI_mul, iI_neg, iI_divn, iI_lt_t, iI_lt_f, iI_le_t, iI_le_f, iI_eq_t, iI_eq_f, iI_lt, iI_le, iI_eq, iI_idx, iI_inb, gI_sI, gL_sL, gZ_sZ, gI_sL, gI_sZ, gL_sI, gL_sZ, gZ_sI, gZ_sL, Nat.reduceEqDiff, false_and, and_false, and_true, true_and, and_self, k_cn, k_wn] at hc) <;> (try (exfalso; omega)))
      | (with_reducible refine ok_some ?_)
      | (with_reducible refine ok_xr ?_)
      | (with_reducible refine ok_xl ?_)
      | (unfold F_T_chased)
      | (unfold F_T_mustBeState)
      | (unfold F_T_mustBeBelow)
      | (unfold F_M_chased)
      | (unfold F_M_noPlayed)
      | (unfold F_M_size)
      | (unfold F_M_in)
      | (unfold F_M_throwsIf))
    all_goals exact ⟨ans_l (by decide) rfl, ((h.thr thr_ss).up (by omega)).inv⟩
/-- from which worth of a draw on the other choice isn't made -/
def lin (ch : Int → Bool) : Nat → Int → Int
  | 0, _ => -1
  | d + 1, w => if ch w = true then lin ch d (w + 1) else if w = 0 then -1 else w
theorem Tlin_loop {law : Option (List (Int × List Int))} {n mg wd tx bc : Int} {t : Mt} {p k l o : Int} {w0 : Nat → Int32} (p0 : 0 ≤ p) (pn : p ≤ n) (k0 : 0 ≤ k) (k5 : k ≤ 5) (l0 : -81 ≤ l) (l1 : l ≤ 81) (o0 : 0 ≤ o) (o1 : o ≤ 9) (kk : Int32 → Mem → Option ((Nat ⊕ Int32) × Mem)) (hk : kk = fun xq8 mq7 => if xq8 = 0 then some (.inr (-1 : Int32), mq7) else some (.inr xq8, mq7)) : ∀ (d : Nat) (w : Int) (B : Nat) (m : Mem) (nf : Nat), IV B law n mg wd tx bc t m → w0 = gI m 79 → B + d ≤ 1000000 → w = 101 - d → 0 ≤ w → d < nf → Ok (F_T_line_L27 (iI p) (iI l) (iI o) (iI k) kk nf (iI w) m) (fun r m' => r = .inr (iI (lin (fun w => cho (opOf w0 law n mg 0 w false) p k o l) d w)) ∧ IV (B + d) law n mg wd tx bc t m' ∧ w0 = gI m' 79) := by
  intro d
  induction d with
  | zero =>
    intro w B m nf h hw hB hd hw0 hnf
    obtain ⟨nf, rfl⟩ : ∃ x, nf = x + 1 := ⟨nf - 1, by omega⟩
    rw [F_T_line_L27]
    refine ok_t ?_ (ok_some ⟨rfl, h, hw⟩)
    rw [show (100 : Int32) = iI 100 from rfl, iI_lt (by omega) (by omega) (by omega) (by omega)]; omega
  | succ d ih =>
    intro w B m nf h hw hB hd hw0 hnf
    obtain ⟨nf, rfl⟩ : ∃ x, nf = x + 1 := ⟨nf - 1, by omega⟩
    rw [F_T_line_L27]
    refine ok_f ?_ ?_
    · rw [show (100 : Int32) = iI 100 from rfl, iI_lt (by omega) (by omega) (by omega) (by omega)]; omega
    obtain ⟨m1, mk, e1, hOB, hO, hI, f1⟩ := h.ready (by omega) (f := 0) (dw := w) false (by omega) (by omega) hw0 (by omega)
    rw [← hw] at hOB hO hI
    rw [lt0, bnd_some e1]
    refine ok_bnd (ok_of (TchoT_ok hOB hO (p := p) (k := k) (o := o) (l := l) p0 (by rw [opOf_n]; exact pn) k0 k5 o0 (by omega) (by omega) (by omega)) (fun b m2 hv => ?_))
    obtain ⟨rfl, h2⟩ := hv
    have iv2 := hI m2 h2
    have hw2 : w0 = gI m2 79 := hw.trans ((Fr_row h2.1.fr rfl rfl).trans (Fr_row f1 rfl rfl)).symm
    simp only [lin]
    by_cases hc : cho (opOf w0 law n mg 0 w false) p k o l = true
    · refine ok_t hc (ok_lt ?_)
      rw [if_pos hc, lt1, iI_add]
      refine ok_of (ih (w + 1) (B + 1) m2 nf iv2 hw2 (by omega) (by omega) (by omega) (by omega)) (fun r m' hv => ⟨hv.1, ?_, hv.2.2⟩)
      rw [show B + (d + 1) = B + 1 + d by omega]
      exact hv.2.1
    · refine ok_f hc ?_
      rw [if_neg hc, hk]
      have iv3 := iv2.up (B' := B + (d + 1)) (by omega)
      by_cases hz : w = 0
      · rw [if_pos hz]
        exact ok_t (by rw [hz]; rfl) (ok_some ⟨rfl, iv3, hw2⟩)
      · rw [if_neg hz]
        exact ok_f (by rw [lt0, iI_eq (by omega) (by omega) (by omega) (by omega)]; exact hz) (ok_some ⟨rfl, iv3, hw2⟩)
theorem abI_eq {l : Int} (l0 : -1000 ≤ l) (l1 : l ≤ 1000) : abI (iI l) = iI (if l < 0 then -l else l) := by
  unfold abI
  by_cases hl : l < 0
  · rw [if_pos hl, if_neg (by rw [lt0, iI_le (by omega) (by omega) (by omega) (by omega)]; omega), lt0, iI_sub, Int.zero_sub]
  · rw [if_neg hl, if_pos (by rw [lt0, iI_le (by omega) (by omega) (by omega) (by omega)]; omega)]
theorem Mlin_loop {B : Nat} {law : Option (List (Int × List Int))} {n mg wd tx bc : Int} {t : Mt} {p i l o : Int} {fo : Bool} {w0 : Nat → Int32} (p0 : 0 ≤ p) (pn : p < n) (i0 : 0 ≤ i) (i3 : i ≤ 3) (l0 : -81 ≤ l) (l1 : l ≤ 81) (o0 : 0 ≤ o) (o1 : o ≤ 9) (kk : Int32 → Mem → Option (Int32 × Mem)) (hk : kk = fun xq20 mq19 => if xq20 = 0 then some ((-1 : Int32), mq19) else some (xq20, mq19)) : ∀ (d : Nat) (w : Int) (m : Mem) (nf : Nat), IV B law n mg wd tx bc t m → w0 = gI m 79 → w = 101 - d → 0 ≤ w → d < nf → Ok (F_M_line_L69 (iI p) (iI i) fo (iI l) (iI o) kk nf (iI w) m) (fun r m' => r = iI (lin (fun w => cho (opOf w0 law n mg 0 w false) p (kdZ i fo) o l) d w) ∧ IV B law n mg wd tx bc t m' ∧ gI m' 78 0 = gI m 78 0) := by
  intro d
  obtain ⟨kk1, kk2, kk3, kk4, kk5⟩ := kdZ_eq (i := i) (fo := fo) i0 i3
  induction d with
  | zero =>
    intro w m nf h hw hd hw0 hnf
    obtain ⟨nf, rfl⟩ : ∃ x, nf = x + 1 := ⟨nf - 1, by omega⟩
    rw [F_M_line_L69]
    refine ok_t ?_ (ok_some ⟨rfl, h, rfl⟩)
    rw [show (100 : Int32) = iI 100 from rfl, iI_lt (by omega) (by omega) (by omega) (by omega)]; omega
  | succ d ih =>
    intro w m nf h hw hd hw0 hnf
    obtain ⟨nf, rfl⟩ : ∃ x, nf = x + 1 := ⟨nf - 1, by omega⟩
    have n9 := h.gr.n9
    rw [F_M_line_L69]
    refine ok_f ?_ (ok_lt ?_)
    · rw [show (100 : Int32) = iI 100 from rfl, iI_lt (by omega) (by omega) (by omega) (by omega)]; omega
    have ht : IV B law n mg wd tx bc t (sI m 78 21 (iI w)) := Mscr h (Fr_sI rfl Fr_rf (by simp))
    have hB := ht.MB (f := 0) (dw := w) (bl := false) (w := w0) (by omega) (by omega) hw0 (by omega) (by rw [gI_sI, if_pos ⟨rfl, rfl⟩]) h.bli (by rw [hw]; funext j; rw [gI_sI, if_neg (fun q => absurd q.1 (by decide))])
    obtain ⟨more, hmo, hla, -⟩ := layers_ok hB (from' := p) (lead := if l < 0 then -l else l) p0 (by rw [opOf_n]; omega) (by split <;> omega) (by split <;> omega) (by rw [opOf_n]; split <;> omega)
    rw [abI_eq (by omega) (by omega), lt0]
    obtain ⟨_, m2, e2, la2⟩ := hla
    have f2 := fr_M_layers _ _ _ _ _ _ e2
    rw [bnd_some e2]
    obtain ⟨_, m3, e3, lv3, f3⟩ := lays_ok hB la2.1 p0 (show p < 9 by omega)
    rw [bnd_some e3, bnd_some (MkindOf_eq i0 i3)]
    have la3 : LaSt law (opOf w0 law n mg 0 w false) 0 (sI (sI m 78 21 (iI w)) 78 20 (iI 0)) p p (if l < 0 then -l else l) more m3 := ⟨Fr_tr la2.1 f3 (by simp) (by simp), fun _ => lv3, fun q hq hqn j o l' a b c d e g => by rw [f3.gI (by simp) (by simp), f3.gI (by simp) (by simp)]; exact la2.2.2 q hq hqn j o l' a b c d e g⟩
    refine ok_bnd (ok_of (McoS_ok hB hmo la3 p0 (by rw [opOf_n]; exact pn) (j := jdZ i fo) (o := o) (l := l) kk2 kk3 o0 (by omega) (by split <;> omega) (by split <;> omega) (by split <;> omega)) (fun b m4 hv => ?_))
    obtain ⟨rfl, la4, f4⟩ := hv
    rw [kk1]
    have iv2 := Mscr ht (Fr_wk f2 (by simp) (by simp))
    have iv3 := Mscr iv2 (Fr_wk f3 (by simp) (by simp))
    have iv4 := Mscr iv3 (Fr_wk f4 (by simp) (by simp))
    have t4 : gI m4 78 0 = gI m 78 0 := by
      rw [f4.gI (by simp) (by simp), f3.gI (by simp) (by simp), f2.gI (by simp) (by simp), gI_sI, if_neg (fun q => absurd q.2 (by decide))]
    have hw4 : w0 = gI m4 79 := by
      rw [Fr_row f4 rfl rfl, Fr_row f3 rfl rfl, Fr_row f2 rfl rfl, hw]
      funext j
      rw [gI_sI, if_neg (fun q => absurd q.1 (by decide))]
    simp only [lin]
    by_cases hc : cho (opOf w0 law n mg 0 w false) p (kdZ i fo) o l = true
    · refine ok_t hc (ok_lt ?_)
      rw [if_pos hc, lt1, iI_add]
      exact ok_of (ih (w + 1) m4 nf iv4 hw4 (by omega) (by omega) (by omega)) (fun r m' hv => ⟨hv.1, hv.2.1, hv.2.2.trans t4⟩)
    · refine ok_f hc ?_
      rw [if_neg hc, hk]
      by_cases hz : w = 0
      · rw [if_pos hz]
        exact ok_t (by rw [hz]; rfl) (ok_some ⟨rfl, iv4, t4⟩)
      · rw [if_neg hz]
        exact ok_f (by rw [lt0, iI_eq (by omega) (by omega) (by omega) (by omega)]; exact hz) (ok_some ⟨rfl, iv4, t4⟩)
theorem line_op {B : Nat} {law : Option (List (Int × List Int))} {n mg wd tx bc : Int} {t : Mt} {m : Mem} (h : IV B law n mg wd tx bc t m) (hB6 : B ≤ 100000) (a d : Int32) (fo : Bool) (b c : Int32) : Both (B + 101) cd12 (F_T_line a d fo b c) (F_M_line a d fo b c) m := by
  obtain ⟨p, rfl, p1, p2⟩ := iI_ex a
  obtain ⟨i, rfl, i1, i2⟩ := iI_ex d
  obtain ⟨l, rfl, l1, l2⟩ := iI_ex b
  obtain ⟨o, rfl, o1, o2⟩ := iI_ex c
  have k_cn := h.gr.cn
  have k_wn := h.gr.wn
  have k_n1 := h.gr.n1
  have k_n9 := h.gr.n9
  unfold Both
  by_cases hr : ((0 ≤ p ∧ p ≤ n) ∧ (0 ≤ i ∧ i ≤ 3) ∧ (-81 ≤ l ∧ l ≤ 81) ∧ 0 ≤ o ∧ o ≤ 9) ∧ i ≠ 3
  · obtain ⟨⟨⟨hp0, hpn⟩, ⟨hi0, hi1⟩, ⟨hl0, hl1⟩, ho0, ho1⟩, hi3⟩ := hr
    obtain ⟨kk1, kk2, kk3, kk4, kk5⟩ := kdZ_eq (i := i) (fo := fo) hi0 hi1
    have ek : F_Od_kindOf (iI i) fo m = some (iI (kdZ i fo), m) := TkindOf_eq hi0 hi1
    obtain ⟨b2, m2, e2, rfl, iv2, hw2⟩ := Tlin_loop (p := p) (k := kdZ i fo) (l := l) (o := o) (w0 := gI m 79) hp0 hpn kk4 kk5 hl0 hl1 ho0 ho1 _ rfl 101 0 B m 1000000 h rfl (by omega) (by omega) (by omega) (by omega)
    have iv2' := iv2.thr (thr_s (v := 0))
    have k_wn2 := iv2.gr.wn
    have e2' : F_T_line_L27 (iI p) (iI l) (iI o) (iI (kdZ i fo)) (fun xq8 mq7 => if xq8 = 0 then some (.inr (-1 : Int32), mq7) else some (.inr xq8, mq7)) 1000000 (0 : Int32) m = some (.inr (iI (lin (fun w => cho (opOf (gI m 79) law n mg 0 w false) p (kdZ i fo) o l) 101 0)), m2) := e2
    by_cases hg : p < n
    · obtain ⟨b4, m4, e4, rfl, iv4, t4⟩ := Mlin_loop (p := p) (i := i) (l := l) (o := o) (fo := fo) (w0 := gI m 79) hp0 hg hi0 hi1 hl0 hl1 ho0 ho1 _ rfl 101 0 (sI m2 78 0 0) 1000000 iv2' (by rw [hw2]; rfl) (by omega) (by omega) (by omega)
      have e4' : F_M_line_L69 (iI p) (iI i) fo (iI l) (iI o) (fun xq20 mq19 => if xq20 = 0 then some ((-1 : Int32), mq19) else some (xq20, mq19)) 1000000 (0 : Int32) (sI m2 78 0 0) = some (iI (lin (fun w => cho (opOf (gI m 79) law n mg 0 w false) p (kdZ i fo) o l) 101 0), m4) := e4
      repeat' (first
        | (with_reducible refine ok_ck ?_ ?_; focus (simp (disch := omega) only [↓lt_def, ↓reduceIte, ckB_true, bnd_e, Int.reduceAdd, Int.reduceSub, Int.reduceMul, Int.reduceNeg, Int.reduceToNat, Bool.false_eq_true, eq_self, not_false_eq_true, not_true_eq_false, Int.toNat_natCast, lt0, lt1, lt2, lt3, lt4, lt5, lt6, lt7, lt8, lt9, lt10, lt11, lt12, lt13, lt14, lt15, lt16, lt17, lt18, lt19, lt20, lt21, lt22, lt23, lt24, lt25, lt26, lt27, lt28, lt29, lt30, lt31, lt32, lt40, lt41, lt43, lt48, lt55, lt57, lt59, lt60, lt62, lt63, lt64, lt70, lt72, lt81, lt97, lt99, lt100, lt122, lt162, lt180, lt235, lt255, lt298, lt299, lt325, lt335, lt400, lt837, lt999, lt1000, lt1001, lt1002, lt1003, lt1004, lt1005, lt1006, lt1007, lt1008, lt1100, lt1101, lt1102, lt1103, lt1104, lt1105, lt1135, lt1136, lt1172, lt2000, lt3278, lt3575, lt10000, lt12345, lt21450, lt32767, lt193050, lt1103515245, ltm162, ltm99, ltm81, ltm8, ltm1, iI_add, iI_sub, iI_mul, iI_neg, iI_divn, iI_lt_t, iI_lt_f, iI_le_t, iI_le_f, iI_eq_t, iI_eq_f, iI_lt, iI_le, iI_eq, iI_idx, iI_inb, gI_sI, gL_sL, gZ_sZ, gI_sL, gI_sZ, gL_sI, gL_sZ, gZ_sI, gZ_sL, Nat.reduceEqDiff, false_and, and_false, and_true, true_and, and_self, k_cn, k_wn, k_wn2]; done))
        | (with_reducible refine ok_bnd_e (ek) ?_)
        | (with_reducible refine ok_e e2' ?_)
        | (with_reducible refine ok_e e4' ?_)
        | (with_reducible refine ok_bnd ?_)
        | (with_reducible refine ok_bndX ?_)
        | (with_reducible refine ok_lt ?_)
        | (with_reducible refine ok_t ?_ ?_; focus (simp (disch := omega) only [↓lt_def, ↓reduceIte, ckB_true, bnd_e, Int.reduceAdd, Int.reduceSub, Int.reduceMul, Int.reduceNeg, Int.reduceToNat, Bool.false_eq_true, eq_self, not_false_eq_true, not_true_eq_false, Int.toNat_natCast, lt0, lt1, lt2, lt3, lt4, lt5, lt6, lt7, lt8, lt9, lt10, lt11, lt12, lt13, lt14, lt15, lt16, lt17, lt18, lt19, lt20, lt21, lt22, lt23, lt24, lt25, lt26, lt27, lt28, lt29, lt30, lt31, lt32, lt40, lt41, lt43, lt48, lt55, lt57, lt59, lt60, lt62, lt63, lt64, lt70, lt72, lt81, lt97, lt99, lt100, lt122, lt162, lt180, lt235, lt255, lt298, lt299, lt325, lt335, lt400, lt837, lt999, lt1000, lt1001, lt1002, lt1003, lt1004, lt1005, lt1006, lt1007, lt1008, lt1100, lt1101, lt1102, lt1103, lt1104, lt1105, lt1135, lt1136, lt1172, lt2000, lt3278, lt3575, lt10000, lt12345, lt21450, lt32767, lt193050, lt1103515245, ltm162, ltm99, ltm81, ltm8, ltm1, iI_add, iI_sub, iI_mul, iI_neg, iI_divn, iI_lt_t, iI_lt_f, iI_le_t, iI_le_f, iI_eq_t, iI_eq_f, iI_lt, iI_le, iI_eq, iI_idx, iI_inb, gI_sI, gL_sL, gZ_sZ, gI_sL, gI_sZ, gL_sI, gL_sZ, gZ_sI, gZ_sL, Nat.reduceEqDiff, false_and, and_false, and_true, true_and, and_self, k_cn, k_wn, k_wn2]; done))
        | (with_reducible refine ok_f ?_ ?_; focus (simp (disch := omega) only [↓lt_def, ↓reduceIte, ckB_true, bnd_e, Int.reduceAdd, Int.reduceSub, Int.reduceMul, Int.reduceNeg, Int.reduceToNat, Bool.false_eq_true, eq_self, not_false_eq_true, not_true_eq_false, Int.toNat_natCast, lt0, lt1, lt2, lt3, lt4, lt5, lt6, lt7, lt8, lt9, lt10, lt11, lt12, lt13, lt14, lt15, lt16, lt17, lt18, lt19, lt20, lt21, lt22, lt23, lt24, lt25, lt26, lt27, lt28, lt29, lt30, lt31, lt32, lt40, lt41, lt43, lt48, lt55, lt57, lt59, lt60, lt62, lt63, lt64, lt70, lt72, lt81, lt97, lt99, lt100, lt122, lt162, lt180, lt235, lt255, lt298, lt299, lt325, lt335, lt400, lt837, lt999, lt1000, lt1001, lt1002, lt1003, lt1004, lt1005, lt1006, lt1007, lt1008, lt1100, lt1101, lt1102, lt1103, lt1104, lt1105, lt1135, lt1136, lt1172, lt2000, lt3278, lt3575, lt10000, lt12345, lt21450, lt32767, lt193050, lt1103515245, ltm162, ltm99, ltm81, ltm8, ltm1, iI_add, iI_sub, iI_mul, iI_neg, iI_divn, iI_lt_t, iI_lt_f, iI_le_t, iI_le_f, iI_eq_t, iI_eq_f, iI_lt, iI_le, iI_eq, iI_idx, iI_inb, gI_sI, gL_sL, gZ_sZ, gI_sL, gI_sZ, gL_sI, gL_sZ, gZ_sI, gZ_sL, Nat.reduceEqDiff, false_and, and_false, and_true, true_and, and_self, k_cn, k_wn, k_wn2]; done))
        | ((with_reducible refine ok_ite (fun hc => ?_) (fun hc => ?_)) <;> (try simp (disch := omega) only [↓lt_def, ↓reduceIte, ckB_true, bnd_e, Int.reduceAdd, Int.reduceSub, Int.reduceMul, Int.reduceNeg, Int.reduceToNat, Bool.false_eq_true, eq_self, not_false_eq_true, not_true_eq_false, Int.toNat_natCast, lt0, lt1, lt2, lt3, lt4, lt5, lt6, lt7, lt8, lt9, lt10, lt11, lt12, lt13, lt14, lt15, lt16, lt17, lt18, lt19, lt20, lt21, lt22, lt23, lt24, lt25, lt26, lt27, lt28, lt29, lt30, lt31, lt32, lt40, lt41, lt43, lt48, lt55, lt57, lt59, lt60, lt62, lt63, lt64, lt70, lt72, lt81, lt97, lt99, lt100, lt122, lt162, lt180, lt235, lt255, lt298, lt299, lt325, lt335, lt400, lt837, lt999, lt1000, lt1001, lt1002, lt1003, lt1004, lt1005, lt1006, lt1007, lt1008, lt1100, lt1101, lt1102, lt1103, lt1104, lt1105, lt1135, lt1136, lt1172, lt2000, lt3278, lt3575, lt10000, lt12345, lt21450, lt32767, lt193050, lt1103515245, ltm162, ltm99, ltm81, ltm8, ltm1, iI_add, iI_sub, iI_mul, iI_neg, iI_divn, iI_lt_t, iI_lt_f, iI_le_t, iI_le_f, iI_eq_t, iI_eq_f, iI_lt, iI_le, iI_eq, iI_idx, iI_inb, gI_sI, gL_sL, gZ_sZ, gI_sL, gI_sZ, gL_sI, gL_sZ, gZ_sI, gZ_sL, Nat.reduceEqDiff, false_and, and_false, and_true, true_and, and_self, k_cn, k_wn, k_wn2] at hc) <;> (try (exfalso; omega)))
        | (with_reducible refine ok_some ?_)
        | (with_reducible refine ok_xr ?_)
        | (with_reducible refine ok_xl ?_)
        | (unfold F_T_line)
        | (unfold F_T_mustBeState)
        | (unfold F_T_mustBeBelow)
        | (unfold F_M_line)
        | (unfold F_M_noPlayed)
        | (unfold F_M_noInnings)
        | (unfold F_M_noState)
        | (unfold F_M_size)
        | (unfold F_M_in)
        | (unfold F_M_throwsIf))
      exact ⟨⟨t4, rfl⟩, iv4.inv⟩
    · have hz : lin (fun w => cho (opOf (gI m 79) law n mg 0 w false) p (kdZ i fo) o l) 101 0 = -1 := by
        show (if cho (opOf (gI m 79) law n mg 0 0 false) p (kdZ i fo) o l = true then _ else if (0 : Int) = 0 then (-1 : Int) else 0) = -1
        rw [cho_end (by rw [opOf_n]; exact hg), if_neg (by decide), if_pos rfl]
      rw [hz] at e2'
      repeat' (first
        | (with_reducible refine ok_ck ?_ ?_; focus (simp (disch := omega) only [↓lt_def, ↓reduceIte, ckB_true, bnd_e, Int.reduceAdd, Int.reduceSub, Int.reduceMul, Int.reduceNeg, Int.reduceToNat, Bool.false_eq_true, eq_self, not_false_eq_true, not_true_eq_false, Int.toNat_natCast, lt0, lt1, lt2, lt3, lt4, lt5, lt6, lt7, lt8, lt9, lt10, lt11, lt12, lt13, lt14, lt15, lt16, lt17, lt18, lt19, lt20, lt21, lt22, lt23, lt24, lt25, lt26, lt27, lt28, lt29, lt30, lt31, lt32, lt40, lt41, lt43, lt48, lt55, lt57, lt59, lt60, lt62, lt63, lt64, lt70, lt72, lt81, lt97, lt99, lt100, lt122, lt162, lt180, lt235, lt255, lt298, lt299, lt325, lt335, lt400, lt837, lt999, lt1000, lt1001, lt1002, lt1003, lt1004, lt1005, lt1006, lt1007, lt1008, lt1100, lt1101, lt1102, lt1103, lt1104, lt1105, lt1135, lt1136, lt1172, lt2000, lt3278, lt3575, lt10000, lt12345, lt21450, lt32767, lt193050, lt1103515245, ltm162, ltm99, ltm81, ltm8, ltm1, iI_add, iI_sub, iI_mul, iI_neg, iI_divn, iI_lt_t, iI_lt_f, iI_le_t, iI_le_f, iI_eq_t, iI_eq_f, iI_lt, iI_le, iI_eq, iI_idx, iI_inb, gI_sI, gL_sL, gZ_sZ, gI_sL, gI_sZ, gL_sI, gL_sZ, gZ_sI, gZ_sL, Nat.reduceEqDiff, false_and, and_false, and_true, true_and, and_self, k_cn, k_wn, k_wn2]; done))
        | (with_reducible refine ok_bnd_e (ek) ?_)
        | (with_reducible refine ok_e e2' ?_)
        | (with_reducible refine ok_bnd ?_)
        | (with_reducible refine ok_bndX ?_)
        | (with_reducible refine ok_lt ?_)
        | (with_reducible refine ok_t ?_ ?_; focus (simp (disch := omega) only [↓lt_def, ↓reduceIte, ckB_true, bnd_e, Int.reduceAdd, Int.reduceSub, Int.reduceMul, Int.reduceNeg, Int.reduceToNat, Bool.false_eq_true, eq_self, not_false_eq_true, not_true_eq_false, Int.toNat_natCast, lt0, lt1, lt2, lt3, lt4, lt5, lt6, lt7, lt8, lt9, lt10, lt11, lt12, lt13, lt14, lt15, lt16, lt17, lt18, lt19, lt20, lt21, lt22, lt23, lt24, lt25, lt26, lt27, lt28, lt29, lt30, lt31, lt32, lt40, lt41, lt43, lt48, lt55, lt57, lt59, lt60, lt62, lt63, lt64, lt70, lt72, lt81, lt97, lt99, lt100, lt122, lt162, lt180, lt235, lt255, lt298, lt299, lt325, lt335, lt400, lt837, lt999, lt1000, lt1001, lt1002, lt1003, lt1004, lt1005, lt1006, lt1007, lt1008, lt1100, lt1101, lt1102, lt1103, lt1104, lt1105, lt1135, lt1136, lt1172, lt2000, lt3278, lt3575, lt10000, lt12345, lt21450, lt32767, lt193050, lt1103515245, ltm162, ltm99, ltm81, ltm8, ltm1, iI_add, iI_sub, iI_mul, iI_neg, iI_divn, iI_lt_t, iI_lt_f, iI_le_t, iI_le_f, iI_eq_t, iI_eq_f, iI_lt, iI_le, iI_eq, iI_idx, iI_inb, gI_sI, gL_sL, gZ_sZ, gI_sL, gI_sZ, gL_sI, gL_sZ, gZ_sI, gZ_sL, Nat.reduceEqDiff, false_and, and_false, and_true, true_and, and_self, k_cn, k_wn, k_wn2]; done))
        | (with_reducible refine ok_f ?_ ?_; focus (simp (disch := omega) only [↓lt_def, ↓reduceIte, ckB_true, bnd_e, Int.reduceAdd, Int.reduceSub, Int.reduceMul, Int.reduceNeg, Int.reduceToNat, Bool.false_eq_true, eq_self, not_false_eq_true, not_true_eq_false, Int.toNat_natCast, lt0, lt1, lt2, lt3, lt4, lt5, lt6, lt7, lt8, lt9, lt10, lt11, lt12, lt13, lt14, lt15, lt16, lt17, lt18, lt19, lt20, lt21, lt22, lt23, lt24, lt25, lt26, lt27, lt28, lt29, lt30, lt31, lt32, lt40, lt41, lt43, lt48, lt55, lt57, lt59, lt60, lt62, lt63, lt64, lt70, lt72, lt81, lt97, lt99, lt100, lt122, lt162, lt180, lt235, lt255, lt298, lt299, lt325, lt335, lt400, lt837, lt999, lt1000, lt1001, lt1002, lt1003, lt1004, lt1005, lt1006, lt1007, lt1008, lt1100, lt1101, lt1102, lt1103, lt1104, lt1105, lt1135, lt1136, lt1172, lt2000, lt3278, lt3575, lt10000, lt12345, lt21450, lt32767, lt193050, lt1103515245, ltm162, ltm99, ltm81, ltm8, ltm1, iI_add, iI_sub, iI_mul, iI_neg, iI_divn, iI_lt_t, iI_lt_f, iI_le_t, iI_le_f, iI_eq_t, iI_eq_f, iI_lt, iI_le, iI_eq, iI_idx, iI_inb, gI_sI, gL_sL, gZ_sZ, gI_sL, gI_sZ, gL_sI, gL_sZ, gZ_sI, gZ_sL, Nat.reduceEqDiff, false_and, and_false, and_true, true_and, and_self, k_cn, k_wn, k_wn2]; done))
        | ((with_reducible refine ok_ite (fun hc => ?_) (fun hc => ?_)) <;> (try simp (disch := omega) only [↓lt_def, ↓reduceIte, ckB_true, bnd_e, Int.reduceAdd, Int.reduceSub, Int.reduceMul, Int.reduceNeg, Int.reduceToNat, Bool.false_eq_true, eq_self, not_false_eq_true, not_true_eq_false, Int.toNat_natCast, lt0, lt1, lt2, lt3, lt4, lt5, lt6, lt7, lt8, lt9, lt10, lt11, lt12, lt13, lt14, lt15, lt16, lt17, lt18, lt19, lt20, lt21, lt22, lt23, lt24, lt25, lt26, lt27, lt28, lt29, lt30, lt31, lt32, lt40, lt41, lt43, lt48, lt55, lt57, lt59, lt60, lt62, lt63, lt64, lt70, lt72, lt81, lt97, lt99, lt100, lt122, lt162, lt180, lt235, lt255, lt298, lt299, lt325, lt335, lt400, lt837, lt999, lt1000, lt1001, lt1002, lt1003, lt1004, lt1005, lt1006, lt1007, lt1008, lt1100, lt1101, lt1102, lt1103, lt1104, lt1105, lt1135, lt1136, lt1172, lt2000, lt3278, lt3575, lt10000, lt12345, lt21450, lt32767, lt193050, lt1103515245, ltm162, ltm99, ltm81, ltm8, ltm1, iI_add, iI_sub, iI_mul, iI_neg, iI_divn, iI_lt_t, iI_lt_f, iI_le_t, iI_le_f, iI_eq_t, iI_eq_f, iI_lt, iI_le, iI_eq, iI_idx, iI_inb, gI_sI, gL_sL, gZ_sZ, gI_sL, gI_sZ, gL_sI, gL_sZ, gZ_sI, gZ_sL, Nat.reduceEqDiff, false_and, and_false, and_true, true_and, and_self, k_cn, k_wn, k_wn2] at hc) <;> (try (exfalso; omega)))
        | (with_reducible refine ok_some ?_)
        | (with_reducible refine ok_xr ?_)
        | (with_reducible refine ok_xl ?_)
        | (unfold F_T_line)
        | (unfold F_T_mustBeState)
        | (unfold F_T_mustBeBelow)
        | (unfold F_M_line)
        | (unfold F_M_noPlayed)
        | (unfold F_M_noInnings)
        | (unfold F_M_noState)
        | (unfold F_M_size)
        | (unfold F_M_in)
        | (unfold F_M_throwsIf))
      all_goals exact ⟨⟨rfl, rfl⟩, iv2'.inv⟩
  · have iv1' := (h.thr (thr_s (v := 0))).up (B' := B + 101) (by omega)
    repeat' (first
      | (with_reducible refine ok_ck ?_ ?_; focus (simp (disch := omega) only [↓lt_def, ↓reduceIte, ckB_true, bnd_e, Int.reduceAdd, Int.reduceSub, Int.reduceMul, Int.reduceNeg, Int.reduceToNat, Bool.false_eq_true, eq_self, not_false_eq_true, not_true_eq_false, Int.toNat_natCast, lt0, lt1, lt2, lt3, lt4, lt5, lt6, lt7, lt8, lt9, lt10, lt11, lt12, lt13, lt14, lt15, lt16, lt17, lt18, lt19, lt20, lt21, lt22, lt23, lt24, lt25, lt26, lt27, lt28, lt29, lt30, lt31, lt32, lt40, lt41, lt43, lt48, lt55, lt57, lt59, lt60, lt62, lt63, lt64, lt70, lt72, lt81, lt97, lt99, lt100, lt122, lt162, lt180, lt235, lt255, lt298, lt299, lt325, lt335, lt400, lt837, lt999, lt1000, lt1001, lt1002, lt1003, lt1004, lt1005, lt1006, lt1007, lt1008, lt1100, lt1101, lt1102, lt1103, lt1104, lt1105, lt1135, lt1136, lt1172, lt2000, lt3278, lt3575, lt10000, lt12345, lt21450, lt32767, lt193050, lt1103515245, ltm162, ltm99, ltm81, ltm8, ltm1, iI_add, iI_sub, iI_mul, iI_neg, iI_divn, iI_lt_t, iI_lt_f, iI_le_t, iI_le_f, iI_eq_t, iI_eq_f, iI_lt, iI_le, iI_eq, iI_idx, iI_inb, gI_sI, gL_sL, gZ_sZ, gI_sL, gI_sZ, gL_sI, gL_sZ, gZ_sI, gZ_sL, Nat.reduceEqDiff, false_and, and_false, and_true, true_and, and_self, k_cn, k_wn]; done))
      | (with_reducible refine ok_bnd ?_)
      | (with_reducible refine ok_bndX ?_)
      | (with_reducible refine ok_lt ?_)
      | (with_reducible refine ok_t ?_ ?_; focus (simp (disch := omega) only [↓lt_def, ↓reduceIte, ckB_true, bnd_e, Int.reduceAdd, Int.reduceSub, Int.reduceMul, Int.reduceNeg, Int.reduceToNat, Bool.false_eq_true, eq_self, not_false_eq_true, not_true_eq_false, Int.toNat_natCast, lt0, lt1, lt2, lt3, lt4, lt5, lt6, lt7, lt8, lt9, lt10, lt11, lt12, lt13, lt14, lt15, lt16, lt17, lt18, lt19, lt20, lt21, lt22, lt23, lt24, lt25, lt26, lt27, lt28, lt29, lt30, lt31, lt32, lt40, lt41, lt43, lt48, lt55, lt57, lt59, lt60, lt62, lt63, lt64, lt70, lt72, lt81, lt97, lt99, lt100, lt122, lt162, lt180, lt235, lt255, lt298, lt299, lt325, lt335, lt400, lt837, lt999, lt1000, lt1001, lt1002, lt1003, lt1004, lt1005, lt1006, lt1007, lt1008, lt1100, lt1101, lt1102, lt1103, lt1104, lt1105, lt1135, lt1136, lt1172, lt2000, lt3278, lt3575, lt10000, lt12345, lt21450, lt32767, lt193050, lt1103515245, ltm162, ltm99, ltm81, ltm8, ltm1, iI_add, iI_sub, iI_mul, iI_neg, iI_divn, iI_lt_t, iI_lt_f, iI_le_t, iI_le_f, iI_eq_t, iI_eq_f, iI_lt, iI_le, iI_eq, iI_idx, iI_inb, gI_sI, gL_sL, gZ_sZ, gI_sL, gI_sZ, gL_sI, gL_sZ, gZ_sI, gZ_sL, Nat.reduceEqDiff, false_and, and_false, and_true, true_and, and_self, k_cn, k_wn]; done))
      | (with_reducible refine ok_f ?_ ?_; focus (simp (disch := omega) only [↓lt_def, ↓reduceIte, ckB_true, bnd_e, Int.reduceAdd, Int.reduceSub, Int.reduceMul, Int.reduceNeg, Int.reduceToNat, Bool.false_eq_true, eq_self, not_false_eq_true, not_true_eq_false, Int.toNat_natCast, lt0, lt1, lt2, lt3, lt4, lt5, lt6, lt7, lt8, lt9, lt10, lt11, lt12, lt13, lt14, lt15, lt16, lt17, lt18, lt19, lt20, lt21, lt22, lt23, lt24, lt25, lt26, lt27, lt28, lt29, lt30, lt31, lt32, lt40, lt41, lt43, lt48, lt55, lt57, lt59, lt60, lt62, lt63, lt64, lt70, lt72, lt81, lt97, lt99, lt100, lt122, lt162, lt180, lt235, lt255, lt298, lt299, lt325, lt335, lt400, lt837, lt999, lt1000, lt1001, lt1002, lt1003, lt1004, lt1005, lt1006, lt1007, lt1008, lt1100, lt1101, lt1102, lt1103, lt1104, lt1105, lt1135, lt1136, lt1172, lt2000, lt3278, lt3575, lt10000, lt12345, lt21450, lt32767, lt193050, lt1103515245, ltm162, ltm99, ltm81, ltm8, ltm1, iI_add, iI_sub, iI_mul, iI_neg, iI_divn, iI_lt_t, iI_lt_f, iI_le_t, iI_le_f, iI_eq_t, iI_eq_f, iI_lt, iI_le, iI_eq, iI_idx, iI_inb, gI_sI, gL_sL, gZ_sZ, gI_sL, gI_sZ, gL_sI, gL_sZ, gZ_sI, gZ_sL, Nat.reduceEqDiff, false_and, and_false, and_true, true_and, and_self, k_cn, k_wn]; done))
      | ((with_reducible refine ok_ite (fun hc => ?_) (fun hc => ?_)) <;> (try simp (disch := omega) only [↓lt_def, ↓reduceIte, ckB_true, bnd_e, Int.reduceAdd, Int.reduceSub, Int.reduceMul, Int.reduceNeg, Int.reduceToNat, Bool.false_eq_true, eq_self, not_false_eq_true, not_true_eq_false, Int.toNat_natCast, lt0, lt1, lt2, lt3, lt4, lt5, lt6, lt7, lt8, lt9, lt10, lt11, lt12, lt13, lt14, lt15, lt16, lt17, lt18, lt19, lt20, lt21, lt22, lt23, lt24, lt25, lt26, lt27, lt28, lt29, lt30, lt31, lt32, lt40, lt41, lt43, lt48, lt55, lt57, lt59, lt60, lt62, lt63, lt64, lt70, lt72, lt81, lt97, lt99, lt100, lt122, lt162, lt180, lt235, lt255, lt298, lt299, lt325, lt335, lt400, lt837, lt999, lt1000, lt1001, lt1002, lt1003, lt1004, lt1005, lt1006, lt1007, lt1008, lt1100, lt1101, lt1102, lt1103, lt1104, lt1105, lt1135, lt1136, lt1172, lt2000, lt3278, lt3575, lt10000, lt12345, lt21450, lt32767, lt193050, lt1103515245, ltm162, ltm99, ltm81, ltm8, ltm1, iI_add, iI_sub, iI_mul, iI_neg, iI_divn, iI_lt_t, iI_lt_f, iI_le_t, iI_le_f, iI_eq_t, iI_eq_f, iI_lt, iI_le, iI_eq, iI_idx, iI_inb, gI_sI, gL_sL, gZ_sZ, gI_sL, gI_sZ, gL_sI, gL_sZ, gZ_sI, gZ_sL, Nat.reduceEqDiff, false_and, and_false, and_true, true_and, and_self, k_cn, k_wn] at hc) <;> (try (exfalso; omega)))
      | (with_reducible refine ok_some ?_)
      | (with_reducible refine ok_xr ?_)
      | (with_reducible refine ok_xl ?_)
      | (unfold F_T_line)
      | (unfold F_T_mustBeState)
      | (unfold F_T_mustBeBelow)
      | (unfold F_M_line)
      | (unfold F_M_noPlayed)
      | (unfold F_M_noInnings)
      | (unfold F_M_noState)
      | (unfold F_M_size)
      | (unfold F_M_in)
      | (unfold F_M_throwsIf))
    all_goals first | exact ⟨ans_l (by decide) rfl, ((h.thr thr_ss).up (by omega)).inv⟩ | exact ⟨⟨rfl, rfl⟩, iv1'.inv⟩
end TOLDD
