section HEREB
theorem MB_of {law : Option (List (Int × List Int))} {n mg wd tx bc : Int} {m : Mem} (hg : GR m 3 4 5 6 7 8 9 12 13 79 law n mg wd tx bc) {f dw : Int} {bl : Bool} (f0 : 0 ≤ f) (f1 : f ≤ 1) (d0 : 0 ≤ dw) (d1 : dw ≤ 100) (hd : gI m 78 21 = iI dw) (hb : gZ m 78 22 = bl) {w : Nat → Int32} (hw : w = gI m 79) : MB law (opOf w law n mg f dw bl) mg tx bc f dw bl wd (sI m 78 20 (iI f)) := by
  subst hw
  refine MB.mk ⟨?_, ?_, f0, f1, d0, d1, ?_, ?_, ?_⟩
  · rw [opOf_n]
    exact GR_told hg (fun o ho j => by rw [gI_sI, if_neg (fun q => by have := q.1; omega)]) (fun j _ => by rw [gI_sI, if_neg (fun q => absurd q.1 (by decide))])
  · rw [opOf_n]; rfl
  · rw [gI_sI, if_pos ⟨rfl, rfl⟩]
  · rw [gI_sI, if_neg (fun q => absurd q.2 (by decide))]; exact hd
  · exact hb
theorem countsNow_ok {law : Option (List (Int × List Int))} {n mg wd tx bc : Int} {t : Mt} {m : Mem} (hg : GR m 3 4 5 6 7 8 9 12 13 79 law n mg wd tx bc) (hw : WM m 79 0 t) (mo : MtOk t n) (f0 : 0 ≤ t.fi) {bl : Bool} (hb : gZ m 78 22 = bl) {w : Nat → Int32} (hw79 : w = gI m 79) : Ok (F_M_countsNow m) (fun _ m' => GW m' (if 0 ≤ t.win then overV t (four (n - t.pl).toNat) else nowV (opOf w law n mg t.fi wd bl) t) ∧ Fr [85, 86, 87, 88] [(78, 20), (78, 21), (78, 23), (78, 24)] m m') := by
  suffices hh : Ok (F_M_countsNow m) (fun _ m' => GW m' (if 0 ≤ t.win then overV t (four (n - t.pl).toNat) else nowV (opOf w law n mg t.fi wd bl) t)) by
    obtain ⟨a, m', e1, e2⟩ := hh
    exact ⟨a, m', e1, e2, fr_M_countsNow _ _ _ e1⟩
  obtain ⟨w9, w10, w11, w12, w13, w14, w15, w16, w17, w18, wlg⟩ := hw
  simp only [Nat.zero_add] at w9 w10 w11 w12 w13 w14 w15 w16 w17 w18
  have k_fi1 := mo.fi1
  have k_in0 := mo.in0
  have k_in3 := mo.in3
  have k_fo := mo.fo
  have k_pl0 := mo.pl0
  have k_pl1 := mo.pl1
  have k_wi0 := mo.wi0
  have k_wi2 := mo.wi2
  have k_a0 := mo.a0
  have k_a1 := mo.a1
  have k_b0 := mo.b0
  have k_b1 := mo.b1
  have n9 := hg.n9
  have hbr := batZ_rng f0 k_fi1
  have hsp := spZ_rng mo
  have q : ∀ j, gI (sI m 78 21 (iI wd)) 79 j = gI m 79 j := fun j => by rw [gI_sI, if_neg (fun q => absurd q.1 (by decide))]
  unfold F_M_countsNow
  rw [hg.wdw]
  refine ok_lt ?_
  rw [bnd_some (Mover_eq ((q 18).trans w18) k_wi0 k_wi2)]
  by_cases hov : 0 ≤ t.win
  · rw [decide_eq_true hov, if_pos hov]
    refine ok_t rfl (ok_ltk (fun k40 hk40 => ?_))
    rw [q 18, w18]
    have hwn : ∀ m', gI m' 79 0 = gI m 79 0 → F_M_all (iI t.pl) m' = some (iI (four (n - t.pl).toNat), m') := fun m' e => Mall_eq (e.trans hg.wn) n9 k_pl0 k_pl1
    have go : ∀ x : Int, x = (if t.win = 0 then four (n - t.pl).toNat else 0) → Ok (k40 (iI x) (sI m 78 21 (iI wd))) (fun _ m' => GW m' (overV t (four (n - t.pl).toNat))) := by
      intro x hx
      rw [hk40]
      refine ok_lt (ok_ltk (fun k67 hk67 => ?_))
      have q2 : ∀ j, gI (sI (sI m 78 21 (iI wd)) 78 23 (iI x)) 79 j = gI m 79 j := fun j => by rw [gI_sI, if_neg (fun q => absurd q.1 (by decide)), q]
      rw [q2 18, w18]
      have go2 : ∀ y : Int, y = (if t.win = 1 then four (n - t.pl).toNat else 0) → Ok (k67 (iI y) (sI (sI m 78 21 (iI wd)) 78 23 (iI x))) (fun _ m' => GW m' (overV t (four (n - t.pl).toNat))) := by
        intro y hy
        rw [hk67]
        refine ok_lt (ok_some ⟨?_, ?_⟩)
        · rw [gI_sI, if_neg (fun q => absurd q.2 (by decide)), gI_sI, if_pos ⟨rfl, rfl⟩, hx]; rfl
        · rw [gI_sI, if_pos ⟨rfl, rfl⟩, hy]; rfl
      by_cases h1 : t.win = 1
      · refine ok_t (by rw [h1]; rfl) ?_
        unfold F_M_played
        rw [bnd_e, q2 17, w17, bnd_some (hwn _ (q2 0))]
        exact go2 _ (by rw [if_pos h1])
      · refine ok_f (by rw [lt1, iI_eq (by omega) (by omega) (by omega) (by omega)]; exact h1) ?_
        exact go2 0 (by rw [if_neg h1])
    by_cases h0 : t.win = 0
    · refine ok_t (by rw [h0]; rfl) ?_
      unfold F_M_played
      rw [bnd_e, q 17, w17, bnd_some (hwn _ (q 0))]
      exact go _ (by rw [if_pos h0])
    · refine ok_f (by rw [lt0, iI_eq (by omega) (by omega) (by omega) (by omega)]; exact h0) ?_
      exact go 0 (by rw [if_neg h0])
  · rw [decide_eq_false hov, if_neg hov]
    have hpn := mo.pn f0 (by omega)
    have hld : -81 ≤ leadZ t (batZ t) ∧ leadZ t (batZ t) ≤ 81 ∧ leadZ t (batZ t) ≤ 9 * t.pl ∧ -(9 * t.pl) ≤ leadZ t (batZ t) := by unfold leadZ; split <;> omega
    refine ok_f (by decide) ?_
    rw [bnd_some (Mbatter_eq (t := t) ((q 10).trans w10) ((q 11).trans w11) ((q 12).trans w12) k_in0 k_in3), bnd_some (Mlead_eq (t := t) ((q 15).trans w15) ((q 16).trans w16) hbr.1 hbr.2)]
    unfold F_M_firstSide F_M_played
    rw [bnd_e, bnd_e, q 10, w10, q 17, w17, abI_eq (by omega) (by omega)]
    have hgs : GR (sI m 78 21 (iI wd)) 3 4 5 6 7 8 9 12 13 79 law n mg wd tx bc := GR_told hg (fun o ho j => by rw [gI_sI, if_neg (fun q => by have := q.1; omega)]) (fun j _ => q j)
    have hB := MB_of hgs (f := t.fi) (dw := wd) (bl := bl) (w := w) f0 k_fi1 hg.dw0 hg.dw9 (by rw [gI_sI, if_pos ⟨rfl, rfl⟩]) hb (by rw [hw79]; funext j; exact (q j).symm)
    obtain ⟨more, hmo, hla, -⟩ := layers_ok hB (from' := t.pl) (lead := if leadZ t (batZ t) < 0 then -leadZ t (batZ t) else leadZ t (batZ t)) k_pl0 (by rw [opOf_n]; exact k_pl1) (by split <;> omega) (by split <;> omega) (by rw [opOf_n]; split <;> omega)
    refine ok_bnd (ok_of hla (fun _ m2 la => ?_))
    have q2 : ∀ j, gI m2 79 j = gI m 79 j := fun j => (la.1.I (by simp) (by simp)).trans (by rw [gI_sI, if_neg (fun q => absurd q.1 (by decide)), q])
    rw [bnd_e, q2 17, w17, bnd_some (kindNow_eq (t := t) ((q2 11).trans w11) ((q2 12).trans w12) k_in0 k_in3), bnd_some (outNow_eq (t := t) ((q2 13).trans w13) ((q2 14).trans w14))]
    obtain ⟨kk1, kk2, kk3, kk4, kk5⟩ := kdZ_eq (i := t.inn) (fo := t.fol) k_in0 k_in3
    have hcell := la.2.2 t.pl (Or.inl rfl) (by rw [opOf_n]; exact hpn) (jdZ t.inn t.fol) (spZ t) (leadZ t (batZ t)) kk2 kk3 hsp.1 hsp.2 (by rw [Int.sub_self, Int.mul_zero]; split <;> omega) (by rw [Int.sub_self, Int.mul_zero]; split <;> omega)
    rw [kk1] at hcell
    refine ok_bnd (ok_of (takes_ok (p := t.pl) (j := jdZ t.inn t.fol) (o := spZ t) (l := leadZ t (batZ t)) k_pl0 (by omega) kk2 kk3 hsp.1 hsp.2 (by omega) (by omega) hcell.1 hcell.2) (fun _ m3 hv => ok_some hv.1))
def cdH : Nat → Int := fun e => if e = 0 then 1 else if e = 4 then 2 else 0
theorem here_op {B : Nat} {law : Option (List (Int × List Int))} {n mg wd tx bc : Int} {t : Mt} {m : Mem} (h : IV B law n mg wd tx bc t m) (hB6 : B ≤ 1000000) (a : Int32) : BothL (B + 1) cdH (F_T_here a) (F_M_here a) m := by
  obtain ⟨z, rfl, z1, z2⟩ := iI_ex a
  obtain ⟨c0, c1, c2, c3, c4, c5, c6, c7, c8, c9, clg⟩ := h.cm
  obtain ⟨w9, w10, w11, w12, w13, w14, w15, w16, w17, w18, wlg⟩ := h.wm
  simp only [Nat.zero_add] at w9 w10 w11 w12 w13 w14 w15 w16 w17 w18 wlg
  have k_fi0 := h.mo.fi0
  have k_fi1 := h.mo.fi1
  have k_in0 := h.mo.in0
  have k_in3 := h.mo.in3
  have k_ou0 := h.mo.ou0
  have k_ou1 := h.mo.ou1
  have k_pl0 := h.mo.pl0
  have k_pl1 := h.mo.pl1
  have k_wi0 := h.mo.wi0
  have k_wi2 := h.mo.wi2
  have k_a0 := h.mo.a0
  have k_a1 := h.mo.a1
  have k_b0 := h.mo.b0
  have k_b1 := h.mo.b1
  have k_fo := h.mo.fo
  have k_no := h.mo.no
  have k_on := h.mo.on
  have k_pn := h.mo.pn
  have k_fre := h.mo.fre
  have k_n1 := h.gr.n1
  have k_n9 := h.gr.n9
  have k_cn := h.gr.cn
  have k_wn := h.gr.wn
  have k_cmg := h.gr.cmg
  have k_wmg := h.gr.wmg
  have k_mg0 := h.gr.mg0
  have k_mg9 := h.gr.mg9
  unfold BothL
  by_cases hr : 0 ≤ t.fi ∧ 0 ≤ z ∧ z ≤ 3
  · obtain ⟨f0, z0, z3⟩ := hr
    obtain ⟨_, m1, e1, rfl, iv1, hw1⟩ := Tfrom_ok h hB6 false z0 z3 f0
    have iv1' := iv1.thr (thr_s (v := 0))
    obtain ⟨_, m2, e2, g2, f2⟩ := countsNow_ok iv1'.gr iv1'.wm iv1'.mo f0 (bl := false) iv1'.bli (w := gI m 79) (by rw [← hw1]; rfl)
    have iv2 := Mscr iv1' (Fr_wk f2 (by simp) (by simp))
    have t2 : gI m2 78 0 = iI 0 := by rw [f2.gI (by simp) (by simp)]; rfl
    have hbr := batZ_rng f0 k_fi1
    obtain ⟨v9, v10, v11, v12, v13, v14, v15, v16, v17, v18, vlg⟩ := iv2.wm
    simp only [Nat.zero_add] at v9 v10 v11 v12 v13 v14 v15 v16 v17 v18
    have u10 : gI m1 79 10 = iI t.fi := iv1.wm.2.1
    have x3 := Mover_eq (t := t) (m := m2) v18 k_wi0 k_wi2
    have x4 := Mbatter_eq (t := t) (m := m2) v10 v11 v12 k_in0 k_in3
    have ha0 := four_pos (n - t.pl).toNat
    by_cases hov : 0 ≤ t.win
    · rw [decide_eq_true hov] at x3
      rw [if_pos hov] at g2
      have e7 := MwaysOf_eq (z := z) (s := 0) iv2.gr.wn k_n9 k_pl0 k_pl1 g2 (by unfold overV; refine ⟨?_, ?_, ?_⟩ <;> dsimp only <;> (repeat' split) <;> omega) z0 z3 (by omega) (by omega)
      rw [if_pos rfl, show overV t (four (n - t.pl).toNat) = hereV (opOf (gI m 79) law n mg t.fi wd false) t by unfold hereV; rw [if_pos hov, opOf_n]] at e7
      have e7' : F_M_waysOf (iI z) (gI m2 79 17) (0 : Int32) m2 = some (iL (askV (four (n - t.pl).toNat) (hereV (opOf (gI m 79) law n mg t.fi wd false) t) z), m2) := by rw [v17]; exact e7
      repeat' (first
        | (with_reducible refine ok_ck ?_ ?_; focus (simp (disch := omega) only [↓lt_def, ↓reduceIte, ckB_true, bnd_e, Int.reduceAdd, Int.reduceSub, Int.reduceMul, Int.reduceNeg, Int.reduceToNat, Bool.false_eq_true, eq_self, not_false_eq_true, not_true_eq_false, Int.toNat_natCast, lt0, lt1, lt2, lt3, lt4, lt5, lt6, lt7, lt8, lt9, lt10, lt11, lt12, lt13, lt14, lt15, lt16, lt17, lt18, lt19, lt20, lt21, lt22, lt23, lt24, lt25, lt26, lt27, lt28, lt29, lt30, lt31, lt32, lt40, lt41, lt43, lt48, lt55, lt57, lt59, lt60, lt62, lt63, lt64, lt70, lt72, lt81, lt97, lt99, lt100, lt122, lt162, lt180, lt235, lt255, lt298, lt299, lt325, lt335, lt400, lt837, lt999, lt1000, lt1001, lt1002, lt1003, lt1004, lt1005, lt1006, lt1007, lt1008, lt1100, lt1101, lt1102, lt1103, lt1104, lt1105, lt1135, lt1136, lt1172, lt2000, lt3278, lt3575, lt10000, lt12345, lt21450, lt32767, lt193050, lt1103515245, ltm162, ltm99, ltm81, ltm8, ltm1, iI_add, iI_sub, iI_mul, iI_neg, iI_divn, iI_lt_t, iI_lt_f, iI_le_t, iI_le_f, iI_eq_t, iI_eq_f, iI_lt, iI_le, iI_eq, iI_idx, iI_inb, gI_sI, gL_sL, gZ_sZ, gI_sL, gI_sZ, gL_sI, gL_sZ, gZ_sI, gZ_sL, Nat.reduceEqDiff, false_and, and_false, and_true, true_and, and_self, u10]; done))
        | (with_reducible refine ok_bnd_e (e2) ?_)
        | (with_reducible refine ok_bnd_e (x3) ?_)
        | (with_reducible refine ok_bnd_e (e7') ?_)
        | (with_reducible refine ok_bndX (ok_e e1 ?_))
        | (with_reducible refine ok_bnd ?_)
        | (with_reducible refine ok_bndX ?_)
        | (with_reducible refine ok_lt ?_)
        | (with_reducible refine ok_t ?_ ?_; focus (simp (disch := omega) only [↓lt_def, ↓reduceIte, ckB_true, bnd_e, Int.reduceAdd, Int.reduceSub, Int.reduceMul, Int.reduceNeg, Int.reduceToNat, Bool.false_eq_true, eq_self, not_false_eq_true, not_true_eq_false, Int.toNat_natCast, lt0, lt1, lt2, lt3, lt4, lt5, lt6, lt7, lt8, lt9, lt10, lt11, lt12, lt13, lt14, lt15, lt16, lt17, lt18, lt19, lt20, lt21, lt22, lt23, lt24, lt25, lt26, lt27, lt28, lt29, lt30, lt31, lt32, lt40, lt41, lt43, lt48, lt55, lt57, lt59, lt60, lt62, lt63, lt64, lt70, lt72, lt81, lt97, lt99, lt100, lt122, lt162, lt180, lt235, lt255, lt298, lt299, lt325, lt335, lt400, lt837, lt999, lt1000, lt1001, lt1002, lt1003, lt1004, lt1005, lt1006, lt1007, lt1008, lt1100, lt1101, lt1102, lt1103, lt1104, lt1105, lt1135, lt1136, lt1172, lt2000, lt3278, lt3575, lt10000, lt12345, lt21450, lt32767, lt193050, lt1103515245, ltm162, ltm99, ltm81, ltm8, ltm1, iI_add, iI_sub, iI_mul, iI_neg, iI_divn, iI_lt_t, iI_lt_f, iI_le_t, iI_le_f, iI_eq_t, iI_eq_f, iI_lt, iI_le, iI_eq, iI_idx, iI_inb, gI_sI, gL_sL, gZ_sZ, gI_sL, gI_sZ, gL_sI, gL_sZ, gZ_sI, gZ_sL, Nat.reduceEqDiff, false_and, and_false, and_true, true_and, and_self, u10]; done))
        | (with_reducible refine ok_f ?_ ?_; focus (simp (disch := omega) only [↓lt_def, ↓reduceIte, ckB_true, bnd_e, Int.reduceAdd, Int.reduceSub, Int.reduceMul, Int.reduceNeg, Int.reduceToNat, Bool.false_eq_true, eq_self, not_false_eq_true, not_true_eq_false, Int.toNat_natCast, lt0, lt1, lt2, lt3, lt4, lt5, lt6, lt7, lt8, lt9, lt10, lt11, lt12, lt13, lt14, lt15, lt16, lt17, lt18, lt19, lt20, lt21, lt22, lt23, lt24, lt25, lt26, lt27, lt28, lt29, lt30, lt31, lt32, lt40, lt41, lt43, lt48, lt55, lt57, lt59, lt60, lt62, lt63, lt64, lt70, lt72, lt81, lt97, lt99, lt100, lt122, lt162, lt180, lt235, lt255, lt298, lt299, lt325, lt335, lt400, lt837, lt999, lt1000, lt1001, lt1002, lt1003, lt1004, lt1005, lt1006, lt1007, lt1008, lt1100, lt1101, lt1102, lt1103, lt1104, lt1105, lt1135, lt1136, lt1172, lt2000, lt3278, lt3575, lt10000, lt12345, lt21450, lt32767, lt193050, lt1103515245, ltm162, ltm99, ltm81, ltm8, ltm1, iI_add, iI_sub, iI_mul, iI_neg, iI_divn, iI_lt_t, iI_lt_f, iI_le_t, iI_le_f, iI_eq_t, iI_eq_f, iI_lt, iI_le, iI_eq, iI_idx, iI_inb, gI_sI, gL_sL, gZ_sZ, gI_sL, gI_sZ, gL_sI, gL_sZ, gZ_sI, gZ_sL, Nat.reduceEqDiff, false_and, and_false, and_true, true_and, and_self, u10]; done))
        | ((with_reducible refine ok_ite (fun hc => ?_) (fun hc => ?_)) <;> (try simp (disch := omega) only [↓lt_def, ↓reduceIte, ckB_true, bnd_e, Int.reduceAdd, Int.reduceSub, Int.reduceMul, Int.reduceNeg, Int.reduceToNat, Bool.false_eq_true, eq_self, not_false_eq_true, not_true_eq_false, Int.toNat_natCast, lt0, lt1, lt2, lt3, lt4, lt5, lt6, lt7, lt8, lt9, lt10, lt11, lt12, lt13, lt14, lt15, lt16, lt17, lt18, lt19, lt20, lt21, lt22, lt23, lt24, lt25, lt26, lt27, lt28, lt29, lt30, lt31, lt32, lt40, lt41, lt43, lt48, lt55, lt57, lt59, lt60, lt62, lt63, lt64, lt70, lt72, lt81, lt97, lt99, lt100, lt122, lt162, lt180, lt235, lt255, lt298, lt299, lt325, lt335, lt400, lt837, lt999, lt1000, lt1001, lt1002, lt1003, lt1004, lt1005, lt1006, lt1007, lt1008, lt1100, lt1101, lt1102, lt1103, lt1104, lt1105, lt1135, lt1136, lt1172, lt2000, lt3278, lt3575, lt10000, lt12345, lt21450, lt32767, lt193050, lt1103515245, ltm162, ltm99, ltm81, ltm8, ltm1, iI_add, iI_sub, iI_mul, iI_neg, iI_divn, iI_lt_t, iI_lt_f, iI_le_t, iI_le_f, iI_eq_t, iI_eq_f, iI_lt, iI_le, iI_eq, iI_idx, iI_inb, gI_sI, gL_sL, gZ_sZ, gI_sL, gI_sZ, gL_sI, gL_sZ, gZ_sI, gZ_sL, Nat.reduceEqDiff, false_and, and_false, and_true, true_and, and_self, u10] at hc) <;> (try (exfalso; omega)))
        | (with_reducible refine ok_some ?_)
        | (with_reducible refine ok_xr ?_)
        | (with_reducible refine ok_xl ?_)
        | (unfold F_T_here)
        | (unfold F_M_here)
        | (unfold F_M_firstSide)
        | (unfold F_M_played)
        | (unfold F_M_in)
        | (unfold F_M_throwsIf))
      exact ⟨⟨t2, rfl⟩, iv2.inv⟩
    · rw [decide_eq_false hov] at x3
      rw [if_neg hov] at g2
      have e7 := MwaysOf_eq (z := z) (s := batZ t) iv2.gr.wn k_n9 k_pl0 k_pl1 g2 (by unfold nowV; rw [opOf_n]; exact V_ok _ _ _ _) z0 z3 hbr.1 hbr.2
      rw [show (if batZ t = 0 then nowV (opOf (gI m 79) law n mg t.fi wd false) t else ((nowV (opOf (gI m 79) law n mg t.fi wd false) t).2, (nowV (opOf (gI m 79) law n mg t.fi wd false) t).1)) = hereV (opOf (gI m 79) law n mg t.fi wd false) t by unfold hereV sideV; rw [if_neg hov]] at e7
      have e7' : F_M_waysOf (iI z) (gI m2 79 17) (iI (batZ t)) m2 = some (iL (askV (four (n - t.pl).toNat) (hereV (opOf (gI m 79) law n mg t.fi wd false) t) z), m2) := by rw [v17]; exact e7
      repeat' (first
        | (with_reducible refine ok_ck ?_ ?_; focus (simp (disch := omega) only [↓lt_def, ↓reduceIte, ckB_true, bnd_e, Int.reduceAdd, Int.reduceSub, Int.reduceMul, Int.reduceNeg, Int.reduceToNat, Bool.false_eq_true, eq_self, not_false_eq_true, not_true_eq_false, Int.toNat_natCast, lt0, lt1, lt2, lt3, lt4, lt5, lt6, lt7, lt8, lt9, lt10, lt11, lt12, lt13, lt14, lt15, lt16, lt17, lt18, lt19, lt20, lt21, lt22, lt23, lt24, lt25, lt26, lt27, lt28, lt29, lt30, lt31, lt32, lt40, lt41, lt43, lt48, lt55, lt57, lt59, lt60, lt62, lt63, lt64, lt70, lt72, lt81, lt97, lt99, lt100, lt122, lt162, lt180, lt235, lt255, lt298, lt299, lt325, lt335, lt400, lt837, lt999, lt1000, lt1001, lt1002, lt1003, lt1004, lt1005, lt1006, lt1007, lt1008, lt1100, lt1101, lt1102, lt1103, lt1104, lt1105, lt1135, lt1136, lt1172, lt2000, lt3278, lt3575, lt10000, lt12345, lt21450, lt32767, lt193050, lt1103515245, ltm162, ltm99, ltm81, ltm8, ltm1, iI_add, iI_sub, iI_mul, iI_neg, iI_divn, iI_lt_t, iI_lt_f, iI_le_t, iI_le_f, iI_eq_t, iI_eq_f, iI_lt, iI_le, iI_eq, iI_idx, iI_inb, gI_sI, gL_sL, gZ_sZ, gI_sL, gI_sZ, gL_sI, gL_sZ, gZ_sI, gZ_sL, Nat.reduceEqDiff, false_and, and_false, and_true, true_and, and_self, u10]; done))
        | (with_reducible refine ok_bnd_e (e2) ?_)
        | (with_reducible refine ok_bnd_e (x3) ?_)
        | (with_reducible refine ok_bnd_e (x4) ?_)
        | (with_reducible refine ok_bnd_e (e7') ?_)
        | (with_reducible refine ok_bndX (ok_e e1 ?_))
        | (with_reducible refine ok_bnd ?_)
        | (with_reducible refine ok_bndX ?_)
        | (with_reducible refine ok_lt ?_)
        | (with_reducible refine ok_t ?_ ?_; focus (simp (disch := omega) only [↓lt_def, ↓reduceIte, ckB_true, bnd_e, Int.reduceAdd, Int.reduceSub, Int.reduceMul, Int.reduceNeg, Int.reduceToNat, Bool.false_eq_true, eq_self, not_false_eq_true, not_true_eq_false, Int.toNat_natCast, lt0, lt1, lt2, lt3, lt4, lt5, lt6, lt7, lt8, lt9, lt10, lt11, lt12, lt13, lt14, lt15, lt16, lt17, lt18, lt19, lt20, lt21, lt22, lt23, lt24, lt25, lt26, lt27, lt28, lt29, lt30, lt31, lt32, lt40, lt41, lt43, lt48, lt55, lt57, lt59, lt60, lt62, lt63, lt64, lt70, lt72, lt81, lt97, lt99, lt100, lt122, lt162, lt180, lt235, lt255, lt298, lt299, lt325, lt335, lt400, lt837, lt999, lt1000, lt1001, lt1002, lt1003, lt1004, lt1005, lt1006, lt1007, lt1008, lt1100, lt1101, lt1102, lt1103, lt1104, lt1105, lt1135, lt1136, lt1172, lt2000, lt3278, lt3575, lt10000, lt12345, lt21450, lt32767, lt193050, lt1103515245, ltm162, ltm99, ltm81, ltm8, ltm1, iI_add, iI_sub, iI_mul, iI_neg, iI_divn, iI_lt_t, iI_lt_f, iI_le_t, iI_le_f, iI_eq_t, iI_eq_f, iI_lt, iI_le, iI_eq, iI_idx, iI_inb, gI_sI, gL_sL, gZ_sZ, gI_sL, gI_sZ, gL_sI, gL_sZ, gZ_sI, gZ_sL, Nat.reduceEqDiff, false_and, and_false, and_true, true_and, and_self, u10]; done))
        | (with_reducible refine ok_f ?_ ?_; focus (simp (disch := omega) only [↓lt_def, ↓reduceIte, ckB_true, bnd_e, Int.reduceAdd, Int.reduceSub, Int.reduceMul, Int.reduceNeg, Int.reduceToNat, Bool.false_eq_true, eq_self, not_false_eq_true, not_true_eq_false, Int.toNat_natCast, lt0, lt1, lt2, lt3, lt4, lt5, lt6, lt7, lt8, lt9, lt10, lt11, lt12, lt13, lt14, lt15, lt16, lt17, lt18, lt19, lt20, lt21, lt22, lt23, lt24, lt25, lt26, lt27, lt28, lt29, lt30, lt31, lt32, lt40, lt41, lt43, lt48, lt55, lt57, lt59, lt60, lt62, lt63, lt64, lt70, lt72, lt81, lt97, lt99, lt100, lt122, lt162, lt180, lt235, lt255, lt298, lt299, lt325, lt335, lt400, lt837, lt999, lt1000, lt1001, lt1002, lt1003, lt1004, lt1005, lt1006, lt1007, lt1008, lt1100, lt1101, lt1102, lt1103, lt1104, lt1105, lt1135, lt1136, lt1172, lt2000, lt3278, lt3575, lt10000, lt12345, lt21450, lt32767, lt193050, lt1103515245, ltm162, ltm99, ltm81, ltm8, ltm1, iI_add, iI_sub, iI_mul, iI_neg, iI_divn, iI_lt_t, iI_lt_f, iI_le_t, iI_le_f, iI_eq_t, iI_eq_f, iI_lt, iI_le, iI_eq, iI_idx, iI_inb, gI_sI, gL_sL, gZ_sZ, gI_sL, gI_sZ, gL_sI, gL_sZ, gZ_sI, gZ_sL, Nat.reduceEqDiff, false_and, and_false, and_true, true_and, and_self, u10]; done))
        | ((with_reducible refine ok_ite (fun hc => ?_) (fun hc => ?_)) <;> (try simp (disch := omega) only [↓lt_def, ↓reduceIte, ckB_true, bnd_e, Int.reduceAdd, Int.reduceSub, Int.reduceMul, Int.reduceNeg, Int.reduceToNat, Bool.false_eq_true, eq_self, not_false_eq_true, not_true_eq_false, Int.toNat_natCast, lt0, lt1, lt2, lt3, lt4, lt5, lt6, lt7, lt8, lt9, lt10, lt11, lt12, lt13, lt14, lt15, lt16, lt17, lt18, lt19, lt20, lt21, lt22, lt23, lt24, lt25, lt26, lt27, lt28, lt29, lt30, lt31, lt32, lt40, lt41, lt43, lt48, lt55, lt57, lt59, lt60, lt62, lt63, lt64, lt70, lt72, lt81, lt97, lt99, lt100, lt122, lt162, lt180, lt235, lt255, lt298, lt299, lt325, lt335, lt400, lt837, lt999, lt1000, lt1001, lt1002, lt1003, lt1004, lt1005, lt1006, lt1007, lt1008, lt1100, lt1101, lt1102, lt1103, lt1104, lt1105, lt1135, lt1136, lt1172, lt2000, lt3278, lt3575, lt10000, lt12345, lt21450, lt32767, lt193050, lt1103515245, ltm162, ltm99, ltm81, ltm8, ltm1, iI_add, iI_sub, iI_mul, iI_neg, iI_divn, iI_lt_t, iI_lt_f, iI_le_t, iI_le_f, iI_eq_t, iI_eq_f, iI_lt, iI_le, iI_eq, iI_idx, iI_inb, gI_sI, gL_sL, gZ_sZ, gI_sL, gI_sZ, gL_sI, gL_sZ, gZ_sI, gZ_sL, Nat.reduceEqDiff, false_and, and_false, and_true, true_and, and_self, u10] at hc) <;> (try (exfalso; omega)))
        | (with_reducible refine ok_some ?_)
        | (with_reducible refine ok_xr ?_)
        | (with_reducible refine ok_xl ?_)
        | (unfold F_T_here)
        | (unfold F_M_here)
        | (unfold F_M_firstSide)
        | (unfold F_M_played)
        | (unfold F_M_in)
        | (unfold F_M_throwsIf))
      exact ⟨⟨t2, rfl⟩, iv2.inv⟩
  · skip
    repeat' (first
      | (with_reducible refine ok_ck ?_ ?_; focus (simp (disch := omega) only [↓lt_def, ↓reduceIte, ckB_true, bnd_e, Int.reduceAdd, Int.reduceSub, Int.reduceMul, Int.reduceNeg, Int.reduceToNat, Bool.false_eq_true, eq_self, not_false_eq_true, not_true_eq_false, Int.toNat_natCast, lt0, lt1, lt2, lt3, lt4, lt5, lt6, lt7, lt8, lt9, lt10, lt11, lt12, lt13, lt14, lt15, lt16, lt17, lt18, lt19, lt20, lt21, lt22, lt23, lt24, lt25, lt26, lt27, lt28, lt29, lt30, lt31, lt32, lt40, lt41, lt43, lt48, lt55, lt57, lt59, lt60, lt62, lt63, lt64, lt70, lt72, lt81, lt97, lt99, lt100, lt122, lt162, lt180, lt235, lt255, lt298, lt299, lt325, lt335, lt400, lt837, lt999, lt1000, lt1001, lt1002, lt1003, lt1004, lt1005, lt1006, lt1007, lt1008, lt1100, lt1101, lt1102, lt1103, lt1104, lt1105, lt1135, lt1136, lt1172, lt2000, lt3278, lt3575, lt10000, lt12345, lt21450, lt32767, lt193050, lt1103515245, ltm162, ltm99, ltm81, ltm8, ltm1, iI_add, iI_sub, iI_mul, iI_neg, iI_divn, iI_lt_t, iI_lt_f, iI_le_t, iI_le_f, iI_eq_t, iI_eq_f, iI_lt, iI_le, iI_eq, iI_idx, iI_inb, gI_sI, gL_sL, gZ_sZ, gI_sL, gI_sZ, gL_sI, gL_sZ, gZ_sI, gZ_sL, Nat.reduceEqDiff, false_and, and_false, and_true, true_and, and_self, c0, w10]; done))
      | (with_reducible refine ok_bnd ?_)
      | (with_reducible refine ok_bndX ?_)
      | (with_reducible refine ok_lt ?_)
      | (with_reducible refine ok_t ?_ ?_; focus (simp (disch := omega) only [↓lt_def, ↓reduceIte, ckB_true, bnd_e, Int.reduceAdd, Int.reduceSub, Int.reduceMul, Int.reduceNeg, Int.reduceToNat, Bool.false_eq_true, eq_self, not_false_eq_true, not_true_eq_false, Int.toNat_natCast, lt0, lt1, lt2, lt3, lt4, lt5, lt6, lt7, lt8, lt9, lt10, lt11, lt12, lt13, lt14, lt15, lt16, lt17, lt18, lt19, lt20, lt21, lt22, lt23, lt24, lt25, lt26, lt27, lt28, lt29, lt30, lt31, lt32, lt40, lt41, lt43, lt48, lt55, lt57, lt59, lt60, lt62, lt63, lt64, lt70, lt72, lt81, lt97, lt99, lt100, lt122, lt162, lt180, lt235, lt255, lt298, lt299, lt325, lt335, lt400, lt837, lt999, lt1000, lt1001, lt1002, lt1003, lt1004, lt1005, lt1006, lt1007, lt1008, lt1100, lt1101, lt1102, lt1103, lt1104, lt1105, lt1135, lt1136, lt1172, lt2000, lt3278, lt3575, lt10000, lt12345, lt21450, lt32767, lt193050, lt1103515245, ltm162, ltm99, ltm81, ltm8, ltm1, iI_add, iI_sub, iI_mul, iI_neg, iI_divn, iI_lt_t, iI_lt_f, iI_le_t, iI_le_f, iI_eq_t, iI_eq_f, iI_lt, iI_le, iI_eq, iI_idx, iI_inb, gI_sI, gL_sL, gZ_sZ, gI_sL, gI_sZ, gL_sI, gL_sZ, gZ_sI, gZ_sL, Nat.reduceEqDiff, false_and, and_false, and_true, true_and, and_self, c0, w10]; done))
      | (with_reducible refine ok_f ?_ ?_; focus (simp (disch := omega) only [↓lt_def, ↓reduceIte, ckB_true, bnd_e, Int.reduceAdd, Int.reduceSub, Int.reduceMul, Int.reduceNeg, Int.reduceToNat, Bool.false_eq_true, eq_self, not_false_eq_true, not_true_eq_false, Int.toNat_natCast, lt0, lt1, lt2, lt3, lt4, lt5, lt6, lt7, lt8, lt9, lt10, lt11, lt12, lt13, lt14, lt15, lt16, lt17, lt18, lt19, lt20, lt21, lt22, lt23, lt24, lt25, lt26, lt27, lt28, lt29, lt30, lt31, lt32, lt40, lt41, lt43, lt48, lt55, lt57, lt59, lt60, lt62, lt63, lt64, lt70, lt72, lt81, lt97, lt99, lt100, lt122, lt162, lt180, lt235, lt255, lt298, lt299, lt325, lt335, lt400, lt837, lt999, lt1000, lt1001, lt1002, lt1003, lt1004, lt1005, lt1006, lt1007, lt1008, lt1100, lt1101, lt1102, lt1103, lt1104, lt1105, lt1135, lt1136, lt1172, lt2000, lt3278, lt3575, lt10000, lt12345, lt21450, lt32767, lt193050, lt1103515245, ltm162, ltm99, ltm81, ltm8, ltm1, iI_add, iI_sub, iI_mul, iI_neg, iI_divn, iI_lt_t, iI_lt_f, iI_le_t, iI_le_f, iI_eq_t, iI_eq_f, iI_lt, iI_le, iI_eq, iI_idx, iI_inb, gI_sI, gL_sL, gZ_sZ, gI_sL, gI_sZ, gL_sI, gL_sZ, gZ_sI, gZ_sL, Nat.reduceEqDiff, false_and, and_false, and_true, true_and, and_self, c0, w10]; done))
      | ((with_reducible refine ok_ite (fun hc => ?_) (fun hc => ?_)) <;> (try simp (disch := omega) only [↓lt_def, ↓reduceIte, ckB_true, bnd_e, Int.reduceAdd, Int.reduceSub, Int.reduceMul, Int.reduceNeg, Int.reduceToNat, Bool.false_eq_true, eq_self, not_false_eq_true, not_true_eq_false, Int.toNat_natCast, lt0, lt1, lt2, lt3, lt4, lt5, lt6, lt7, lt8, lt9, lt10, lt11, lt12, lt13, lt14, lt15, lt16, lt17, lt18, lt19, lt20, lt21, lt22, lt23, lt24, lt25, lt26, lt27, lt28, lt29, lt30, lt31, lt32, lt40, lt41, lt43, lt48, lt55, lt57, lt59, lt60, lt62, lt63, lt64, lt70, lt72, lt81, lt97, lt99, lt100, lt122, lt162, lt180, lt235, lt255, lt298, lt299, lt325, lt335, lt400, lt837, lt999, lt1000, lt1001, lt1002, lt1003, lt1004, lt1005, lt1006, lt1007, lt1008, lt1100, lt1101, lt1102, lt1103, lt1104, lt1105, lt1135, lt1136, lt1172, lt2000, lt3278, lt3575, lt10000, lt12345, lt21450, lt32767, lt193050, lt1103515245, ltm162, ltm99, ltm81, ltm8, ltm1, iI_add, iI_sub, iI_mul, iI_neg, iI_divn, iI_lt_t, iI_lt_f, iI_le_t, iI_le_f, iI_eq_t, iI_eq_f, iI_lt, iI_le, iI_eq, iI_idx, iI_inb, gI_sI, gL_sL, gZ_sZ, gI_sL, gI_sZ, gL_sI, gL_sZ, gZ_sI, gZ_sL, Nat.reduceEqDiff, false_and, and_false, and_true, true_and, and_self, c0, w10] at hc) <;> (try (exfalso; omega)))
      | (with_reducible refine ok_some ?_)
      | (with_reducible refine ok_xr ?_)
      | (with_reducible refine ok_xl ?_)
      | (unfold F_T_here)
      | (unfold F_T_oddsFromHere)
      | (unfold F_M_here)
      | (unfold F_M_firstSide)
      | (unfold F_M_in)
      | (unfold F_M_throwsIf))
    all_goals exact ⟨ansL_l (by decide) rfl, ((h.thr thr_ss).up (by omega)).inv⟩
theorem blind_op {B : Nat} {law : Option (List (Int × List Int))} {n mg wd tx bc : Int} {t : Mt} {m : Mem} (h : IV B law n mg wd tx bc t m) (hB6 : B ≤ 1000000) (a : Int32) : BothL (B + 1) cdH (F_T_blind a) (F_M_blind a) m := by
  obtain ⟨z, rfl, z1, z2⟩ := iI_ex a
  obtain ⟨c0, c1, c2, c3, c4, c5, c6, c7, c8, c9, clg⟩ := h.cm
  obtain ⟨w9, w10, w11, w12, w13, w14, w15, w16, w17, w18, wlg⟩ := h.wm
  simp only [Nat.zero_add] at w9 w10 w11 w12 w13 w14 w15 w16 w17 w18 wlg
  have k_fi0 := h.mo.fi0
  have k_fi1 := h.mo.fi1
  have k_in0 := h.mo.in0
  have k_in3 := h.mo.in3
  have k_ou0 := h.mo.ou0
  have k_ou1 := h.mo.ou1
  have k_pl0 := h.mo.pl0
  have k_pl1 := h.mo.pl1
  have k_wi0 := h.mo.wi0
  have k_wi2 := h.mo.wi2
  have k_a0 := h.mo.a0
  have k_a1 := h.mo.a1
  have k_b0 := h.mo.b0
  have k_b1 := h.mo.b1
  have k_fo := h.mo.fo
  have k_no := h.mo.no
  have k_on := h.mo.on
  have k_pn := h.mo.pn
  have k_fre := h.mo.fre
  have k_n1 := h.gr.n1
  have k_n9 := h.gr.n9
  have k_cn := h.gr.cn
  have k_wn := h.gr.wn
  have k_cmg := h.gr.cmg
  have k_wmg := h.gr.wmg
  have k_mg0 := h.gr.mg0
  have k_mg9 := h.gr.mg9
  unfold BothL
  by_cases hr : 0 ≤ t.fi ∧ 0 ≤ z ∧ z ≤ 3
  · obtain ⟨f0, z0, z3⟩ := hr
    obtain ⟨_, m1, e1, rfl, iv1, hw1⟩ := Tfrom_ok h hB6 true z0 z3 f0
    have iv1' := iv1.thr (thr_s (v := 0))
    have hgz : GR (sZ (sI m1 78 0 0) 78 22 true) 3 4 5 6 7 8 9 12 13 79 law n mg wd tx bc := GR_told iv1'.gr (fun o ho j => rfl) (fun j _ => rfl)
    obtain ⟨_, m2, e2, g2, f2⟩ := countsNow_ok hgz (m := sZ (sI m1 78 0 0) 78 22 true) iv1'.wm iv1'.mo f0 (bl := true) (by rw [gZ_sZ, if_pos ⟨rfl, rfl⟩]) (w := gI m 79) (by rw [← hw1]; rfl)
    have iv2 : IV (B + 1) law n mg wd tx bc t (sZ m2 78 22 false) := by
      have hf : Fr scrA scrL (sI m1 78 0 0) (sZ m2 78 22 false) := Fr_sZ rfl (Fr_tr (Fr_sZ rfl Fr_rf (by simp [scrL])) f2 (by simp [scrA]) (by simp [scrL])) (by simp [scrL])
      refine iv1'.keep0 hf (by rw [gZ_sZ, if_pos ⟨rfl, rfl⟩]) (fun j => ?_) (fun j => ?_) (fun j => ⟨?_, ?_, ?_⟩)
      · exact f2.gI (by simp) (by simp)
      · exact f2.gL (by simp) (by simp)
      · exact f2.gI (by simp) (by simp)
      · exact f2.gL (by simp) (by simp)
      · rw [gZ_sZ, if_neg (fun q => absurd q.1 (by decide)), f2.gZ (by simp) (by simp), gZ_sZ, if_neg (fun q => absurd q.1 (by decide))]
    have t2 : gI (sZ m2 78 22 false) 78 0 = iI 0 := by
      rw [gI_sZ, f2.gI (by simp) (by simp)]; rfl
    have hbr := batZ_rng f0 k_fi1
    have g2' : GW (sZ m2 78 22 false) (if 0 ≤ t.win then overV t (four (n - t.pl).toNat) else nowV (opOf (gI m 79) law n mg t.fi wd true) t) := g2
    obtain ⟨v9, v10, v11, v12, v13, v14, v15, v16, v17, v18, vlg⟩ := iv2.wm
    simp only [Nat.zero_add] at v9 v10 v11 v12 v13 v14 v15 v16 v17 v18
    have u10 : gI m1 79 10 = iI t.fi := iv1.wm.2.1
    have x3 := Mover_eq (t := t) (m := sZ m2 78 22 false) v18 k_wi0 k_wi2
    have x4 := Mbatter_eq (t := t) (m := sZ m2 78 22 false) v10 v11 v12 k_in0 k_in3
    have ha0 := four_pos (n - t.pl).toNat
    by_cases hov : 0 ≤ t.win
    · rw [decide_eq_true hov] at x3
      rw [if_pos hov] at g2'
      have e7 := MwaysOf_eq (z := z) (s := 0) iv2.gr.wn k_n9 k_pl0 k_pl1 g2' (by unfold overV; refine ⟨?_, ?_, ?_⟩ <;> dsimp only <;> (repeat' split) <;> omega) z0 z3 (by omega) (by omega)
      rw [if_pos rfl, show overV t (four (n - t.pl).toNat) = hereV (opOf (gI m 79) law n mg t.fi wd true) t by unfold hereV; rw [if_pos hov, opOf_n]] at e7
      have e7' : F_M_waysOf (iI z) (gI (sZ m2 78 22 false) 79 17) (0 : Int32) (sZ m2 78 22 false) = some (iL (askV (four (n - t.pl).toNat) (hereV (opOf (gI m 79) law n mg t.fi wd true) t) z), sZ m2 78 22 false) := by rw [v17]; exact e7
      repeat' (first
        | (with_reducible refine ok_ck ?_ ?_; focus (simp (disch := omega) only [↓lt_def, ↓reduceIte, ckB_true, bnd_e, Int.reduceAdd, Int.reduceSub, Int.reduceMul, Int.reduceNeg, Int.reduceToNat, Bool.false_eq_true, eq_self, not_false_eq_true, not_true_eq_false, Int.toNat_natCast, lt0, lt1, lt2, lt3, lt4, lt5, lt6, lt7, lt8, lt9, lt10, lt11, lt12, lt13, lt14, lt15, lt16, lt17, lt18, lt19, lt20, lt21, lt22, lt23, lt24, lt25, lt26, lt27, lt28, lt29, lt30, lt31, lt32, lt40, lt41, lt43, lt48, lt55, lt57, lt59, lt60, lt62, lt63, lt64, lt70, lt72, lt81, lt97, lt99, lt100, lt122, lt162, lt180, lt235, lt255, lt298, lt299, lt325, lt335, lt400, lt837, lt999, lt1000, lt1001, lt1002, lt1003, lt1004, lt1005, lt1006, lt1007, lt1008, lt1100, lt1101, lt1102, lt1103, lt1104, lt1105, lt1135, lt1136, lt1172, lt2000, lt3278, lt3575, lt10000, lt12345, lt21450, lt32767, lt193050, lt1103515245, ltm162, ltm99, ltm81, ltm8, ltm1, iI_add, iI_sub, iI_mul, iI_neg, iI_divn, iI_lt_t, iI_lt_f, iI_le_t, iI_le_f, iI_eq_t, iI_eq_f, iI_lt, iI_le, iI_eq, iI_idx, iI_inb, gI_sI, gL_sL, gZ_sZ, gI_sL, gI_sZ, gL_sI, gL_sZ, gZ_sI, gZ_sL, Nat.reduceEqDiff, false_and, and_false, and_true, true_and, and_self, u10]; done))
        | (with_reducible refine ok_bnd_e (e2) ?_)
        | (with_reducible refine ok_bnd_e (x3) ?_)
        | (with_reducible refine ok_bnd_e (e7') ?_)
        | (with_reducible refine ok_bndX (ok_e e1 ?_))
        | (with_reducible refine ok_bnd ?_)
        | (with_reducible refine ok_bndX ?_)
        | (with_reducible refine ok_lt ?_)
        | (with_reducible refine ok_t ?_ ?_; focus (simp (disch := omega) only [↓lt_def, ↓reduceIte, ckB_true, bnd_e, Int.reduceAdd, Int.reduceSub, Int.reduceMul, Int.reduceNeg, Int.reduceToNat, Bool.false_eq_true, eq_self, not_false_eq_true, not_true_eq_false, Int.toNat_natCast, lt0, lt1, lt2, lt3, lt4, lt5, lt6, lt7, lt8, lt9, lt10, lt11, lt12, lt13, lt14, lt15, lt16, lt17, lt18, lt19, lt20, lt21, lt22, lt23, lt24, lt25, lt26, lt27, lt28, lt29, lt30, lt31, lt32, lt40, lt41, lt43, lt48, lt55, lt57, lt59, lt60, lt62, lt63, lt64, lt70, lt72, lt81, lt97, lt99, lt100, lt122, lt162, lt180, lt235, lt255, lt298, lt299, lt325, lt335, lt400, lt837, lt999, lt1000, lt1001, lt1002, lt1003, lt1004, lt1005, lt1006, lt1007, lt1008, lt1100, lt1101, lt1102, lt1103, lt1104, lt1105, lt1135, lt1136, lt1172, lt2000, lt3278, lt3575, lt10000, lt12345, lt21450, lt32767, lt193050, lt1103515245, ltm162, ltm99, ltm81, ltm8, ltm1, iI_add, iI_sub, iI_mul, iI_neg, iI_divn, iI_lt_t, iI_lt_f, iI_le_t, iI_le_f, iI_eq_t, iI_eq_f, iI_lt, iI_le, iI_eq, iI_idx, iI_inb, gI_sI, gL_sL, gZ_sZ, gI_sL, gI_sZ, gL_sI, gL_sZ, gZ_sI, gZ_sL, Nat.reduceEqDiff, false_and, and_false, and_true, true_and, and_self, u10]; done))
        | (with_reducible refine ok_f ?_ ?_; focus (simp (disch := omega) only [↓lt_def, ↓reduceIte, ckB_true, bnd_e, Int.reduceAdd, Int.reduceSub, Int.reduceMul, Int.reduceNeg, Int.reduceToNat, Bool.false_eq_true, eq_self, not_false_eq_true, not_true_eq_false, Int.toNat_natCast, lt0, lt1, lt2, lt3, lt4, lt5, lt6, lt7, lt8, lt9, lt10, lt11, lt12, lt13, lt14, lt15, lt16, lt17, lt18, lt19, lt20, lt21, lt22, lt23, lt24, lt25, lt26, lt27, lt28, lt29, lt30, lt31, lt32, lt40, lt41, lt43, lt48, lt55, lt57, lt59, lt60, lt62, lt63, lt64, lt70, lt72, lt81, lt97, lt99, lt100, lt122, lt162, lt180, lt235, lt255, lt298, lt299, lt325, lt335, lt400, lt837, lt999, lt1000, lt1001, lt1002, lt1003, lt1004, lt1005, lt1006, lt1007, lt1008, lt1100, lt1101, lt1102, lt1103, lt1104, lt1105, lt1135, lt1136, lt1172, lt2000, lt3278, lt3575, lt10000, lt12345, lt21450, lt32767, lt193050, lt1103515245, ltm162, ltm99, ltm81, ltm8, ltm1, iI_add, iI_sub, iI_mul, iI_neg, iI_divn, iI_lt_t, iI_lt_f, iI_le_t, iI_le_f, iI_eq_t, iI_eq_f, iI_lt, iI_le, iI_eq, iI_idx, iI_inb, gI_sI, gL_sL, gZ_sZ, gI_sL, gI_sZ, gL_sI, gL_sZ, gZ_sI, gZ_sL, Nat.reduceEqDiff, false_and, and_false, and_true, true_and, and_self, u10]; done))
        | ((with_reducible refine ok_ite (fun hc => ?_) (fun hc => ?_)) <;> (try simp (disch := omega) only [↓lt_def, ↓reduceIte, ckB_true, bnd_e, Int.reduceAdd, Int.reduceSub, Int.reduceMul, Int.reduceNeg, Int.reduceToNat, Bool.false_eq_true, eq_self, not_false_eq_true, not_true_eq_false, Int.toNat_natCast, lt0, lt1, lt2, lt3, lt4, lt5, lt6, lt7, lt8, lt9, lt10, lt11, lt12, lt13, lt14, lt15, lt16, lt17, lt18, lt19, lt20, lt21, lt22, lt23, lt24, lt25, lt26, lt27, lt28, lt29, lt30, lt31, lt32, lt40, lt41, lt43, lt48, lt55, lt57, lt59, lt60, lt62, lt63, lt64, lt70, lt72, lt81, lt97, lt99, lt100, lt122, lt162, lt180, lt235, lt255, lt298, lt299, lt325, lt335, lt400, lt837, lt999, lt1000, lt1001, lt1002, lt1003, lt1004, lt1005, lt1006, lt1007, lt1008, lt1100, lt1101, lt1102, lt1103, lt1104, lt1105, lt1135, lt1136, lt1172, lt2000, lt3278, lt3575, lt10000, lt12345, lt21450, lt32767, lt193050, lt1103515245, ltm162, ltm99, ltm81, ltm8, ltm1, iI_add, iI_sub, iI_mul, iI_neg, iI_divn, iI_lt_t, iI_lt_f, iI_le_t, iI_le_f, iI_eq_t, iI_eq_f, iI_lt, iI_le, iI_eq, iI_idx, iI_inb, gI_sI, gL_sL, gZ_sZ, gI_sL, gI_sZ, gL_sI, gL_sZ, gZ_sI, gZ_sL, Nat.reduceEqDiff, false_and, and_false, and_true, true_and, and_self, u10] at hc) <;> (try (exfalso; omega)))
        | (with_reducible refine ok_some ?_)
        | (with_reducible refine ok_xr ?_)
        | (with_reducible refine ok_xl ?_)
        | (unfold F_T_blind)
        | (unfold F_M_blind)
        | (unfold F_M_firstSide)
        | (unfold F_M_played)
        | (unfold F_M_in)
        | (unfold F_M_throwsIf))
      exact ⟨⟨t2, rfl⟩, iv2.inv⟩
    · rw [decide_eq_false hov] at x3
      rw [if_neg hov] at g2'
      have e7 := MwaysOf_eq (z := z) (s := batZ t) iv2.gr.wn k_n9 k_pl0 k_pl1 g2' (by unfold nowV; rw [opOf_n]; exact V_ok _ _ _ _) z0 z3 hbr.1 hbr.2
      rw [show (if batZ t = 0 then nowV (opOf (gI m 79) law n mg t.fi wd true) t else ((nowV (opOf (gI m 79) law n mg t.fi wd true) t).2, (nowV (opOf (gI m 79) law n mg t.fi wd true) t).1)) = hereV (opOf (gI m 79) law n mg t.fi wd true) t by unfold hereV sideV; rw [if_neg hov]] at e7
      have e7' : F_M_waysOf (iI z) (gI (sZ m2 78 22 false) 79 17) (iI (batZ t)) (sZ m2 78 22 false) = some (iL (askV (four (n - t.pl).toNat) (hereV (opOf (gI m 79) law n mg t.fi wd true) t) z), sZ m2 78 22 false) := by rw [v17]; exact e7
      repeat' (first
        | (with_reducible refine ok_ck ?_ ?_; focus (simp (disch := omega) only [↓lt_def, ↓reduceIte, ckB_true, bnd_e, Int.reduceAdd, Int.reduceSub, Int.reduceMul, Int.reduceNeg, Int.reduceToNat, Bool.false_eq_true, eq_self, not_false_eq_true, not_true_eq_false, Int.toNat_natCast, lt0, lt1, lt2, lt3, lt4, lt5, lt6, lt7, lt8, lt9, lt10, lt11, lt12, lt13, lt14, lt15, lt16, lt17, lt18, lt19, lt20, lt21, lt22, lt23, lt24, lt25, lt26, lt27, lt28, lt29, lt30, lt31, lt32, lt40, lt41, lt43, lt48, lt55, lt57, lt59, lt60, lt62, lt63, lt64, lt70, lt72, lt81, lt97, lt99, lt100, lt122, lt162, lt180, lt235, lt255, lt298, lt299, lt325, lt335, lt400, lt837, lt999, lt1000, lt1001, lt1002, lt1003, lt1004, lt1005, lt1006, lt1007, lt1008, lt1100, lt1101, lt1102, lt1103, lt1104, lt1105, lt1135, lt1136, lt1172, lt2000, lt3278, lt3575, lt10000, lt12345, lt21450, lt32767, lt193050, lt1103515245, ltm162, ltm99, ltm81, ltm8, ltm1, iI_add, iI_sub, iI_mul, iI_neg, iI_divn, iI_lt_t, iI_lt_f, iI_le_t, iI_le_f, iI_eq_t, iI_eq_f, iI_lt, iI_le, iI_eq, iI_idx, iI_inb, gI_sI, gL_sL, gZ_sZ, gI_sL, gI_sZ, gL_sI, gL_sZ, gZ_sI, gZ_sL, Nat.reduceEqDiff, false_and, and_false, and_true, true_and, and_self, u10]; done))
        | (with_reducible refine ok_bnd_e (e2) ?_)
        | (with_reducible refine ok_bnd_e (x3) ?_)
        | (with_reducible refine ok_bnd_e (x4) ?_)
        | (with_reducible refine ok_bnd_e (e7') ?_)
        | (with_reducible refine ok_bndX (ok_e e1 ?_))
        | (with_reducible refine ok_bnd ?_)
        | (with_reducible refine ok_bndX ?_)
        | (with_reducible refine ok_lt ?_)
        | (with_reducible refine ok_t ?_ ?_; focus (simp (disch := omega) only [↓lt_def, ↓reduceIte, ckB_true, bnd_e, Int.reduceAdd, Int.reduceSub, Int.reduceMul, Int.reduceNeg, Int.reduceToNat, Bool.false_eq_true, eq_self, not_false_eq_true, not_true_eq_false, Int.toNat_natCast, lt0, lt1, lt2, lt3, lt4, lt5, lt6, lt7, lt8, lt9, lt10, lt11, lt12, lt13, lt14, lt15, lt16, lt17, lt18, lt19, lt20, lt21, lt22, lt23, lt24, lt25, lt26, lt27, lt28, lt29, lt30, lt31, lt32, lt40, lt41, lt43, lt48, lt55, lt57, lt59, lt60, lt62, lt63, lt64, lt70, lt72, lt81, lt97, lt99, lt100, lt122, lt162, lt180, lt235, lt255, lt298, lt299, lt325, lt335, lt400, lt837, lt999, lt1000, lt1001, lt1002, lt1003, lt1004, lt1005, lt1006, lt1007, lt1008, lt1100, lt1101, lt1102, lt1103, lt1104, lt1105, lt1135, lt1136, lt1172, lt2000, lt3278, lt3575, lt10000, lt12345, lt21450, lt32767, lt193050, lt1103515245, ltm162, ltm99, ltm81, ltm8, ltm1, iI_add, iI_sub, iI_mul, iI_neg, iI_divn, iI_lt_t, iI_lt_f, iI_le_t, iI_le_f, iI_eq_t, iI_eq_f, iI_lt, iI_le, iI_eq, iI_idx, iI_inb, gI_sI, gL_sL, gZ_sZ, gI_sL, gI_sZ, gL_sI, gL_sZ, gZ_sI, gZ_sL, Nat.reduceEqDiff, false_and, and_false, and_true, true_and, and_self, u10]; done))
        | (with_reducible refine ok_f ?_ ?_; focus (simp (disch := omega) only [↓lt_def, ↓reduceIte, ckB_true, bnd_e, Int.reduceAdd, Int.reduceSub, Int.reduceMul, Int.reduceNeg, Int.reduceToNat, Bool.false_eq_true, eq_self, not_false_eq_true, not_true_eq_false, Int.toNat_natCast, lt0, lt1, lt2, lt3, lt4, lt5, lt6, lt7, lt8, lt9, lt10, lt11, lt12, lt13, lt14, lt15, lt16, lt17, lt18, lt19, lt20, lt21, lt22, lt23, lt24, lt25, lt26, lt27, lt28, lt29, lt30, lt31, lt32, lt40, lt41, lt43, lt48, lt55, lt57, lt59, lt60, lt62, lt63, lt64, lt70, lt72, lt81, lt97, lt99, lt100, lt122, lt162, lt180, lt235, lt255, lt298, lt299, lt325, lt335, lt400, lt837, lt999, lt1000, lt1001, lt1002, lt1003, lt1004, lt1005, lt1006, lt1007, lt1008, lt1100, lt1101, lt1102, lt1103, lt1104, lt1105, lt1135, lt1136, lt1172, lt2000, lt3278, lt3575, lt10000, lt12345, lt21450, lt32767, lt193050, lt1103515245, ltm162, ltm99, ltm81, ltm8, ltm1, iI_add, iI_sub, iI_mul, iI_neg, iI_divn, iI_lt_t, iI_lt_f, iI_le_t, iI_le_f, iI_eq_t, iI_eq_f, iI_lt, iI_le, iI_eq, iI_idx, iI_inb, gI_sI, gL_sL, gZ_sZ, gI_sL, gI_sZ, gL_sI, gL_sZ, gZ_sI, gZ_sL, Nat.reduceEqDiff, false_and, and_false, and_true, true_and, and_self, u10]; done))
        | ((with_reducible refine ok_ite (fun hc => ?_) (fun hc => ?_)) <;> (try simp (disch := omega) only [↓lt_def, ↓reduceIte, ckB_true, bnd_e, Int.reduceAdd, Int.reduceSub, Int.reduceMul, Int.reduceNeg, Int.reduceToNat, Bool.false_eq_true, eq_self, not_false_eq_true, not_true_eq_false, Int.toNat_natCast, lt0, lt1, lt2, lt3, lt4, lt5, lt6, lt7, lt8, lt9, lt10, lt11, lt12, lt13, lt14, lt15, lt16, lt17, lt18, lt19, lt20, lt21, lt22, lt23, lt24, lt25, lt26, lt27, lt28, lt29, lt30, lt31, lt32, lt40, lt41, lt43, lt48, lt55, lt57, lt59, lt60, lt62, lt63, lt64, lt70, lt72, lt81, lt97, lt99, lt100, lt122, lt162, lt180, lt235, lt255, lt298, lt299, lt325, lt335, lt400, lt837, lt999, lt1000, lt1001, lt1002, lt1003, lt1004, lt1005, lt1006, lt1007, lt1008, lt1100, lt1101, lt1102, lt1103, lt1104, lt1105, lt1135, lt1136, lt1172, lt2000, lt3278, lt3575, lt10000, lt12345, lt21450, lt32767, lt193050, lt1103515245, ltm162, ltm99, ltm81, ltm8, ltm1, iI_add, iI_sub, iI_mul, iI_neg, iI_divn, iI_lt_t, iI_lt_f, iI_le_t, iI_le_f, iI_eq_t, iI_eq_f, iI_lt, iI_le, iI_eq, iI_idx, iI_inb, gI_sI, gL_sL, gZ_sZ, gI_sL, gI_sZ, gL_sI, gL_sZ, gZ_sI, gZ_sL, Nat.reduceEqDiff, false_and, and_false, and_true, true_and, and_self, u10] at hc) <;> (try (exfalso; omega)))
        | (with_reducible refine ok_some ?_)
        | (with_reducible refine ok_xr ?_)
        | (with_reducible refine ok_xl ?_)
        | (unfold F_T_blind)
        | (unfold F_M_blind)
        | (unfold F_M_firstSide)
        | (unfold F_M_played)
        | (unfold F_M_in)
        | (unfold F_M_throwsIf))
      exact ⟨⟨t2, rfl⟩, iv2.inv⟩
  · skip
    repeat' (first
      | (with_reducible refine ok_ck ?_ ?_; focus (simp (disch := omega) only [↓lt_def, ↓reduceIte, ckB_true, bnd_e, Int.reduceAdd, Int.reduceSub, Int.reduceMul, Int.reduceNeg, Int.reduceToNat, Bool.false_eq_true, eq_self, not_false_eq_true, not_true_eq_false, Int.toNat_natCast, lt0, lt1, lt2, lt3, lt4, lt5, lt6, lt7, lt8, lt9, lt10, lt11, lt12, lt13, lt14, lt15, lt16, lt17, lt18, lt19, lt20, lt21, lt22, lt23, lt24, lt25, lt26, lt27, lt28, lt29, lt30, lt31, lt32, lt40, lt41, lt43, lt48, lt55, lt57, lt59, lt60, lt62, lt63, lt64, lt70, lt72, lt81, lt97, lt99, lt100, lt122, lt162, lt180, lt235, lt255, lt298, lt299, lt325, lt335, lt400, lt837, lt999, lt1000, lt1001, lt1002, lt1003, lt1004, lt1005, lt1006, lt1007, lt1008, lt1100, lt1101, lt1102, lt1103, lt1104, lt1105, lt1135, lt1136, lt1172, lt2000, lt3278, lt3575, lt10000, lt12345, lt21450, lt32767, lt193050, lt1103515245, ltm162, ltm99, ltm81, ltm8, ltm1, iI_add, iI_sub, iI_mul, iI_neg, iI_divn, iI_lt_t, iI_lt_f, iI_le_t, iI_le_f, iI_eq_t, iI_eq_f, iI_lt, iI_le, iI_eq, iI_idx, iI_inb, gI_sI, gL_sL, gZ_sZ, gI_sL, gI_sZ, gL_sI, gL_sZ, gZ_sI, gZ_sL, Nat.reduceEqDiff, false_and, and_false, and_true, true_and, and_self, c0, w10]; done))
      | (with_reducible refine ok_bnd ?_)
      | (with_reducible refine ok_bndX ?_)
      | (with_reducible refine ok_lt ?_)
      | (with_reducible refine ok_t ?_ ?_; focus (simp (disch := omega) only [↓lt_def, ↓reduceIte, ckB_true, bnd_e, Int.reduceAdd, Int.reduceSub, Int.reduceMul, Int.reduceNeg, Int.reduceToNat, Bool.false_eq_true, eq_self, not_false_eq_true, not_true_eq_false, Int.toNat_natCast, lt0, lt1, lt2, lt3, lt4, lt5, lt6, lt7, lt8, lt9, lt10, lt11, lt12, lt13, lt14, lt15, lt16, lt17, lt18, lt19, lt20, lt21, lt22, lt23, lt24, lt25, lt26, lt27, lt28, lt29, lt30, lt31, lt32, lt40, lt41, lt43, lt48, lt55, lt57, lt59, lt60, lt62, lt63, lt64, lt70, lt72, lt81, lt97, lt99, lt100, lt122, lt162, lt180, lt235, lt255, lt298, lt299, lt325, lt335, lt400, lt837, lt999, lt1000, lt1001, lt1002, lt1003, lt1004, lt1005, lt1006, lt1007, lt1008, lt1100, lt1101, lt1102, lt1103, lt1104, lt1105, lt1135, lt1136, lt1172, lt2000, lt3278, lt3575, lt10000, lt12345, lt21450, lt32767, lt193050, lt1103515245, ltm162, ltm99, ltm81, ltm8, ltm1, iI_add, iI_sub, iI_mul, iI_neg, iI_divn, iI_lt_t, iI_lt_f, iI_le_t, iI_le_f, iI_eq_t, iI_eq_f, iI_lt, iI_le, iI_eq, iI_idx, iI_inb, gI_sI, gL_sL, gZ_sZ, gI_sL, gI_sZ, gL_sI, gL_sZ, gZ_sI, gZ_sL, Nat.reduceEqDiff, false_and, and_false, and_true, true_and, and_self, c0, w10]; done))
      | (with_reducible refine ok_f ?_ ?_; focus (simp (disch := omega) only [↓lt_def, ↓reduceIte, ckB_true, bnd_e, Int.reduceAdd, Int.reduceSub, Int.reduceMul, Int.reduceNeg, Int.reduceToNat, Bool.false_eq_true, eq_self, not_false_eq_true, not_true_eq_false, Int.toNat_natCast, lt0, lt1, lt2, lt3, lt4, lt5, lt6, lt7, lt8, lt9, lt10, lt11, lt12, lt13, lt14, lt15, lt16, lt17, lt18, lt19, lt20, lt21, lt22, lt23, lt24, lt25, lt26, lt27, lt28, lt29, lt30, lt31, lt32, lt40, lt41, lt43, lt48, lt55, lt57, lt59, lt60, lt62, lt63, lt64, lt70, lt72, lt81, lt97, lt99, lt100, lt122, lt162, lt180, lt235, lt255, lt298, lt299, lt325, lt335, lt400, lt837, lt999, lt1000, lt1001, lt1002, lt1003, lt1004, lt1005, lt1006, lt1007, lt1008, lt1100, lt1101, lt1102, lt1103, lt1104, lt1105, lt1135, lt1136, lt1172, lt2000, lt3278, lt3575, lt10000, lt12345, lt21450, lt32767, lt193050, lt1103515245, ltm162, ltm99, ltm81, ltm8, ltm1, iI_add, iI_sub, iI_mul, iI_neg, iI_divn, iI_lt_t, iI_lt_f, iI_le_t, iI_le_f, iI_eq_t, iI_eq_f, iI_lt, iI_le, iI_eq, iI_idx, iI_inb, gI_sI, gL_sL, gZ_sZ, gI_sL, gI_sZ, gL_sI, gL_sZ, gZ_sI, gZ_sL, Nat.reduceEqDiff, false_and, and_false, and_true, true_and, and_self, c0, w10]; done))
      | ((with_reducible refine ok_ite (fun hc => ?_) (fun hc => ?_)) <;> (try simp (disch := omega) only [↓lt_def, ↓reduceIte, ckB_true, bnd_e, Int.reduceAdd, Int.reduceSub, Int.reduceMul, Int.reduceNeg, Int.reduceToNat, Bool.false_eq_true, eq_self, not_false_eq_true, not_true_eq_false, Int.toNat_natCast, lt0, lt1, lt2, lt3, lt4, lt5, lt6, lt7, lt8, lt9, lt10, lt11, lt12, lt13, lt14, lt15, lt16, lt17, lt18, lt19, lt20, lt21, lt22, lt23, lt24, lt25, lt26, lt27, lt28, lt29, lt30, lt31, lt32, lt40, lt41, lt43, lt48, lt55, lt57, lt59, lt60, lt62, lt63, lt64, lt70, lt72, lt81, lt97, lt99, lt100, lt122, lt162, lt180, lt235, lt255, lt298, lt299, lt325, lt335, lt400, lt837, lt999, lt1000, lt1001, lt1002, lt1003, lt1004, lt1005, lt1006, lt1007, lt1008, lt1100, lt1101, lt1102, lt1103, lt1104, lt1105, lt1135, lt1136, lt1172, lt2000, lt3278, lt3575, lt10000, lt12345, lt21450, lt32767, lt193050, lt1103515245, ltm162, ltm99, ltm81, ltm8, ltm1, iI_add, iI_sub, iI_mul, iI_neg, iI_divn, iI_lt_t, iI_lt_f, iI_le_t, iI_le_f, iI_eq_t, iI_eq_f, iI_lt, iI_le, iI_eq, iI_idx, iI_inb, gI_sI, gL_sL, gZ_sZ, gI_sL, gI_sZ, gL_sI, gL_sZ, gZ_sI, gZ_sL, Nat.reduceEqDiff, false_and, and_false, and_true, true_and, and_self, c0, w10] at hc) <;> (try (exfalso; omega)))
      | (with_reducible refine ok_some ?_)
      | (with_reducible refine ok_xr ?_)
      | (with_reducible refine ok_xl ?_)
      | (unfold F_T_blind)
      | (unfold F_T_oddsFromHere)
      | (unfold F_M_blind)
      | (unfold F_M_firstSide)
      | (unfold F_M_in)
      | (unfold F_M_throwsIf))
    all_goals exact ⟨ansL_l (by decide) rfl, ((h.thr thr_ss).up (by omega)).inv⟩
end HEREB
