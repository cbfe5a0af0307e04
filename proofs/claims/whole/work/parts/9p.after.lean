section AFTER
/-- ways behind a slot that comes next -/
def aftV (P : OP) (t : Mt) (s : Int) : Int × Int := slt P (four (P.n - (t.pl + 1)).toNat) (V P (P.n - (t.pl + 1)).toNat) t.pl (kdZ t.inn t.fol) (oo (spZ t)) (leadZ t (batZ t)) false s
theorem aftV_ok {P : OP} {t : Mt} {s : Int} : vOK (aftV P t s) (four (P.n - (t.pl + 1)).toNat) := by
  unfold aftV slt
  exact bh_ok (by have := four_pos (P.n - (t.pl + 1)).toNat; omega) (V_ok _)
theorem oo_sp {t : Mt} {n : Int} (mo : MtOk t n) (hw : t.win = -1) : oo (spZ t) = t.out := by
  have a := mo.on hw
  unfold spZ oo
  cases hf : t.fr
  · rw [if_neg (show ¬ false = true by decide), if_neg (by omega)]
  · rw [if_pos (show true = true from rfl), if_pos (show (10 : Int) = 10 from rfl), mo.fre hf]
theorem Tafter_ok {B : Nat} {law : Option (List (Int × List Int))} {n mg wd tx bc : Int} {t : Mt} {m : Mem} (h : IV B law n mg wd tx bc t m) (hB6 : B ≤ 1000000) {s : Int} (s0 : 0 ≤ s) (s4 : s < 4) (f0 : 0 ≤ t.fi) (hw : t.win = -1) : Ok (F_T_waysAfter (iI s) m) (fun v m' => v = pk (fb (kdZ t.inn t.fol)) (aftV (opOf (gI m 79) law n mg t.fi wd false) t s) ∧ IV (B + 1) law n mg wd tx bc t m' ∧ gI m' 79 = gI m 79 ∧ gI m' 2 4 = iI t.fi) := by
  obtain ⟨c0, c1, c2, c3, c4, c5, c6, c7, c8, c9, clg⟩ := h.cm
  obtain ⟨w9, w10, w11, w12, w13, w14, w15, w16, w17, w18, wlg⟩ := h.wm
  simp only [Nat.zero_add] at w9 w10 w11 w12 w13 w14 w15 w16 w17 w18 wlg
  have k_fi0 := h.mo.fi0
  have k_fi1 := h.mo.fi1
  have k_in0 := h.mo.in0
  have k_in3 := h.mo.in3
  have k_ou0 := h.mo.ou0
  have k_ou1 := h.mo.ou1
  have k_pl0 := h.mo.pl0
  have k_pl1 := h.mo.pl1
  have k_wi0 := h.mo.wi0
  have k_wi2 := h.mo.wi2
  have k_a0 := h.mo.a0
  have k_a1 := h.mo.a1
  have k_b0 := h.mo.b0
  have k_b1 := h.mo.b1
  have k_fo := h.mo.fo
  have k_no := h.mo.no
  have k_on := h.mo.on
  have k_pn := h.mo.pn
  have k_fre := h.mo.fre
  have k_n1 := h.gr.n1
  have k_n9 := h.gr.n9
  have k_cn := h.gr.cn
  have k_wn := h.gr.wn
  have k_cmg := h.gr.cmg
  have k_wmg := h.gr.wmg
  have k_mg0 := h.gr.mg0
  have k_mg9 := h.gr.mg9
  have hpnn := k_pn f0 hw
  obtain ⟨m1, mk, e1, hOB, hO, hI, f1⟩ := h.ready hB6 (f := t.fi) (dw := wd) false f0 k_fi1 h.gr.dw0 h.gr.dw9
  have hpn : (opOf (gI m 79) law n mg t.fi wd false).n = n := opOf_n _ _ _ _ _ _ _
  have g16 : ∀ j, gI m1 16 j = gI m 16 j ∧ gZ m1 16 j = gZ m 16 j := fun j => ⟨f1.gI (by simp) (by simp), f1.gZ (by simp) (by simp)⟩
  have hkr := (kdZ_eq (i := t.inn) (fo := t.fol) k_in0 k_in3).2.2.2
  have hk := kind_eq (t := t) (m := m1) ((g16 1).1.trans c1) ((g16 5).2.trans c5) k_in0 k_in3
  rw [show (if t.fol = true ∧ 2 ≤ t.inn then t.inn + 2 else t.inn) = kdZ t.inn t.fol from rfl] at hk
  have hld : -90 ≤ leadZ t t.fi ∧ leadZ t t.fi ≤ 90 := by unfold leadZ; split <;> omega
  unfold F_T_waysAfter
  rw [c0, h.gr.cdw, bnd_some e1, bnd_some hk, (g16 0).1, c0, bnd_some (Tlead_eq (t := t) ((g16 8).1.trans c8) ((g16 9).1.trans c9) f0 k_fi1), (g16 3).1, c3, (g16 2).1, c2]
  have hrc : RC law (opOf (gI m 79) law n mg t.fi wd false) mk m1 (F_Od_waysAt 40) (V (opOf (gI m 79) law n mg t.fi wd false) (n - (t.pl + 1)).toNat) (t.pl + 1) (200 + 9 * t.pl + 9) := by
    have := (at_od hOB (n - (t.pl + 1)).toNat (t.pl + 1) (by omega) (by rw [hpn]; omega)).2 40 (by omega)
    rw [show (200 + 9 * (t.pl + 1) : Int) = 200 + 9 * t.pl + 9 by omega] at this
    exact this
  refine ok_bnd (viaSlot_ok (ok_of (slot_od hOB hO false (p := t.pl) (k := kdZ t.inn t.fol) (o := t.out) (l := leadZ t t.fi) (s := s) k_pl0 (by rw [hpn]; exact hpnn) (show 200 + 9 * t.pl < 900 by omega) (by omega) (by omega) hkr.1 hkr.2 k_ou0 k_ou1 s0 s4 hrc) (fun v m2 hv => ok_some ⟨?_, hI m2 hv.2, (Fr_row hv.2.1.fr rfl rfl).trans (Fr_row f1 rfl rfl), ?_⟩)))
  · rw [hv.1]
    unfold aftV
    rw [hpn, sg_lead f0 k_fi1 k_in0 k_in3 k_fo, oo_sp h.mo hw]
  · exact (hv.2.1.I (by decide) (by decide) (by decide) (by decide)).trans hOB.hf
theorem Mafter_ok {law : Option (List (Int × List Int))} {n mg wd tx bc : Int} {t : Mt} {m : Mem} (hg : GR m 3 4 5 6 7 8 9 12 13 79 law n mg wd tx bc) (hw : WM m 79 0 t) (mo : MtOk t n) (f0 : 0 ≤ t.fi) (hwn : t.win = -1) (hb : gZ m 78 22 = false) {w : Nat → Int32} (hw79 : w = gI m 79) {s : Int} (s0 : 0 ≤ s) (s4 : s < 4) : Ok (F_M_countsAfter (iI s) m) (fun _ m' => GW m' (aftV (opOf w law n mg t.fi wd false) t s) ∧ gI m' 78 21 = iI wd ∧ Fr [85, 86, 87, 88] [(78, 20), (78, 21), (78, 23), (78, 24)] m m') := by
  suffices hh : Ok (F_M_countsAfter (iI s) m) (fun _ m' => GW m' (aftV (opOf w law n mg t.fi wd false) t s) ∧ gI m' 78 21 = iI wd) by
    obtain ⟨a, m', e1, e2⟩ := hh
    exact ⟨a, m', e1, e2.1, e2.2, fr_M_countsAfter _ _ _ _ e1⟩
  obtain ⟨w9, w10, w11, w12, w13, w14, w15, w16, w17, w18, wlg⟩ := hw
  simp only [Nat.zero_add] at w9 w10 w11 w12 w13 w14 w15 w16 w17 w18
  have k_fi1 := mo.fi1
  have k_in0 := mo.in0
  have k_in3 := mo.in3
  have k_fo := mo.fo
  have k_pl0 := mo.pl0
  have k_a0 := mo.a0
  have k_a1 := mo.a1
  have k_b0 := mo.b0
  have k_b1 := mo.b1
  have n9 := hg.n9
  have hpnn := mo.pn f0 hwn
  have hbr := batZ_rng f0 k_fi1
  have hsp := spZ_rng mo
  have hld : -81 ≤ leadZ t (batZ t) ∧ leadZ t (batZ t) ≤ 81 ∧ leadZ t (batZ t) ≤ 9 * t.pl ∧ -(9 * t.pl) ≤ leadZ t (batZ t) := by unfold leadZ; split <;> omega
  have q : ∀ j, gI (sI m 78 21 (iI wd)) 79 j = gI m 79 j := fun j => by rw [gI_sI, if_neg (fun q => absurd q.1 (by decide))]
  have hgs : GR (sI m 78 21 (iI wd)) 3 4 5 6 7 8 9 12 13 79 law n mg wd tx bc := GR_told hg (fun o ho j => by rw [gI_sI, if_neg (fun q => by have := q.1; omega)]) (fun j _ => q j)
  have hB := MB_of hgs (f := t.fi) (dw := wd) (bl := false) (w := w) f0 k_fi1 hg.dw0 hg.dw9 (by rw [gI_sI, if_pos ⟨rfl, rfl⟩]) hb (by rw [hw79]; funext j; exact (q j).symm)
  obtain ⟨mr, emr, mr0, mr9, -⟩ := mostRuns_ok (m := sI m 78 21 (iI wd)) (ro := 0) (uo := 0) hgs.slr
  obtain ⟨al, hal⟩ : ∃ al : Int, al = if leadZ t (batZ t) < 0 then -leadZ t (batZ t) else leadZ t (batZ t) := ⟨_, rfl⟩
  have hal2 : 0 ≤ al ∧ al ≤ 9 * t.pl ∧ -al ≤ leadZ t (batZ t) ∧ leadZ t (batZ t) ≤ al := by rw [hal]; split <;> omega
  obtain ⟨more, hmo, hla, emo⟩ := layers_ok hB (from' := t.pl + 1) (lead := al + mr) (by omega) (by rw [opOf_n]; omega) (by omega) (by omega) (by rw [opOf_n]; omega)
  have hmm : mr = more := by
    rw [emr] at emo
    have h1 := (Prod.mk.inj (Option.some.inj emo)).1
    have b0 := hmo.1
    have b9 := hmo.2.1
    rw [iI_eq (by omega) (by omega) (by omega) (by omega)] at h1
    exact h1
  obtain ⟨kk1, kk2, kk3, kk4, kk5⟩ := kdZ_eq (i := t.inn) (fo := t.fol) k_in0 k_in3
  unfold F_M_countsAfter F_M_played F_M_firstSide
  rw [bnd_e, w17, bnd_some (Mbatter_eq (t := t) w10 w11 w12 k_in0 k_in3), bnd_some (Mlead_eq (t := t) w15 w16 hbr.1 hbr.2), hg.wdw]
  refine ok_lt ?_
  rw [bnd_e, q 10, w10, bnd_some emr, abI_eq (by omega) (by omega), ← hal, iI_add, lt1, iI_add]
  refine ok_bnd (ok_of hla (fun _ m2 la => ?_))
  refine ok_bnd (ok_of (lays_ok hB la.1 (p := t.pl) k_pl0 (by omega)) (fun _ m3 hv => ?_))
  obtain ⟨lv3, f3⟩ := hv
  refine ok_lt (ok_lt ?_)
  have f34 : Fr [] [(78, 23), (78, 24)] m3 (sI (sI m3 78 23 0) 78 24 0) := Fr_sI rfl (Fr_sI rfl Fr_rf (by simp)) (by simp)
  have s3 : SameM (sI (sI m 78 21 (iI wd)) 78 20 (iI t.fi)) m3 := Fr_tr la.1 f3 (by simp) (by simp)
  have s4' := s3.tr f34
  have q4 : ∀ j, gI (sI (sI m3 78 23 0) 78 24 0) 79 j = gI m 79 j := fun j => (s4'.I (by simp) (by simp)).trans (by rw [gI_sI, if_neg (fun q => absurd q.1 (by decide)), q])
  rw [bnd_some (kindNow_eq (t := t) ((q4 11).trans w11) ((q4 12).trans w12) k_in0 k_in3), bnd_some (outNow_eq (t := t) ((q4 13).trans w13) ((q4 14).trans w14))]
  have hy : 0 < (n - (t.pl + 1)).toNat → LY (opOf w law n mg t.fi wd false) (sI (sI m3 78 23 0) 78 24 0) (t.pl + 1) (n - (t.pl + 1)).toNat (al + mr) := by
    intro hr0
    have := la.2.2 (t.pl + 1) (Or.inl rfl) (by rw [opOf_n]; omega)
    rw [opOf_n, Int.sub_self, Int.mul_zero, Int.add_zero] at this
    intro j o l a b c d e g
    rw [f34.gI (by simp) (by simp), f34.gI (by simp) (by simp), f3.gI (by simp) (by simp), f3.gI (by simp) (by simp)]
    exact this j o l a b c d e g
  refine ok_bnd (ok_of (brings_ok hB s4' (p := t.pl) (j := jdZ t.inn t.fol) (o := spZ t) (l := leadZ t (batZ t)) (s := s) (L := al + mr) (r := (n - (t.pl + 1)).toNat) (v := (0, 0)) (more := more) false (lv3.fr f34) k_pl0 (by rw [opOf_n]; omega) kk2 kk3 hsp.1 hsp.2 s0 s4 hy (by omega) (by omega) (hmo.hru false s0 s4) (by omega) ⟨rfl, rfl⟩) (fun _ m5 hv => ok_some ⟨?_, ?_⟩))
  · have e : ∀ v : Int × Int, pad (0, 0) v = v := by
      intro v
      show (0 + v.1, 0 + v.2) = v
      rw [Int.zero_add, Int.zero_add]
    have g5 := hv.1
    rw [e, kk1] at g5
    unfold aftV
    rw [opOf_n]
    exact g5
  · rw [hv.2.1.I (by simp) (by simp), gI_sI, if_neg (fun q => absurd q.2 (by decide)), gI_sI, if_pos ⟨rfl, rfl⟩]
theorem after_op {B : Nat} {law : Option (List (Int × List Int))} {n mg wd tx bc : Int} {t : Mt} {m : Mem} (h : IV B law n mg wd tx bc t m) (hB6 : B ≤ 1000000) (a c : Int32) : BothL (B + 1) (fun e => if e = 2 then 1 else if e = 0 then 2 else if e = 4 then 3 else 0) (F_T_after a c) (F_M_after_IIJ a c) m := by
  obtain ⟨s, rfl, s1, s2⟩ := iI_ex a
  obtain ⟨z, rfl, z1, z2⟩ := iI_ex c
  obtain ⟨c0, c1, c2, c3, c4, c5, c6, c7, c8, c9, clg⟩ := h.cm
  obtain ⟨w9, w10, w11, w12, w13, w14, w15, w16, w17, w18, wlg⟩ := h.wm
  simp only [Nat.zero_add] at w9 w10 w11 w12 w13 w14 w15 w16 w17 w18 wlg
  have k_fi0 := h.mo.fi0
  have k_fi1 := h.mo.fi1
  have k_in0 := h.mo.in0
  have k_in3 := h.mo.in3
  have k_ou0 := h.mo.ou0
  have k_ou1 := h.mo.ou1
  have k_pl0 := h.mo.pl0
  have k_pl1 := h.mo.pl1
  have k_wi0 := h.mo.wi0
  have k_wi2 := h.mo.wi2
  have k_a0 := h.mo.a0
  have k_a1 := h.mo.a1
  have k_b0 := h.mo.b0
  have k_b1 := h.mo.b1
  have k_fo := h.mo.fo
  have k_no := h.mo.no
  have k_on := h.mo.on
  have k_pn := h.mo.pn
  have k_fre := h.mo.fre
  have k_n1 := h.gr.n1
  have k_n9 := h.gr.n9
  have k_cn := h.gr.cn
  have k_wn := h.gr.wn
  have k_cmg := h.gr.cmg
  have k_wmg := h.gr.wmg
  have k_mg0 := h.gr.mg0
  have k_mg9 := h.gr.mg9
  unfold BothL
  have x1 := Ton_eq (t := t) (m := m) c0 c4 k_fi0 k_fi1 k_wi0 k_wi2
  by_cases hr : (0 ≤ s ∧ s < 4) ∧ (0 ≤ t.fi ∧ t.win = -1) ∧ 0 ≤ z ∧ z ≤ 3
  · obtain ⟨⟨s0, s4⟩, on, z0, z3⟩ := hr
    obtain ⟨f0, hw⟩ := id on
    have hpnn := k_pn f0 hw
    rw [decide_eq_true on] at x1
    obtain ⟨_, m1, e1, rfl, iv1, hw1, h24⟩ := Tafter_ok h hB6 s0 s4 f0 hw
    have hvo := aftV_ok (P := opOf (gI m 79) law n mg t.fi wd false) (t := t) (s := s)
    rw [opOf_n] at hvo
    have hal := four_le (n - (t.pl + 1)).toNat (by omega)
    have ep := part_eq (n := n) (q := t.pl + 1) (z := z) (f := t.fi) iv1.gr.cn h24 f0 k_fi1 k_n9 (by omega) (by omega) (fb (kdZ t.inn t.fol)) hvo hal z0 z3
    have ep' : F_Od_part (pk (fb (kdZ t.inn t.fol)) (aftV (opOf (gI m 79) law n mg t.fi wd false) t s)) (gI m1 16 3 + (1 : Int32)) (iI z) m1 = some (iL (askV (four (n - (t.pl + 1)).toNat) (sideV t (aftV (opOf (gI m 79) law n mg t.fi wd false) t s)) z), m1) := by
      rw [show gI m1 16 3 = iI t.pl from iv1.cm.2.2.2.1, lt1, iI_add, ep, askH (batZ_fb k_in0 k_in3 k_fo) f0 k_fi1 z0 z3]
    have iv1' := iv1.thr (thr_s (v := 0))
    obtain ⟨_, m2, e2, g2, -, f2⟩ := Mafter_ok iv1'.gr iv1'.wm iv1'.mo f0 hw iv1'.bli (w := gI m 79) (by rw [← hw1]; rfl) s0 s4
    have iv2 := Mscr iv1' (Fr_wk f2 (by simp) (by simp))
    have t2 : gI m2 78 0 = iI 0 := by rw [f2.gI (by simp) (by simp)]; rfl
    have hbr := batZ_rng f0 k_fi1
    obtain ⟨v9, v10, v11, v12, v13, v14, v15, v16, v17, v18, vlg⟩ := iv2.wm
    simp only [Nat.zero_add] at v9 v10 v11 v12 v13 v14 v15 v16 v17 v18
    have x2 := Mon_eq (t := t) (m := sI m1 78 0 0) iv1.wm.2.1 iv1.wm.2.2.2.2.2.2.2.2.2.1 k_fi0 k_fi1 k_wi0 k_wi2
    rw [decide_eq_true on] at x2
    have x4 := Mbatter_eq (t := t) (m := m2) v10 v11 v12 k_in0 k_in3
    have e7 := MwaysOf_eq (p := t.pl + 1) (z := z) (s := batZ t) iv2.gr.wn k_n9 (by omega) (by omega) g2 hvo z0 z3 hbr.1 hbr.2
    rw [show (if batZ t = 0 then aftV (opOf (gI m 79) law n mg t.fi wd false) t s else ((aftV (opOf (gI m 79) law n mg t.fi wd false) t s).2, (aftV (opOf (gI m 79) law n mg t.fi wd false) t s).1)) = sideV t (aftV (opOf (gI m 79) law n mg t.fi wd false) t s) from rfl] at e7
    have e7' : F_M_waysOf (iI z) (gI m2 79 17 + (1 : Int32)) (iI (batZ t)) m2 = some (iL (askV (four (n - (t.pl + 1)).toNat) (sideV t (aftV (opOf (gI m 79) law n mg t.fi wd false) t s)) z), m2) := by rw [v17, lt1, iI_add]; exact e7
    repeat' (first
      | (with_reducible refine ok_ck ?_ ?_; focus (simp (disch := omega) only [↓lt_def, ↓reduceIte, ckB_true, bnd_e, Int.reduceAdd, Int.reduceSub, Int.reduceMul, Int.reduceNeg, Int.reduceToNat, Bool.false_eq_true, eq_self, not_false_eq_true, not_true_eq_false, Int.toNat_natCast, lt0, lt1, lt2, lt3, lt4, lt5, lt6, lt7, lt8, lt9, lt10, lt11, lt12, lt13, lt14, lt15, lt16, lt17, lt18, lt19, lt20, lt21, lt22, lt23, lt24, lt25, lt26, lt27, lt28, lt29, lt30, lt31, lt32, lt40, lt41, lt43, lt48, lt55, lt57, lt59, lt60, lt62, lt63, lt64, lt70, lt72, lt81, lt97, lt99, lt100, lt122, lt162, lt180, lt235, lt255, lt298, lt299, lt325, lt335, lt400, lt837, lt999, lt1000, lt1001, lt1002, lt1003, lt1004, lt1005, lt1006, lt1007, lt1008, lt1100, lt1101, lt1102, lt1103, lt1104, lt1105, lt1135, lt1136, lt1172, lt2000, lt3278, lt3575, lt10000, lt12345, lt21450, lt32767, lt193050, lt1103515245, ltm162, ltm99, ltm81, ltm8, ltm1, iI_add, iI_sub, iI_mul, iI_neg, iI_divn, iI_lt_t, iI_lt_f, iI_le_t, iI_le_f, iI_eq_t, iI_eq_f, iI_lt, iI_le, iI_eq, iI_idx, iI_inb, gI_sI, gL_sL, gZ_sZ, gI_sL, gI_sZ, gL_sI, gL_sZ, gZ_sI, gZ_sL, Nat.reduceEqDiff, false_and, and_false, and_true, true_and, and_self]; done))
      | (with_reducible refine ok_bnd_e (x1) ?_)
      | (with_reducible refine ok_bnd_e (x2) ?_)
      | (with_reducible refine ok_bnd_e (e1) ?_)
      | (with_reducible refine ok_bnd_e (ep') ?_)
      | (with_reducible refine ok_bnd_e (e2) ?_)
      | (with_reducible refine ok_bnd_e (x4) ?_)
      | (with_reducible refine ok_bnd_e (e7') ?_)
      | (with_reducible refine ok_bnd ?_)
      | (with_reducible refine ok_bndX ?_)
      | (with_reducible refine ok_lt ?_)
      | (with_reducible refine ok_t ?_ ?_; focus (simp (disch := omega) only [↓lt_def, ↓reduceIte, ckB_true, bnd_e, Int.reduceAdd, Int.reduceSub, Int.reduceMul, Int.reduceNeg, Int.reduceToNat, Bool.false_eq_true, eq_self, not_false_eq_true, not_true_eq_false, Int.toNat_natCast, lt0, lt1, lt2, lt3, lt4, lt5, lt6, lt7, lt8, lt9, lt10, lt11, lt12, lt13, lt14, lt15, lt16, lt17, lt18, lt19, lt20, lt21, lt22, lt23, lt24, lt25, lt26, lt27, lt28, lt29, lt30, lt31, lt32, lt40, lt41, lt43, lt48, lt55, lt57, lt59, lt60, lt62, lt63, lt64, lt70, lt72, lt81, lt97, lt99, lt100, lt122, lt162, lt180, lt235, lt255, lt298, lt299, lt325, lt335, lt400, lt837, lt999, lt1000, lt1001, lt1002, lt1003, lt1004, lt1005, lt1006, lt1007, lt1008, lt1100, lt1101, lt1102, lt1103, lt1104, lt1105, lt1135, lt1136, lt1172, lt2000, lt3278, lt3575, lt10000, lt12345, lt21450, lt32767, lt193050, lt1103515245, ltm162, ltm99, ltm81, ltm8, ltm1, iI_add, iI_sub, iI_mul, iI_neg, iI_divn, iI_lt_t, iI_lt_f, iI_le_t, iI_le_f, iI_eq_t, iI_eq_f, iI_lt, iI_le, iI_eq, iI_idx, iI_inb, gI_sI, gL_sL, gZ_sZ, gI_sL, gI_sZ, gL_sI, gL_sZ, gZ_sI, gZ_sL, Nat.reduceEqDiff, false_and, and_false, and_true, true_and, and_self]; done))
      | (with_reducible refine ok_f ?_ ?_; focus (simp (disch := omega) only [↓lt_def, ↓reduceIte, ckB_true, bnd_e, Int.reduceAdd, Int.reduceSub, Int.reduceMul, Int.reduceNeg, Int.reduceToNat, Bool.false_eq_true, eq_self, not_false_eq_true, not_true_eq_false, Int.toNat_natCast, lt0, lt1, lt2, lt3, lt4, lt5, lt6, lt7, lt8, lt9, lt10, lt11, lt12, lt13, lt14, lt15, lt16, lt17, lt18, lt19, lt20, lt21, lt22, lt23, lt24, lt25, lt26, lt27, lt28, lt29, lt30, lt31, lt32, lt40, lt41, lt43, lt48, lt55, lt57, lt59, lt60, lt62, lt63, lt64, lt70, lt72, lt81, lt97, lt99, lt100, lt122, lt162, lt180, lt235, lt255, lt298, lt299, lt325, lt335, lt400, lt837, lt999, lt1000, lt1001, lt1002, lt1003, lt1004, lt1005, lt1006, lt1007, lt1008, lt1100, lt1101, lt1102, lt1103, lt1104, lt1105, lt1135, lt1136, lt1172, lt2000, lt3278, lt3575, lt10000, lt12345, lt21450, lt32767, lt193050, lt1103515245, ltm162, ltm99, ltm81, ltm8, ltm1, iI_add, iI_sub, iI_mul, iI_neg, iI_divn, iI_lt_t, iI_lt_f, iI_le_t, iI_le_f, iI_eq_t, iI_eq_f, iI_lt, iI_le, iI_eq, iI_idx, iI_inb, gI_sI, gL_sL, gZ_sZ, gI_sL, gI_sZ, gL_sI, gL_sZ, gZ_sI, gZ_sL, Nat.reduceEqDiff, false_and, and_false, and_true, true_and, and_self]; done))
      | ((with_reducible refine ok_ite (fun hc => ?_) (fun hc => ?_)) <;> (try simp (disch := omega) only [↓lt_def, ↓reduceIte, ckB_true, bnd_e, Int.reduceAdd, Int.reduceSub, Int.reduceMul, Int.reduceNeg, Int.reduceToNat, Bool.false_eq_true, eq_self, not_false_eq_true, not_true_eq_false, Int.toNat_natCast, lt0, lt1, lt2, lt3, lt4, lt5, lt6, lt7, lt8, lt9, lt10, lt11, lt12, lt13, lt14, lt15, lt16, lt17, lt18, lt19, lt20, lt21, lt22, lt23, lt24, lt25, lt26, lt27, lt28, lt29, lt30, lt31, lt32, lt40, lt41, lt43, lt48, lt55, lt57, lt59, lt60, lt62, lt63, lt64, lt70, lt72, lt81, lt97, lt99, lt100, lt122, lt162, lt180, lt235, lt255, lt298, lt299, lt325, lt335, lt400, lt837, lt999, lt1000, lt1001, lt1002, lt1003, lt1004, lt1005, lt1006, lt1007, lt1008, lt1100, lt1101, lt1102, lt1103, lt1104, lt1105, lt1135, lt1136, lt1172, lt2000, lt3278, lt3575, lt10000, lt12345, lt21450, lt32767, lt193050, lt1103515245, ltm162, ltm99, ltm81, ltm8, ltm1, iI_add, iI_sub, iI_mul, iI_neg, iI_divn, iI_lt_t, iI_lt_f, iI_le_t, iI_le_f, iI_eq_t, iI_eq_f, iI_lt, iI_le, iI_eq, iI_idx, iI_inb, gI_sI, gL_sL, gZ_sZ, gI_sL, gI_sZ, gL_sI, gL_sZ, gZ_sI, gZ_sL, Nat.reduceEqDiff, false_and, and_false, and_true, true_and, and_self] at hc) <;> (try (exfalso; omega)))
      | (with_reducible refine ok_some ?_)
      | (with_reducible refine ok_xr ?_)
      | (with_reducible refine ok_xl ?_)
      | (unfold F_T_after)
      | (unfold F_T_mustBeBelow)
      | (unfold F_T_mustBeOn)
      | (unfold F_M_after_IIJ)
      | (unfold F_M_noSlot)
      | (unfold F_M_played)
      | (unfold F_M_in)
      | (unfold F_M_throwsIf))
    exact ⟨⟨t2, rfl⟩, iv2.inv⟩
  · have x2 := Mon_eq (t := t) (m := sI m 78 0 0) w10 w18 k_fi0 k_fi1 k_wi0 k_wi2
    by_cases on : 0 ≤ t.fi ∧ t.win = -1
    · rw [decide_eq_true on] at x1 x2
      repeat' (first
        | (with_reducible refine ok_ck ?_ ?_; focus (simp (disch := omega) only [↓lt_def, ↓reduceIte, ckB_true, bnd_e, Int.reduceAdd, Int.reduceSub, Int.reduceMul, Int.reduceNeg, Int.reduceToNat, Bool.false_eq_true, eq_self, not_false_eq_true, not_true_eq_false, Int.toNat_natCast, lt0, lt1, lt2, lt3, lt4, lt5, lt6, lt7, lt8, lt9, lt10, lt11, lt12, lt13, lt14, lt15, lt16, lt17, lt18, lt19, lt20, lt21, lt22, lt23, lt24, lt25, lt26, lt27, lt28, lt29, lt30, lt31, lt32, lt40, lt41, lt43, lt48, lt55, lt57, lt59, lt60, lt62, lt63, lt64, lt70, lt72, lt81, lt97, lt99, lt100, lt122, lt162, lt180, lt235, lt255, lt298, lt299, lt325, lt335, lt400, lt837, lt999, lt1000, lt1001, lt1002, lt1003, lt1004, lt1005, lt1006, lt1007, lt1008, lt1100, lt1101, lt1102, lt1103, lt1104, lt1105, lt1135, lt1136, lt1172, lt2000, lt3278, lt3575, lt10000, lt12345, lt21450, lt32767, lt193050, lt1103515245, ltm162, ltm99, ltm81, ltm8, ltm1, iI_add, iI_sub, iI_mul, iI_neg, iI_divn, iI_lt_t, iI_lt_f, iI_le_t, iI_le_f, iI_eq_t, iI_eq_f, iI_lt, iI_le, iI_eq, iI_idx, iI_inb, gI_sI, gL_sL, gZ_sZ, gI_sL, gI_sZ, gL_sI, gL_sZ, gZ_sI, gZ_sL, Nat.reduceEqDiff, false_and, and_false, and_true, true_and, and_self]; done))
        | (with_reducible refine ok_bnd_e (x1) ?_)
        | (with_reducible refine ok_bnd_e (x2) ?_)
        | (with_reducible refine ok_bnd ?_)
        | (with_reducible refine ok_bndX ?_)
        | (with_reducible refine ok_lt ?_)
        | (with_reducible refine ok_t ?_ ?_; focus (simp (disch := omega) only [↓lt_def, ↓reduceIte, ckB_true, bnd_e, Int.reduceAdd, Int.reduceSub, Int.reduceMul, Int.reduceNeg, Int.reduceToNat, Bool.false_eq_true, eq_self, not_false_eq_true, not_true_eq_false, Int.toNat_natCast, lt0, lt1, lt2, lt3, lt4, lt5, lt6, lt7, lt8, lt9, lt10, lt11, lt12, lt13, lt14, lt15, lt16, lt17, lt18, lt19, lt20, lt21, lt22, lt23, lt24, lt25, lt26, lt27, lt28, lt29, lt30, lt31, lt32, lt40, lt41, lt43, lt48, lt55, lt57, lt59, lt60, lt62, lt63, lt64, lt70, lt72, lt81, lt97, lt99, lt100, lt122, lt162, lt180, lt235, lt255, lt298, lt299, lt325, lt335, lt400, lt837, lt999, lt1000, lt1001, lt1002, lt1003, lt1004, lt1005, lt1006, lt1007, lt1008, lt1100, lt1101, lt1102, lt1103, lt1104, lt1105, lt1135, lt1136, lt1172, lt2000, lt3278, lt3575, lt10000, lt12345, lt21450, lt32767, lt193050, lt1103515245, ltm162, ltm99, ltm81, ltm8, ltm1, iI_add, iI_sub, iI_mul, iI_neg, iI_divn, iI_lt_t, iI_lt_f, iI_le_t, iI_le_f, iI_eq_t, iI_eq_f, iI_lt, iI_le, iI_eq, iI_idx, iI_inb, gI_sI, gL_sL, gZ_sZ, gI_sL, gI_sZ, gL_sI, gL_sZ, gZ_sI, gZ_sL, Nat.reduceEqDiff, false_and, and_false, and_true, true_and, and_self]; done))
        | (with_reducible refine ok_f ?_ ?_; focus (simp (disch := omega) only [↓lt_def, ↓reduceIte, ckB_true, bnd_e, Int.reduceAdd, Int.reduceSub, Int.reduceMul, Int.reduceNeg, Int.reduceToNat, Bool.false_eq_true, eq_self, not_false_eq_true, not_true_eq_false, Int.toNat_natCast, lt0, lt1, lt2, lt3, lt4, lt5, lt6, lt7, lt8, lt9, lt10, lt11, lt12, lt13, lt14, lt15, lt16, lt17, lt18, lt19, lt20, lt21, lt22, lt23, lt24, lt25, lt26, lt27, lt28, lt29, lt30, lt31, lt32, lt40, lt41, lt43, lt48, lt55, lt57, lt59, lt60, lt62, lt63, lt64, lt70, lt72, lt81, lt97, lt99, lt100, lt122, lt162, lt180, lt235, lt255, lt298, lt299, lt325, lt335, lt400, lt837, lt999, lt1000, lt1001, lt1002, lt1003, lt1004, lt1005, lt1006, lt1007, lt1008, lt1100, lt1101, lt1102, lt1103, lt1104, lt1105, lt1135, lt1136, lt1172, lt2000, lt3278, lt3575, lt10000, lt12345, lt21450, lt32767, lt193050, lt1103515245, ltm162, ltm99, ltm81, ltm8, ltm1, iI_add, iI_sub, iI_mul, iI_neg, iI_divn, iI_lt_t, iI_lt_f, iI_le_t, iI_le_f, iI_eq_t, iI_eq_f, iI_lt, iI_le, iI_eq, iI_idx, iI_inb, gI_sI, gL_sL, gZ_sZ, gI_sL, gI_sZ, gL_sI, gL_sZ, gZ_sI, gZ_sL, Nat.reduceEqDiff, false_and, and_false, and_true, true_and, and_self]; done))
        | ((with_reducible refine ok_ite (fun hc => ?_) (fun hc => ?_)) <;> (try simp (disch := omega) only [↓lt_def, ↓reduceIte, ckB_true, bnd_e, Int.reduceAdd, Int.reduceSub, Int.reduceMul, Int.reduceNeg, Int.reduceToNat, Bool.false_eq_true, eq_self, not_false_eq_true, not_true_eq_false, Int.toNat_natCast, lt0, lt1, lt2, lt3, lt4, lt5, lt6, lt7, lt8, lt9, lt10, lt11, lt12, lt13, lt14, lt15, lt16, lt17, lt18, lt19, lt20, lt21, lt22, lt23, lt24, lt25, lt26, lt27, lt28, lt29, lt30, lt31, lt32, lt40, lt41, lt43, lt48, lt55, lt57, lt59, lt60, lt62, lt63, lt64, lt70, lt72, lt81, lt97, lt99, lt100, lt122, lt162, lt180, lt235, lt255, lt298, lt299, lt325, lt335, lt400, lt837, lt999, lt1000, lt1001, lt1002, lt1003, lt1004, lt1005, lt1006, lt1007, lt1008, lt1100, lt1101, lt1102, lt1103, lt1104, lt1105, lt1135, lt1136, lt1172, lt2000, lt3278, lt3575, lt10000, lt12345, lt21450, lt32767, lt193050, lt1103515245, ltm162, ltm99, ltm81, ltm8, ltm1, iI_add, iI_sub, iI_mul, iI_neg, iI_divn, iI_lt_t, iI_lt_f, iI_le_t, iI_le_f, iI_eq_t, iI_eq_f, iI_lt, iI_le, iI_eq, iI_idx, iI_inb, gI_sI, gL_sL, gZ_sZ, gI_sL, gI_sZ, gL_sI, gL_sZ, gZ_sI, gZ_sL, Nat.reduceEqDiff, false_and, and_false, and_true, true_and, and_self] at hc) <;> (try (exfalso; omega)))
        | (with_reducible refine ok_some ?_)
        | (with_reducible refine ok_xr ?_)
        | (with_reducible refine ok_xl ?_)
        | (unfold F_T_after)
        | (unfold F_T_mustBeBelow)
        | (unfold F_T_mustBeOn)
        | (unfold F_M_after_IIJ)
        | (unfold F_M_noSlot)
        | (unfold F_M_in)
        | (unfold F_M_throwsIf))
      all_goals exact ⟨ansL_l (by decide) rfl, ((h.thr thr_ss).up (by omega)).inv⟩
    · rw [decide_eq_false on] at x1 x2
      repeat' (first
        | (with_reducible refine ok_ck ?_ ?_; focus (simp (disch := omega) only [↓lt_def, ↓reduceIte, ckB_true, bnd_e, Int.reduceAdd, Int.reduceSub, Int.reduceMul, Int.reduceNeg, Int.reduceToNat, Bool.false_eq_true, eq_self, not_false_eq_true, not_true_eq_false, Int.toNat_natCast, lt0, lt1, lt2, lt3, lt4, lt5, lt6, lt7, lt8, lt9, lt10, lt11, lt12, lt13, lt14, lt15, lt16, lt17, lt18, lt19, lt20, lt21, lt22, lt23, lt24, lt25, lt26, lt27, lt28, lt29, lt30, lt31, lt32, lt40, lt41, lt43, lt48, lt55, lt57, lt59, lt60, lt62, lt63, lt64, lt70, lt72, lt81, lt97, lt99, lt100, lt122, lt162, lt180, lt235, lt255, lt298, lt299, lt325, lt335, lt400, lt837, lt999, lt1000, lt1001, lt1002, lt1003, lt1004, lt1005, lt1006, lt1007, lt1008, lt1100, lt1101, lt1102, lt1103, lt1104, lt1105, lt1135, lt1136, lt1172, lt2000, lt3278, lt3575, lt10000, lt12345, lt21450, lt32767, lt193050, lt1103515245, ltm162, ltm99, ltm81, ltm8, ltm1, iI_add, iI_sub, iI_mul, iI_neg, iI_divn, iI_lt_t, iI_lt_f, iI_le_t, iI_le_f, iI_eq_t, iI_eq_f, iI_lt, iI_le, iI_eq, iI_idx, iI_inb, gI_sI, gL_sL, gZ_sZ, gI_sL, gI_sZ, gL_sI, gL_sZ, gZ_sI, gZ_sL, Nat.reduceEqDiff, false_and, and_false, and_true, true_and, and_self]; done))
        | (with_reducible refine ok_bnd_e (x1) ?_)
        | (with_reducible refine ok_bnd_e (x2) ?_)
        | (with_reducible refine ok_bnd ?_)
        | (with_reducible refine ok_bndX ?_)
        | (with_reducible refine ok_lt ?_)
        | (with_reducible refine ok_t ?_ ?_; focus (simp (disch := omega) only [↓lt_def, ↓reduceIte, ckB_true, bnd_e, Int.reduceAdd, Int.reduceSub, Int.reduceMul, Int.reduceNeg, Int.reduceToNat, Bool.false_eq_true, eq_self, not_false_eq_true, not_true_eq_false, Int.toNat_natCast, lt0, lt1, lt2, lt3, lt4, lt5, lt6, lt7, lt8, lt9, lt10, lt11, lt12, lt13, lt14, lt15, lt16, lt17, lt18, lt19, lt20, lt21, lt22, lt23, lt24, lt25, lt26, lt27, lt28, lt29, lt30, lt31, lt32, lt40, lt41, lt43, lt48, lt55, lt57, lt59, lt60, lt62, lt63, lt64, lt70, lt72, lt81, lt97, lt99, lt100, lt122, lt162, lt180, lt235, lt255, lt298, lt299, lt325, lt335, lt400, lt837, lt999, lt1000, lt1001, lt1002, lt1003, lt1004, lt1005, lt1006, lt1007, lt1008, lt1100, lt1101, lt1102, lt1103, lt1104, lt1105, lt1135, lt1136, lt1172, lt2000, lt3278, lt3575, lt10000, lt12345, lt21450, lt32767, lt193050, lt1103515245, ltm162, ltm99, ltm81, ltm8, ltm1, iI_add, iI_sub, iI_mul, iI_neg, iI_divn, iI_lt_t, iI_lt_f, iI_le_t, iI_le_f, iI_eq_t, iI_eq_f, iI_lt, iI_le, iI_eq, iI_idx, iI_inb, gI_sI, gL_sL, gZ_sZ, gI_sL, gI_sZ, gL_sI, gL_sZ, gZ_sI, gZ_sL, Nat.reduceEqDiff, false_and, and_false, and_true, true_and, and_self]; done))
        | (with_reducible refine ok_f ?_ ?_; focus (simp (disch := omega) only [↓lt_def, ↓reduceIte, ckB_true, bnd_e, Int.reduceAdd, Int.reduceSub, Int.reduceMul, Int.reduceNeg, Int.reduceToNat, Bool.false_eq_true, eq_self, not_false_eq_true, not_true_eq_false, Int.toNat_natCast, lt0, lt1, lt2, lt3, lt4, lt5, lt6, lt7, lt8, lt9, lt10, lt11, lt12, lt13, lt14, lt15, lt16, lt17, lt18, lt19, lt20, lt21, lt22, lt23, lt24, lt25, lt26, lt27, lt28, lt29, lt30, lt31, lt32, lt40, lt41, lt43, lt48, lt55, lt57, lt59, lt60, lt62, lt63, lt64, lt70, lt72, lt81, lt97, lt99, lt100, lt122, lt162, lt180, lt235, lt255, lt298, lt299, lt325, lt335, lt400, lt837, lt999, lt1000, lt1001, lt1002, lt1003, lt1004, lt1005, lt1006, lt1007, lt1008, lt1100, lt1101, lt1102, lt1103, lt1104, lt1105, lt1135, lt1136, lt1172, lt2000, lt3278, lt3575, lt10000, lt12345, lt21450, lt32767, lt193050, lt1103515245, ltm162, ltm99, ltm81, ltm8, ltm1, iI_add, iI_sub, iI_mul, iI_neg, iI_divn, iI_lt_t, iI_lt_f, iI_le_t, iI_le_f, iI_eq_t, iI_eq_f, iI_lt, iI_le, iI_eq, iI_idx, iI_inb, gI_sI, gL_sL, gZ_sZ, gI_sL, gI_sZ, gL_sI, gL_sZ, gZ_sI, gZ_sL, Nat.reduceEqDiff, false_and, and_false, and_true, true_and, and_self]; done))
        | ((with_reducible refine ok_ite (fun hc => ?_) (fun hc => ?_)) <;> (try simp (disch := omega) only [↓lt_def, ↓reduceIte, ckB_true, bnd_e, Int.reduceAdd, Int.reduceSub, Int.reduceMul, Int.reduceNeg, Int.reduceToNat, Bool.false_eq_true, eq_self, not_false_eq_true, not_true_eq_false, Int.toNat_natCast, lt0, lt1, lt2, lt3, lt4, lt5, lt6, lt7, lt8, lt9, lt10, lt11, lt12, lt13, lt14, lt15, lt16, lt17, lt18, lt19, lt20, lt21, lt22, lt23, lt24, lt25, lt26, lt27, lt28, lt29, lt30, lt31, lt32, lt40, lt41, lt43, lt48, lt55, lt57, lt59, lt60, lt62, lt63, lt64, lt70, lt72, lt81, lt97, lt99, lt100, lt122, lt162, lt180, lt235, lt255, lt298, lt299, lt325, lt335, lt400, lt837, lt999, lt1000, lt1001, lt1002, lt1003, lt1004, lt1005, lt1006, lt1007, lt1008, lt1100, lt1101, lt1102, lt1103, lt1104, lt1105, lt1135, lt1136, lt1172, lt2000, lt3278, lt3575, lt10000, lt12345, lt21450, lt32767, lt193050, lt1103515245, ltm162, ltm99, ltm81, ltm8, ltm1, iI_add, iI_sub, iI_mul, iI_neg, iI_divn, iI_lt_t, iI_lt_f, iI_le_t, iI_le_f, iI_eq_t, iI_eq_f, iI_lt, iI_le, iI_eq, iI_idx, iI_inb, gI_sI, gL_sL, gZ_sZ, gI_sL, gI_sZ, gL_sI, gL_sZ, gZ_sI, gZ_sL, Nat.reduceEqDiff, false_and, and_false, and_true, true_and, and_self] at hc) <;> (try (exfalso; omega)))
        | (with_reducible refine ok_some ?_)
        | (with_reducible refine ok_xr ?_)
        | (with_reducible refine ok_xl ?_)
        | (unfold F_T_after)
        | (unfold F_T_mustBeBelow)
        | (unfold F_T_mustBeOn)
        | (unfold F_M_after_IIJ)
        | (unfold F_M_noSlot)
        | (unfold F_M_in)
        | (unfold F_M_throwsIf))
      all_goals exact ⟨ansL_l (by decide) rfl, ((h.thr thr_ss).up (by omega)).inv⟩
end AFTER
