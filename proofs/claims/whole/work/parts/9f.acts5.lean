section ACTSE
theorem IV.reb {B : Nat} {law : Option (List (Int × List Int))} {n mg wd tx bc : Int} {t t' : Mt} {m m' : Mem} (h : IV B law n mg wd tx bc t m) (hf : Fr [10, 11, 16, 17, 20, 79, 85] [(78, 0), (78, 6)] m m') (hg : GrEq (gI m' 79) (gI m 79)) (hc : CM m' 16 t') (hw : WM m' 79 0 t') (mo : MtOk t' n) (hp : PastR m' n) : IV B law n mg wd tx bc t' m' := by
  have hk : ∀ o, [10, 11, 16, 17, 20, 79, 85].contains o = false → o ≠ 78 → ∀ j, gI m' o j = gI m o j ∧ gL m' o j = gL m o j ∧ gZ m' o j = gZ m o j := by
    intro o a c j
    rw [List.contains_eq_mem, decide_eq_false_iff_not] at a
    exact hf o j a (by simp; omega)
  have h78 : ∀ j, j ≠ 0 → j ≠ 6 → gI m' 78 j = gI m 78 j ∧ gZ m' 78 j = gZ m 78 j := by
    intro j a b
    have h2 := hf 78 j (by simp) (by simp; omega)
    exact ⟨h2.1, h2.2.2⟩
  refine IV.mk ⟨?_, ?_, ?_, ?_, ?_, ?_, hc, hw, mo, hp, ?_⟩
  · obtain ⟨k, k1, k2, k3, k4⟩ := h.tp
    refine ⟨k, k1, (hk 0 rfl (by decide) 1).1.trans k2, (h78 8 (by decide) (by decide)).1.trans k3, fun i hi => ?_⟩
    rw [(hk 1 rfl (by decide) i).1, (hk 83 rfl (by decide) i).1]
    exact k4 i hi
  · rw [(hk 0 rfl (by decide) 2).1, (h78 13 (by decide) (by decide)).1]
    exact h.fa
  · rw [(h78 22 (by decide) (by decide)).2]
    exact h.bli
  · refine h.im.cg (hk 0 rfl (by decide) 13).2.2 (h78 5 (by decide) (by decide)).2 (fun o ho j => ?_)
    have h1 := hk o (by rw [List.contains_eq_mem, decide_eq_false_iff_not]; simp only [List.mem_cons, List.not_mem_nil, or_false]; omega) (by omega) j
    exact ⟨h1.1, h1.2.2⟩
  · exact h.gr.cg (fun j _ => (hk 3 rfl (by decide) j).1) (fun j _ => (hk 4 rfl (by decide) j).1) (fun j _ => (hk 5 rfl (by decide) j).1) (fun j _ => (hk 6 rfl (by decide) j).1) (fun j _ => (hk 7 rfl (by decide) j).1) (fun j => (hk 8 rfl (by decide) j).1) (fun j _ => (hk 9 rfl (by decide) j).1) (hk 12 rfl (by decide) 0).1 (fun j _ => (hk 13 rfl (by decide) j).1) (fun j hj hj2 => hg j (by omega))
  · exact h.lv.cg2 (fun j => (hk 14 rfl (by decide) j).1) (hg 6 (by omega)) (hg 7 (by omega)) (fun j a b => hg j (by omega))
  · exact h.od.cg h.gr.la.okl hg (fun j => (hk 15 rfl (by decide) j).2.1) (fun j => hk 2 rfl (by decide) j)
theorem seed_op {B : Nat} {law : Option (List (Int × List Int))} {n mg wd tx bc : Int} {t : Mt} {m : Mem} (h : IV B law n mg wd tx bc t m) (a : Int32) : Ok (F_T_seed a m) (fun rT m1 => Ok (F_M_seed a m1) (fun rM m2 => rT = rM ∧ Inv B m2)) := by
  obtain ⟨c0, c1, c2, c3, c4, c5, c6, c7, c8, c9, clg⟩ := h.cm
  obtain ⟨w9, w10, w11, w12, w13, w14, w15, w16, w17, w18, wlg⟩ := h.wm
  simp only [Nat.zero_add] at w9 w10 w11 w12 w13 w14 w15 w16 w17 w18 wlg
  have k_fi0 := h.mo.fi0
  have k_fi1 := h.mo.fi1
  have k_in0 := h.mo.in0
  have k_in3 := h.mo.in3
  have k_ou0 := h.mo.ou0
  have k_ou1 := h.mo.ou1
  have k_pl0 := h.mo.pl0
  have k_pl1 := h.mo.pl1
  have k_wi0 := h.mo.wi0
  have k_wi2 := h.mo.wi2
  have k_a0 := h.mo.a0
  have k_a1 := h.mo.a1
  have k_b0 := h.mo.b0
  have k_b1 := h.mo.b1
  have k_fo := h.mo.fo
  have k_no := h.mo.no
  have k_on := h.mo.on
  have k_pn := h.mo.pn
  have k_fre := h.mo.fre
  have k_n1 := h.gr.n1
  have k_n9 := h.gr.n9
  have k_cn := h.gr.cn
  have k_wn := h.gr.wn
  have k_cmg := h.gr.cmg
  have k_wmg := h.gr.wmg
  have k_mg0 := h.gr.mg0
  have k_mg9 := h.gr.mg9
  unfold F_T_seed F_M_seed
  refine ok_lt (ok_lt (ok_some (ok_lt (ok_lt (ok_lt (ok_some ⟨?_, ?_⟩))))))
  · rw [c7, gI_sI, if_neg (fun q => absurd q.1 (by decide)), gI_sI, if_neg (fun q => absurd q.1 (by decide)), w9]
  · have hq : ∀ j, j ≠ 9 → gI (sI (sI (sI m 16 7 a) 78 0 0) 79 9 a) 79 j = gI m 79 j := by
      intro j hj
      rw [gI_sI, if_neg (fun q => hj q.2), gI_sI, if_neg (fun q => absurd q.1 (by decide)), gI_sI, if_neg (fun q => absurd q.1 (by decide))]
    have hc : ∀ j, j ≠ 7 → gI (sI (sI (sI m 16 7 a) 78 0 0) 79 9 a) 16 j = gI m 16 j := by
      intro j hj
      rw [gI_sI, if_neg (fun q => absurd q.1 (by decide)), gI_sI, if_neg (fun q => absurd q.1 (by decide)), gI_sI, if_neg (fun q => hj q.2)]
    have hf : Fr [10, 11, 16, 17, 20, 79, 85] [(78, 0), (78, 6)] m (sI (sI (sI m 16 7 a) 78 0 0) 79 9 a) := Fr_sI rfl (Fr_sI rfl (Fr_sI rfl Fr_rf (by simp)) (by simp)) (by simp)
    refine (h.reb (t' := sdX t a) hf (fun j hj => hq j (by omega)) ?_ ?_ (sdX_ok a h.mo) (h.pa.cg (fun j => ?_) ?_ (fun o p q j => ?_) (fun j => ?_) (fun j hj => hq j (by omega)))).inv
    · refine ⟨(hc 0 (by decide)).trans c0, (hc 1 (by decide)).trans c1, (hc 2 (by decide)).trans c2, (hc 3 (by decide)).trans c3, (hc 4 (by decide)).trans c4, c5, c6, ?_, (hc 8 (by decide)).trans c8, (hc 9 (by decide)).trans c9, fun j hj => ?_⟩
      · rw [gI_sI, if_neg (fun q => absurd q.1 (by decide)), gI_sI, if_neg (fun q => absurd q.1 (by decide)), gI_sI, if_pos ⟨rfl, rfl⟩]; rfl
      · rw [gI_sI, if_neg (fun q => absurd q.1 (by decide)), gI_sI, if_neg (fun q => absurd q.1 (by decide)), gI_sI, if_neg (fun q => absurd q.1 (by decide))]
        exact clg j hj
    · refine ⟨?_, (hq 10 (by decide)).trans w10, (hq 11 (by decide)).trans w11, (hq 12 (by decide)).trans w12, (hq 13 (by decide)).trans w13, (hq 14 (by decide)).trans w14, (hq 15 (by decide)).trans w15, (hq 16 (by decide)).trans w16, (hq 17 (by decide)).trans w17, (hq 18 (by decide)).trans w18, fun j hj => ?_⟩
      · rw [gI_sI, if_pos ⟨rfl, rfl⟩]; rfl
      · rw [Nat.zero_add, hq _ (by omega)]
        exact wlg j hj
    · rw [gI_sI, if_neg (fun q => absurd q.1 (by decide)), gI_sI, if_neg (fun q => absurd q.1 (by decide)), gI_sI, if_neg (fun q => absurd q.1 (by decide))]
    · rw [gI_sI, if_neg (fun q => absurd q.1 (by decide)), gI_sI, if_neg (fun q => absurd q.2 (by decide)), gI_sI, if_neg (fun q => absurd q.1 (by decide))]
    · refine ⟨?_, rfl⟩
      rw [gI_sI, if_neg (fun r => by have := r.1; omega), gI_sI, if_neg (fun r => by have := r.1; omega), gI_sI, if_neg (fun r => by have := r.1; omega)]
    · rw [gI_sI, if_neg (fun q => absurd q.1 (by decide)), gI_sI, if_neg (fun q => absurd q.1 (by decide)), gI_sI, if_neg (fun q => absurd q.1 (by decide))]
theorem undo_op {B : Nat} {law : Option (List (Int × List Int))} {n mg wd tx bc : Int} {t : Mt} {m : Mem} (h : IV B law n mg wd tx bc t m) : Ok (F_T_undo m) (fun rT m1 => Ok (F_M_undo m1) (fun rM m2 => rT = rM ∧ Inv B m2)) := by
  obtain ⟨s, nx, s12, n12, p1, p2, p3, p4⟩ := h.pa
  have n9 := h.gr.n9
  have er : (((gI m 20 1) + (12 : Int32)) - (1 : Int32)) - (((gI m 20 1) + (12 : Int32)) - (1 : Int32)) / (12 : Int32) * (12 : Int32) = iI (((nx + 11) % 12 : Nat) : Int) := by
    rw [p2, show (iI nx + 12 : Int32) - 1 = iI ((nx + 11 : Nat) : Int) by rw [lt12, lt1, iI_add, iI_sub]; congr 1; omega, mod12_eq (by omega)]
  have hr12 : (nx + 11) % 12 < 12 := Nat.mod_lt _ (by omega)
  by_cases hs : s = 0
  · subst hs
    have e1 : F_T_undo m = some (false, m) := by
      unfold F_T_undo F_Pa_giveBack
      rw [er, lt_def, bnd_some (room_eq hr12), oMat_eq hr12, if_pos (by rw [p1]; decide)]
      rfl
    have e2 : F_M_undo m = some (false, sI m 78 0 0) := by
      unfold F_M_undo
      have g6 : gI (sI m 78 0 0) 78 6 = iI (0 : Nat) := by rw [gI_sI, if_neg (fun q => absurd q.2 (by decide))]; exact p3
      rw [lt_def, g6, if_pos (by decide)]
    exact ok_e e1 (ok_e e2 ⟨rfl, (h.thr thr_s).inv⟩)
  · obtain ⟨⟨u, u1, u2, u3⟩, u4⟩ := p4 (s - 1) (by omega)
    have hix : (nx + 12 - s + (s - 1)) % 12 = (nx + 11) % 12 := by omega
    rw [hix] at u1
    have up9 : u.pl ≤ 9 := by have := u3.pl1; omega
    obtain ⟨mc, ec, cc, fc⟩ := Tcopy5_ok m (o1 := 22 + 2 * ((nx + 11) % 12)) (by omega) u1 up9
    have hc20 : ∀ j, gI mc 20 j = gI m 20 j := fun j => (fc 20 (by omega) (by omega) j).1
    obtain ⟨m1, hm1⟩ : ∃ x, x = sI (sI mc 20 1 (iI (((nx + 11) % 12 : Nat) : Int))) 20 0 (iI ((s - 1 : Nat) : Int)) := ⟨_, rfl⟩
    have e1 : F_T_undo m = some (true, m1) := by
      unfold F_T_undo F_Pa_giveBack
      rw [er, lt_def, bnd_some (room_eq hr12), oMat_eq hr12, if_neg (by rw [p1, lt0, iI_le (by omega) (by omega) (by omega) (by omega)]; omega), bnd_some ec, hc20, er, lt_def, lt_def, gI_sI, if_neg (fun q => absurd q.2 (by decide)), hc20, p1, lt1, iI_sub, lt_def, show ((s : Int) - 1) = ((s - 1 : Nat) : Int) by omega, ← hm1]
      rfl
    have f1 : ∀ o, o ≠ 16 → o ≠ 17 → o ≠ 20 → ∀ j, gI m1 o j = gI m o j ∧ gL m1 o j = gL m o j ∧ gZ m1 o j = gZ m o j := by
      intro o a b c j
      rw [hm1]
      refine ⟨?_, (fc o a b j).2.1, (fc o a b j).2.2⟩
      rw [gI_sI, if_neg (fun q => c q.1), gI_sI, if_neg (fun q => c q.1)]
      exact (fc o a b j).1
    have c1 : CM m1 16 u := by
      rw [hm1]
      refine cc.cg (fun j => ?_) (fun j => ?_) (fun j => rfl)
      · rw [gI_sI, if_neg (fun q => absurd q.1 (by decide)), gI_sI, if_neg (fun q => absurd q.1 (by decide))]
      · rw [gI_sI, if_neg (fun q => absurd q.1 (by decide)), gI_sI, if_neg (fun q => absurd q.1 (by decide))]
    -- the reference
    obtain ⟨N, hN⟩ : ∃ N : Nat, N = 1000000 := ⟨_, rfl⟩
    obtain ⟨mr, hmr⟩ : ∃ x, x = sI (sI m1 78 0 0) 78 6 (iI ((s - 1 : Nat) : Int)) := ⟨_, rfl⟩
    have f82 : ∀ j, gI mr 82 j = gI m 82 j := by
      intro j
      rw [hmr, gI_sI, if_neg (fun q => absurd q.1 (by decide)), gI_sI, if_neg (fun q => absurd q.1 (by decide)), (f1 82 (by omega) (by omega) (by omega) j).1]
    obtain ⟨nf, m2, ⟨q1, q2, q3, q4⟩, e2⟩ := lpc F_M_undo_L26 298 (fun k z => (∀ j : Nat, j < k → gI z 79 j = gI m 82 (298 * (s - 1) + j)) ∧ (∀ j : Nat, k ≤ j → gI z 79 j = gI mr 79 j) ∧ gI z 78 6 = iI ((s - 1 : Nat) : Int) ∧ ∀ j, gI z 82 j = gI m 82 j) (by
      intro nf k z hk ⟨q1, q2, q3, q4⟩
      refine ⟨sI z 79 k (gI m 82 (298 * (s - 1) + k)), ⟨fun j hj => ?_, fun j hj => ?_, q3, q4⟩, ?_⟩
      · rw [gI_sI]
        by_cases hjk : j = k
        · rw [if_pos ⟨rfl, hjk⟩, hjk]
        · rw [if_neg (fun q => hjk q.2)]
          exact q1 j (by omega)
      · rw [gI_sI, if_neg (fun q => by have := q.2; omega)]
        exact q2 j (by omega)
      · rw [F_M_undo_L26, if_neg (by simp (disch := omega) only [↓lt_def, ↓reduceIte, ckB_true, bnd_e, Int.reduceAdd, Int.reduceSub, Int.reduceMul, Int.reduceNeg, Int.reduceToNat, Bool.false_eq_true, eq_self, not_false_eq_true, not_true_eq_false, Int.toNat_natCast, lt0, lt1, lt2, lt3, lt4, lt5, lt6, lt7, lt8, lt9, lt10, lt11, lt12, lt13, lt14, lt15, lt16, lt17, lt18, lt19, lt20, lt21, lt22, lt23, lt24, lt25, lt26, lt27, lt28, lt29, lt30, lt31, lt32, lt40, lt41, lt43, lt48, lt55, lt57, lt59, lt60, lt62, lt63, lt64, lt70, lt72, lt81, lt97, lt99, lt100, lt122, lt162, lt180, lt235, lt255, lt298, lt299, lt325, lt335, lt400, lt837, lt999, lt1000, lt1001, lt1002, lt1003, lt1004, lt1005, lt1006, lt1007, lt1008, lt1100, lt1101, lt1102, lt1103, lt1104, lt1105, lt1135, lt1136, lt1172, lt2000, lt3278, lt3575, lt10000, lt12345, lt21450, lt32767, lt193050, lt1103515245, ltm162, ltm99, ltm81, ltm8, ltm1, iI_add, iI_sub, iI_mul, iI_neg, iI_divn, iI_lt_t, iI_lt_f, iI_le_t, iI_le_f, iI_eq_t, iI_eq_f, iI_lt, iI_le, iI_eq, iI_idx, iI_inb, gI_sI, gL_sL, gZ_sZ, gI_sL, gI_sZ, gL_sI, gL_sZ, gZ_sI, gZ_sL]), q3, show (298 : Int32) = iI 298 from rfl, iI_mul, iI_add, ckB_t (iI_inb (by omega) (by omega) (by omega)), lt_def, ckB_t (iI_inb (by omega) (by omega) (by omega)), lt_def, lt_def, iI_idx (by omega) (by omega), iI_idx (by omega) (by omega), Int.toNat_natCast, lt1, iI_add, show (298 * ((s - 1 : Nat) : Int) + (k : Int)).toNat = 298 * (s - 1) + k by omega, q4]) N 0 mr (by omega) ⟨fun j hj => by omega, fun j _ => rfl, by rw [hmr, gI_sI, if_pos ⟨rfl, rfl⟩], f82⟩ (by omega)
    have e3 : F_M_undo m1 = some (true, m2) := by
      unfold F_M_undo
      have g6 : gI (sI m1 78 0 0) 78 6 = iI s := by rw [gI_sI, if_neg (fun q => absurd q.2 (by decide)), (f1 78 (by omega) (by omega) (by omega) 6).1]; exact p3
      rw [← hN, lt_def, g6, if_neg (by rw [lt0, iI_eq (by omega) (by omega) (by omega) (by omega)]; omega), lt1, iI_sub, lt_def, show ((s : Int) - 1) = ((s - 1 : Nat) : Int) by omega, ← hmr]
      refine e2.trans ?_
      rw [F_M_undo_L26, if_pos (by decide)]
    have f3 := fr_M_undo _ _ _ e3
    have k79 : ∀ j, gI mr 79 j = gI m 79 j := by
      intro j
      rw [hmr, gI_sI, if_neg (fun q => absurd q.1 (by decide)), gI_sI, if_neg (fun q => absurd q.1 (by decide)), (f1 79 (by omega) (by omega) (by omega) j).1]
    have hgq : ∀ j, (j < 9 ∨ (19 ≤ j ∧ j < 235) ∨ 298 ≤ j) → gI m2 79 j = gI m 79 j := by
      intro j hj
      by_cases hj2 : j < 298
      · rw [q1 j hj2]
        exact u4 j (by omega)
      · rw [q2 j (by omega), k79]
    have hw2 : WM m2 79 0 u := u2.cg (fun j hj => by rw [Nat.zero_add]; exact q1 j hj) up9
    refine ok_e e1 (ok_e e3 ⟨rfl, (h.reb (t' := u) ?_ (fun j hj => hgq j (by omega)) ?_ hw2 u3 ?_).inv⟩)
    · intro o j a b
      simp only [List.mem_cons, List.not_mem_nil, or_false, not_or] at a
      have x1 := f1 o (by omega) (by omega) (by omega) j
      have x2 := f3 o j (by simp; omega) (by simpa using b)
      exact ⟨x2.1.trans x1.1, x2.2.1.trans x1.2.1, x2.2.2.trans x1.2.2⟩
    · exact c1.cg (fun j => f3.gI (by simp) (by simp)) (fun j => f3.gI (by simp) (by simp)) (fun j => f3.gZ (by simp) (by simp))
    · have g20 : ∀ j, gI m2 20 j = gI m1 20 j := fun j => f3.gI (by simp) (by simp)
      refine ⟨s - 1, (nx + 11) % 12, by omega, hr12, ?_, ?_, q3, fun i hi => ?_⟩
      · rw [g20, hm1, gI_sI, if_pos ⟨rfl, rfl⟩]
      · rw [g20, hm1, gI_sI, if_neg (fun q => absurd q.2 (by decide)), gI_sI, if_pos ⟨rfl, rfl⟩]
      · obtain ⟨⟨v, v1, v2, v3⟩, v4⟩ := p4 i (by omega)
        have hi2 : ((nx + 11) % 12 + 12 - (s - 1) + i) % 12 = (nx + 12 - s + i) % 12 := by omega
        have hlt : (nx + 12 - s + i) % 12 < 12 := Nat.mod_lt _ (by omega)
        rw [hi2]
        generalize (nx + 12 - s + i) % 12 = r at *
        have hro : ∀ o, 22 ≤ o → o ≤ 45 → ∀ j, gI m2 o j = gI m o j ∧ gZ m2 o j = gZ m o j := by
          intro o a b j
          have x1 := f1 o (by omega) (by omega) (by omega) j
          have x2 := f3 o j (by simp; omega) (by simp; omega)
          exact ⟨x2.1.trans x1.1, x2.2.2.trans x1.2.2⟩
        refine ⟨⟨v, v1.cg (fun j => (hro _ (by omega) (by omega) j).1) (fun j => (hro _ (by omega) (by omega) j).1) (fun j => (hro _ (by omega) (by omega) j).2), v2.cg (fun j _ => q4 _) (by have := v3.pl1; omega), v3⟩, fun j hj => ?_⟩
        rw [q4, hgq j (by omega)]
        exact v4 j hj
end ACTSE
