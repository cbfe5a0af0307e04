section IMAGE
theorem Fr_wk2 {A A' : List Nat} {L L' : List (Nat × Nat)} {m m1 : Mem} (h1 : Fr A' L' m m1) (ha : ∀ a ∈ A', a ∈ A) (hl : ∀ a ∈ L', a.1 ∈ A ∨ a ∈ L) : Fr A L m m1 := fun o j a b => h1 o j (fun q => a (ha o q)) (fun q => (hl _ q).elim a b)
theorem afresh_ok (m : Mem) : ∃ m', F_T_startAfresh m = some ((), m') ∧ (∀ j, j < 72 → gI m' 14 j = iI (-1)) ∧ gZ m' 2 3 = true ∧ gL m' 2 7 = iL (-1) ∧ gL m' 2 8 = iL (-1) ∧ gI m' 20 0 = iI 0 := by
  obtain ⟨N, hN⟩ : ∃ N : Nat, N = 1000000 := ⟨_, rfl⟩
  obtain ⟨nf, m2, q1, e2⟩ := lpc F_Gr_forgetLevels_L2 72 (fun k s => ∀ j, j < k → gI s 14 j = iI (-1)) (by
    intro nf k s hk q
    refine ⟨sI s 14 k (-1), fun j hj => ?_, ?_⟩
    · rw [gI_sI]
      by_cases hjk : j = k
      · rw [if_pos ⟨rfl, hjk⟩]; rfl
      · rw [if_neg (fun q => hjk q.2)]; exact q j (by omega)
    · rw [F_Gr_forgetLevels_L2, if_neg (by simp (disch := omega) only [↓lt_def, ↓reduceIte, ckB_true, bnd_e, Int.reduceAdd, Int.reduceSub, Int.reduceMul, Int.reduceNeg, Int.reduceToNat, Bool.false_eq_true, eq_self, not_false_eq_true, not_true_eq_false, Int.toNat_natCast, lt0, lt1, lt2, lt3, lt4, lt5, lt6, lt7, lt8, lt9, lt10, lt11, lt12, lt13, lt14, lt15, lt16, lt17, lt18, lt19, lt20, lt21, lt22, lt23, lt24, lt25, lt26, lt27, lt28, lt29, lt30, lt31, lt32, lt40, lt41, lt43, lt48, lt55, lt57, lt59, lt60, lt62, lt63, lt64, lt70, lt72, lt81, lt97, lt99, lt100, lt122, lt162, lt180, lt235, lt255, lt298, lt299, lt325, lt335, lt400, lt837, lt999, lt1000, lt1001, lt1002, lt1003, lt1004, lt1005, lt1006, lt1007, lt1008, lt1100, lt1101, lt1102, lt1103, lt1104, lt1105, lt1135, lt1136, lt1172, lt2000, lt3278, lt3575, lt10000, lt12345, lt21450, lt32767, lt193050, lt1103515245, ltm162, ltm99, ltm81, ltm8, ltm1, iI_add, iI_sub, iI_mul, iI_neg, iI_divn, iI_lt_t, iI_lt_f, iI_le_t, iI_le_f, iI_eq_t, iI_eq_f, iI_lt, iI_le, iI_eq, iI_idx, iI_inb, gI_sI, gL_sL, gZ_sZ, gI_sL, gI_sZ, gL_sI, gL_sZ, gZ_sI, gZ_sL]), ckB_t (iI_inb (by omega) (by omega) (by omega)), lt_def, lt_def, iI_idx (by omega) (by omega), Int.toNat_natCast, lt1, iI_add]) N 0 m (by omega) (fun j hj => by omega) (by omega)
  have e : F_Gr_forgetLevels m = some ((), m2) := by
    unfold F_Gr_forgetLevels
    rw [← hN]
    refine e2.trans ?_
    rw [F_Gr_forgetLevels_L2, if_pos (by decide)]
  refine ⟨sI (sL (sL (sZ m2 2 3 true) 2 7 (-1)) 2 8 (-1)) 20 0 0, ?_, fun j hj => ?_, rfl, rfl, rfl, rfl⟩
  · unfold F_T_startAfresh
    rw [bnd_some e]
    rfl
  · rw [gI_sI, if_neg (fun q => absurd q.1 (by decide))]
    exact q1 j hj
def fshA : List Nat := [3, 4, 5, 6, 7, 8, 9, 10, 11, 12, 13, 14, 16, 17, 46, 47, 48, 49, 50, 51, 52, 53, 54, 55, 56, 57, 58, 59, 60, 62, 63, 79, 81, 85]
def fshL : List (Nat × Nat) := [(0, 1), (0, 2), (2, 3), (2, 7), (2, 8), (20, 0), (78, 0), (78, 6), (78, 8), (78, 9), (78, 10), (78, 11), (78, 12), (78, 13), (78, 15)]
/-- behind a text, or behind going back -/
theorem IV.afresh {B : Nat} {law law' : Option (List (Int × List Int))} {n mg wd tx bc n' mg' wd' tx' bc' : Int} {t t' : Mt} {m m' : Mem} (h : IV B law n mg wd tx bc t m) (hf : Fr fshA fshL m m') (ht : ITape m') (hfa : gI m' 0 2 = gI m' 78 13) (hg : GR m' 3 4 5 6 7 8 9 12 13 79 law' n' mg' wd' tx' bc') (hl : ∀ j, j < 72 → gI m' 14 j = iI (-1)) (h23 : gZ m' 2 3 = true) (h27 : gL m' 2 7 = iL (-1)) (h28 : gL m' 2 8 = iL (-1)) (h20 : gI m' 20 0 = iI 0) (h786 : gI m' 78 6 = iI 0) (hc : CM m' 16 t') (hw : WM m' 79 0 t') (mo : MtOk t' n') : IV B law' n' mg' wd' tx' bc' t' m' := by
  have hk : ∀ o, (18 ≤ o ∧ o ≤ 45 ∧ o ≠ 20) ∨ (64 ≤ o ∧ o ≤ 77) ∨ o = 15 ∨ o = 80 → ∀ j, gI m' o j = gI m o j ∧ gL m' o j = gL m o j ∧ gZ m' o j = gZ m o j := fun o ho j => hf o j (by simp only [fshA, List.mem_cons, List.not_mem_nil, or_false]; omega) (by simp only [fshL, List.mem_cons, Prod.mk.injEq, List.not_mem_nil, or_false]; omega)
  have h22 : gL m' 2 2 = gL m 2 2 := hf.gL (by decide) (by decide)
  refine IV.mk ⟨ht, hfa, ?_, ?_, hg, fun k hk => Or.inl (hl k hk), hc, hw, mo, ?_, ?_⟩
  · rw [hf.gZ (o := 78) (j := 22) (by decide) (by decide)]
    exact h.bli
  · refine h.im.cg (hf.gZ (by decide) (by decide)) (hf.gZ (by decide) (by decide)) (fun o ho j => ?_)
    have := hk o (by omega) j
    exact ⟨this.1, this.2.2⟩
  · obtain ⟨s, nx, a, b, c, d, e, f⟩ := h.pa
    exact ⟨0, nx, by omega, b, h20, (hf.gI (by decide) (by decide)).trans d, h786, fun i hi => absurd hi (by omega)⟩
  · obtain ⟨a, b, c, d, e⟩ := h.od
    refine ⟨by rw [h22]; exact a, fun i hi => ?_, fun q => ?_, Or.inl h27, Or.inl h28⟩
    · unfold kn
      rw [(hk 15 (by omega) i).2.1, h22]
      exact b i hi
    · rw [h23] at q
      cases q
theorem image_op {B : Nat} {law : Option (List (Int × List Int))} {n mg wd tx bc : Int} {t : Mt} {m : Mem} (h : IV B law n mg wd tx bc t m) : Ok (F_T_image m) (fun _ m1 => Ok (F_M_image m1) (fun _ m2 => Inv B m2)) := by
  have p9 : t.pl ≤ 9 := by have := h.mo.pl1; have := h.gr.n9; omega
  obtain ⟨N, hN⟩ : ∃ N : Nat, N = 1000000 := ⟨_, rfl⟩
  obtain ⟨ma, ea, a1, a2, a3, a4, a5, a6, a7⟩ := Gcopy_2_ok m
  have fa := fr_Gr_copyFrom_2 _ _ _ ea
  have hca : CM ma 16 t := h.cm.cg (fun j => fa.gI (by simp) (by simp)) (fun j => fa.gI (by simp) (by simp)) (fun j => fa.gZ (by simp) (by simp))
  obtain ⟨mb, eb, cb, fb⟩ := Tcopy3_ok ma hca p9
  have eT : F_T_image m = some ((), sZ mb 0 13 true) := by
    unfold F_T_image
    rw [bnd_some ea, bnd_some eb]
    rfl
  have fT := fr_T_image _ _ _ eT
  obtain ⟨m1, hm1⟩ : ∃ x, x = sZ mb 0 13 true := ⟨_, rfl⟩
  rw [← hm1] at eT fT
  obtain ⟨k2, hk2⟩ : ∃ x : Mem → Option (Unit × Mem), x = fun (mq2 : Mem) => ((lt (sZ mq2 78 5 true) fun mq3 => some ((), mq3)) : Option (Unit × Mem)) := ⟨_, rfl⟩
  obtain ⟨nf, mc, c1, c2, c3, ec⟩ := cpy (F_M_image_L7 k2) 1135 79 0 80 0 (by omega) (by
    intro nf k s hk
    rw [F_M_image_L7, if_neg (by simp (disch := omega) only [↓lt_def, ↓reduceIte, ckB_true, bnd_e, Int.reduceAdd, Int.reduceSub, Int.reduceMul, Int.reduceNeg, Int.reduceToNat, Bool.false_eq_true, eq_self, not_false_eq_true, not_true_eq_false, Int.toNat_natCast, lt0, lt1, lt2, lt3, lt4, lt5, lt6, lt7, lt8, lt9, lt10, lt11, lt12, lt13, lt14, lt15, lt16, lt17, lt18, lt19, lt20, lt21, lt22, lt23, lt24, lt25, lt26, lt27, lt28, lt29, lt30, lt31, lt32, lt40, lt41, lt43, lt48, lt55, lt57, lt59, lt60, lt62, lt63, lt64, lt70, lt72, lt81, lt97, lt99, lt100, lt122, lt162, lt180, lt235, lt255, lt298, lt299, lt325, lt335, lt400, lt837, lt999, lt1000, lt1001, lt1002, lt1003, lt1004, lt1005, lt1006, lt1007, lt1008, lt1100, lt1101, lt1102, lt1103, lt1104, lt1105, lt1135, lt1136, lt1172, lt2000, lt3278, lt3575, lt10000, lt12345, lt21450, lt32767, lt193050, lt1103515245, ltm162, ltm99, ltm81, ltm8, ltm1, iI_add, iI_sub, iI_mul, iI_neg, iI_divn, iI_lt_t, iI_lt_f, iI_le_t, iI_le_f, iI_eq_t, iI_eq_f, iI_lt, iI_le, iI_eq, iI_idx, iI_inb, gI_sI, gL_sL, gZ_sZ, gI_sL, gI_sZ, gL_sI, gL_sZ, gZ_sI, gZ_sL]), ckB_t (iI_inb (by omega) (by omega) (by omega)), lt_def, ckB_t (iI_inb (by omega) (by omega) (by omega)), lt_def, lt_def, iI_idx (by omega) (by omega), Int.toNat_natCast, lt1, iI_add, Nat.zero_add]) N (sI m1 78 0 0) (by omega)
  have eM : F_M_image m1 = some ((), sZ mc 78 5 true) := by
    unfold F_M_image
    rw [← hN, lt_def, lt_def, ← hk2]
    refine (show _ = _ from ec).trans ?_
    rw [F_M_image_L7, if_pos (by decide), hk2]
    rfl
  have fM := fr_M_image _ _ _ eM
  obtain ⟨m2, hm2⟩ : ∃ x, x = sZ mc 78 5 true := ⟨_, rfl⟩
  rw [← hm2] at eM fM
  have hk : ∀ o, (1 ≤ o ∧ o ≤ 63) ∨ o = 79 ∨ 81 ≤ o → ∀ j, gI m2 o j = gI m o j ∧ gL m2 o j = gL m o j ∧ gZ m2 o j = gZ m o j := by
    intro o ho j
    have h1 := fT o j (by simp only [List.mem_cons, List.not_mem_nil, or_false]; omega) (by simp only [List.mem_cons, Prod.mk.injEq, List.not_mem_nil, or_false]; omega)
    have h2 := fM o j (by simp only [List.mem_cons, List.not_mem_nil, or_false]; omega) (by simp only [List.mem_cons, Prod.mk.injEq, List.not_mem_nil, or_false]; omega)
    exact ⟨h2.1.trans h1.1, h2.2.1.trans h1.2.1, h2.2.2.trans h1.2.2⟩
  have h0 : ∀ j, j ≠ 13 → gI m2 0 j = gI m 0 j ∧ gZ m2 0 j = gZ m 0 j := by
    intro j hj
    have h1 := fT 0 j (by decide) (by simp only [List.mem_cons, Prod.mk.injEq, List.not_mem_nil, or_false]; omega)
    have h2 := fM 0 j (by decide) (by simp)
    exact ⟨h2.1.trans h1.1, h2.2.2.trans h1.2.2⟩
  have h78 : ∀ j, j ≠ 0 → j ≠ 5 → gI m2 78 j = gI m 78 j ∧ gZ m2 78 j = gZ m 78 j := by
    intro j hj hj2
    have h1 := fT 78 j (by decide) (by simp)
    have h2 := fM 78 j (by decide) (by simp only [List.mem_cons, Prod.mk.injEq, List.not_mem_nil, or_false]; omega)
    exact ⟨h2.1.trans h1.1, h2.2.2.trans h1.2.2⟩
  have hkp : ∀ o, 64 ≤ o → o ≤ 77 → ∀ j, gI m2 o j = gI mb o j ∧ gZ m2 o j = gZ mb o j := by
    intro o h1 h2' j
    have h2 := fM o j (by simp only [List.mem_cons, List.not_mem_nil, or_false]; omega) (by simp only [List.mem_cons, Prod.mk.injEq, List.not_mem_nil, or_false]; omega)
    refine ⟨h2.1.trans ?_, h2.2.2.trans ?_⟩
    · rw [hm1]; rfl
    · rw [hm1, gZ_sZ, if_neg (fun q => by have := q.1; omega)]
  have hkg : ∀ o, 64 ≤ o → o ≤ 75 → ∀ j, gI m2 o j = gI ma o j := fun o h1 h2 j => (hkp o h1 (by omega) j).1.trans (fb o (by omega) (by omega) j).1
  have h80 : ∀ j, j < 1135 → gI m2 80 j = gI m 79 j := by
    intro j hj
    have q := c1 j hj
    rw [Nat.zero_add] at q
    rw [hm2]
    show gI mc 80 j = _
    rw [q, gI_sI, if_neg (fun q => absurd q.1 (by decide))]
    exact fT.gI (by simp) (by simp)
  have hw : gI m2 79 = gI m 79 := by funext j; exact (hk 79 (by omega) j).1
  refine ok_e eT (ok_e eM ?_)
  refine IV.inv (law := law) (n := n) (mg := mg) (wd := wd) (tx := tx) (bc := bc) (t := t) (IV.mk ⟨?_, ?_, ?_, ?_, ?_, ?_, ?_, ?_, h.mo, ?_, ?_⟩)
  · obtain ⟨k, k1, k2', k3, k4⟩ := h.tp
    refine ⟨k, k1, (h0 1 (by decide)).1.trans k2', (h78 8 (by decide) (by decide)).1.trans k3, fun i hi => ?_⟩
    rw [(hk 1 (by omega) i).1, (hk 83 (by omega) i).1]
    exact k4 i hi
  · rw [(h0 2 (by decide)).1, (h78 13 (by decide) (by decide)).1]
    exact h.fa
  · rw [(h78 22 (by decide) (by decide)).2]
    exact h.bli
  · have z0 : gZ m2 0 13 = true := by
      rw [fM.gZ (by simp) (by simp), hm1]
      rfl
    have z1 : gZ m2 78 5 = true := by
      rw [hm2]
      rfl
    refine ⟨z0.trans z1.symm, fun _ => ⟨law, n, mg, wd, tx, bc, t, ?_, ?_, ?_, h.mo⟩⟩
    · exact h.gr.cg2 (fun j hj => (hkg 64 (by omega) (by omega) j).trans (a1 j hj)) (fun j hj => (hkg 65 (by omega) (by omega) j).trans (a2 j hj).1) (fun j hj => (hkg 66 (by omega) (by omega) j).trans (a2 j hj).2) (fun j hj => (hkg 67 (by omega) (by omega) j).trans (a3 j hj).1) (fun j hj => (hkg 68 (by omega) (by omega) j).trans (a3 j hj).2) (fun j hj => (hkg 69 (by omega) (by omega) j).trans (a4 j hj)) (fun j hj => (hkg 70 (by omega) (by omega) j).trans (a5 j hj)) ((hkg 73 (by omega) (by omega) 0).trans a6) (fun j hj => (hkg 74 (by omega) (by omega) j).trans (a7 j hj)) (fun j hj _ => h80 j hj)
    · exact cb.cg (fun j => (hkp 76 (by omega) (by omega) j).1) (fun j => (hkp 77 (by omega) (by omega) j).1) (fun j => (hkp 76 (by omega) (by omega) j).2)
    · exact h.wm.cg (fun j hj => by rw [Nat.zero_add]; exact h80 j (by omega)) p9
  · exact GR_told h.gr (fun o ho j => (hk o (by omega) j).1) (fun j _ => by rw [hw])
  · exact h.lv.cg2 (fun j => (hk 14 (by omega) j).1) (by rw [hw]) (by rw [hw]) (fun j _ _ => by rw [hw])
  · exact h.cm.cg (fun j => (hk 16 (by omega) j).1) (fun j => (hk 17 (by omega) j).1) (fun j => (hk 16 (by omega) j).2.2)
  · exact h.wm.to (fun j => by rw [hw])
  · exact h.pa.cg (fun j => (hk 20 (by omega) j).1) (h78 6 (by decide) (by decide)).1 (fun o a b j => ⟨(hk o (by omega) j).1, (hk o (by omega) j).2.2⟩) (fun j => (hk 82 (by omega) j).1) (fun j _ => by rw [hw])
  · exact h.od.cg h.gr.la.okl (fun j _ => by rw [hw]) (fun j => (hk 15 (by omega) j).2.1) (fun j => hk 2 (by omega) j)
theorem back_op {B : Nat} {law : Option (List (Int × List Int))} {n mg wd tx bc : Int} {t : Mt} {m : Mem} (h : IV B law n mg wd tx bc t m) : Ok (F_T_back m) (fun rT m1 => Ok (F_M_back m1) (fun rM m2 => rT = rM ∧ Inv B m2)) := by
  obtain ⟨N, hN⟩ : ∃ N : Nat, N = 1000000 := ⟨_, rfl⟩
  by_cases hkt : gZ m 0 13 = true
  · obtain ⟨law', n', mg', wd', tx', bc', t', gr', cm', wm', mo'⟩ := h.im.2 hkt
    have p9 : t'.pl ≤ 9 := by have := mo'.pl1; have := gr'.n9; omega
    obtain ⟨ma, ea, a1, a2, a3, a4, a5, a6, a7⟩ := Gcopy_ok m
    have fa := fr_Gr_copyFrom _ _ _ ea
    have hca : CM ma 76 t' := cm'.cg (fun j => fa.gI (by simp) (by simp)) (fun j => fa.gI (by simp) (by simp)) (fun j => fa.gZ (by simp) (by simp))
    obtain ⟨mb, eb, cb, fb⟩ := Tcopy2_ok ma hca p9
    obtain ⟨m1, e1, l1, l2, l3, l4, l5⟩ := afresh_ok mb
    have f1 := fr_T_startAfresh _ _ _ e1
    have eT : F_T_back m = some (true, m1) := by
      unfold F_T_back
      rw [if_pos hkt, bnd_some ea, bnd_some eb, bnd_some e1]
    have fT := fr_T_back _ _ _ eT
    obtain ⟨k2, hk2⟩ : ∃ x : Mem → Option (Bool × Mem), x = fun (mq2 : Mem) => ((lt (sI mq2 78 6 (0 : Int32)) fun mq3 => some (true, mq3)) : Option (Bool × Mem)) := ⟨_, rfl⟩
    obtain ⟨nf, mc, c1, c2, c3, ec⟩ := cpy (F_M_back_L16 k2) 1135 80 0 79 0 (by omega) (by
      intro nf k s hk
      rw [F_M_back_L16, if_neg (by simp (disch := omega) only [↓lt_def, ↓reduceIte, ckB_true, bnd_e, Int.reduceAdd, Int.reduceSub, Int.reduceMul, Int.reduceNeg, Int.reduceToNat, Bool.false_eq_true, eq_self, not_false_eq_true, not_true_eq_false, Int.toNat_natCast, lt0, lt1, lt2, lt3, lt4, lt5, lt6, lt7, lt8, lt9, lt10, lt11, lt12, lt13, lt14, lt15, lt16, lt17, lt18, lt19, lt20, lt21, lt22, lt23, lt24, lt25, lt26, lt27, lt28, lt29, lt30, lt31, lt32, lt40, lt41, lt43, lt48, lt55, lt57, lt59, lt60, lt62, lt63, lt64, lt70, lt72, lt81, lt97, lt99, lt100, lt122, lt162, lt180, lt235, lt255, lt298, lt299, lt325, lt335, lt400, lt837, lt999, lt1000, lt1001, lt1002, lt1003, lt1004, lt1005, lt1006, lt1007, lt1008, lt1100, lt1101, lt1102, lt1103, lt1104, lt1105, lt1135, lt1136, lt1172, lt2000, lt3278, lt3575, lt10000, lt12345, lt21450, lt32767, lt193050, lt1103515245, ltm162, ltm99, ltm81, ltm8, ltm1, iI_add, iI_sub, iI_mul, iI_neg, iI_divn, iI_lt_t, iI_lt_f, iI_le_t, iI_le_f, iI_eq_t, iI_eq_f, iI_lt, iI_le, iI_eq, iI_idx, iI_inb, gI_sI, gL_sL, gZ_sZ, gI_sL, gI_sZ, gL_sI, gL_sZ, gZ_sI, gZ_sL]), ckB_t (iI_inb (by omega) (by omega) (by omega)), lt_def, ckB_t (iI_inb (by omega) (by omega) (by omega)), lt_def, lt_def, iI_idx (by omega) (by omega), Int.toNat_natCast, lt1, iI_add, Nat.zero_add]) N (sI m1 78 0 0) (by omega)
    have hz5 : gZ m1 78 5 = true := by
      rw [fT.gZ (by simp) (by simp), ← h.im.1]
      exact hkt
    have eM : F_M_back m1 = some (true, sI mc 78 6 0) := by
      unfold F_M_back
      rw [← hN, lt_def, if_pos (show gZ (sI m1 78 0 0) 78 5 = true from hz5), lt_def, ← hk2]
      refine (show _ = _ from ec).trans ?_
      rw [F_M_back_L16, if_pos (by decide), hk2]
      rfl
    have fM := fr_M_back _ _ _ eM
    obtain ⟨m2, hm2⟩ : ∃ x, x = sI mc 78 6 0 := ⟨_, rfl⟩
    rw [← hm2] at eM fM
    have fall : Fr fshA fshL m m2 := Fr_tr (Fr_wk2 fT (by decide) (by decide)) fM (by decide) (by decide)
    have h79 : ∀ j, j < 1135 → gI m2 79 j = gI m 80 j := by
      intro j hj
      have q := c1 j hj
      rw [Nat.zero_add] at q
      rw [hm2, gI_sI, if_neg (fun q => absurd q.1 (by decide)), q, gI_sI, if_neg (fun q => absurd q.1 (by decide))]
      exact fT.gI (by simp) (by simp)
    have hM1 : ∀ o, o ≠ 78 → o ≠ 79 → ∀ j, gI m2 o j = gI m1 o j ∧ gL m2 o j = gL m1 o j ∧ gZ m2 o j = gZ m1 o j := fun o a b j => fM o j (by simp; omega) (by simp; omega)
    have hAf : ∀ o, o ≠ 14 → o ≠ 2 → o ≠ 20 → ∀ j, gI m1 o j = gI mb o j ∧ gL m1 o j = gL mb o j ∧ gZ m1 o j = gZ mb o j := fun o a b c j => f1 o j (by simp; omega) (by simp; omega)
    have hg : ∀ o, 3 ≤ o → o ≤ 13 → ∀ j, gI m2 o j = gI ma o j := fun o a b j => (hM1 o (by omega) (by omega) j).1.trans ((hAf o (by omega) (by omega) (by omega) j).1.trans (fb o (by omega) (by omega) j).1)
    refine ok_e eT (ok_e eM ⟨rfl, IV.inv (h.afresh (law' := law') (n' := n') (mg' := mg') (wd' := wd') (tx' := tx') (bc' := bc') (t' := t') fall ?_ ?_ ?_ ?_ ?_ ?_ ?_ ?_ ?_ ?_ ?_ mo')⟩)
    · obtain ⟨k, k1, k2', k3, k4⟩ := h.tp
      have g1 : ∀ o j, (o = 0 ∧ j = 1) ∨ o = 1 ∨ o = 83 ∨ (o = 78 ∧ j = 8) → gI m2 o j = gI m o j := by
        intro o j ho
        exact (fM.gI (by simp; omega) (by simp; omega)).trans (fT.gI (by simp; omega) (by simp; omega))
      refine ⟨k, k1, (g1 0 1 (by omega)).trans k2', (g1 78 8 (by omega)).trans k3, fun i hi => ?_⟩
      rw [g1 1 i (by omega), g1 83 i (by omega)]
      exact k4 i hi
    · rw [fM.gI (o := 0) (j := 2) (by simp) (by simp), fT.gI (o := 0) (j := 2) (by simp) (by simp), fM.gI (o := 78) (j := 13) (by simp) (by simp), fT.gI (o := 78) (j := 13) (by simp) (by simp)]
      exact h.fa
    · exact gr'.cg2 (fun j hj => (hg 3 (by omega) (by omega) j).trans (a1 j hj)) (fun j hj => (hg 4 (by omega) (by omega) j).trans (a2 j hj).1) (fun j hj => (hg 5 (by omega) (by omega) j).trans (a2 j hj).2) (fun j hj => (hg 6 (by omega) (by omega) j).trans (a3 j hj).1) (fun j hj => (hg 7 (by omega) (by omega) j).trans (a3 j hj).2) (fun j hj => (hg 8 (by omega) (by omega) j).trans (a4 j hj)) (fun j hj => (hg 9 (by omega) (by omega) j).trans (a5 j hj)) ((hg 12 (by omega) (by omega) 0).trans a6) (fun j hj => (hg 13 (by omega) (by omega) j).trans (a7 j hj)) (fun j hj _ => h79 j hj)
    · exact fun j hj => (hM1 14 (by omega) (by omega) j).1.trans (l1 j hj)
    · exact (hM1 2 (by omega) (by omega) 3).2.2.trans l2
    · exact (hM1 2 (by omega) (by omega) 7).2.1.trans l3
    · exact (hM1 2 (by omega) (by omega) 8).2.1.trans l4
    · exact (hM1 20 (by omega) (by omega) 0).1.trans l5
    · rw [hm2]; rfl
    · exact cb.cg (fun j => (hM1 16 (by omega) (by omega) j).1.trans (hAf 16 (by omega) (by omega) (by omega) j).1) (fun j => (hM1 17 (by omega) (by omega) j).1.trans (hAf 17 (by omega) (by omega) (by omega) j).1) (fun j => (hM1 16 (by omega) (by omega) j).2.2.trans (hAf 16 (by omega) (by omega) (by omega) j).2.2)
    · exact wm'.cg (fun j hj => by rw [Nat.zero_add]; exact h79 j (by omega)) p9
  · have eT : F_T_back m = some (false, m) := by
      unfold F_T_back
      rw [if_neg hkt]
    have eM : F_M_back m = some (false, sI m 78 0 0) := by
      unfold F_M_back
      rw [lt_def, if_neg (show ¬ gZ (sI m 78 0 0) 78 5 = true from fun q => hkt (h.im.1.trans q))]
    exact ok_e eT (ok_e eM ⟨rfl, (h.thr thr_s).inv⟩)
end IMAGE
