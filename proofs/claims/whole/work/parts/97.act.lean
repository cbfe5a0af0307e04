section ACT
theorem iN_inj {a b : Nat} (h : iI a = iI b) (a1 : a < 1000) (b1 : b < 1000) : a = b := by
  rw [iI_eq (by omega) (by omega) (by omega) (by omega)] at h
  omega
def ringA : List Nat := [10, 11, 14, 16, 17, 20, 22, 23, 24, 25, 26, 27, 28, 29, 30, 31, 32, 33, 34, 35, 36, 37, 38, 39, 40, 41, 42, 43, 44, 45]
/-- both have remembered and acted -/
theorem act_inv {B : Nat} {law : Option (List (Int × List Int))} {n mg wd tx bc : Int} {t t' : Mt} {m m1 m2 : Mem} (h : IV B law n mg wd tx bc t m) {s nx : Nat} (s12 : s ≤ 12) (n12 : nx < 12) (p1 : gI m 20 0 = iI s) (p2 : gI m 20 1 = iI nx)
    (hT : Fr ringA [] m m1) (hr0 : CM m1 (22 + 2 * nx) t) (hr1 : gI m1 20 0 = iI ((min 12 (s + 1) : Nat) : Int)) (hr2 : gI m1 20 1 = iI (((nx + 1) % 12 : Nat) : Int)) (hr3 : ∀ k, k < 12 → k ≠ nx → ∀ j, gI m1 (22 + 2 * k) j = gI m (22 + 2 * k) j ∧ gZ m1 (22 + 2 * k) j = gZ m (22 + 2 * k) j ∧ gI m1 (23 + 2 * k) j = gI m (23 + 2 * k) j) (hc : CM m1 16 t') (hl : LevOK law m1)
    (hM : Fr [79, 82, 85] [(78, 0), (78, 6)] m1 m2) (hg : GrEq (gI m2 79) (gI m1 79)) (hw : WM m2 79 0 t') (hq1 : gI m2 78 6 = iI ((min 12 (s + 1) : Nat) : Int)) (hq2 : ∀ i j : Nat, i < min 12 (s + 1) → j < 298 → gI m2 82 (298 * i + j) = if i + 1 = min 12 (s + 1) then gI m 79 j else gI m 82 (298 * (i + (s + 1 - min 12 (s + 1))) + j)) (mo : MtOk t' n) : IV B law n mg wd tx bc t' m2 := by
  have f79 : gI m1 79 = gI m 79 := Fr_row hT rfl rfl
  have hk : ∀ o, ringA.contains o = false → [79, 82, 85].contains o = false → o ≠ 78 → ∀ j, gI m2 o j = gI m o j ∧ gL m2 o j = gL m o j ∧ gZ m2 o j = gZ m o j := by
    intro o a b c j
    rw [List.contains_eq_mem, decide_eq_false_iff_not] at a b
    have h1 := hT o j a (by simp)
    have h2 := hM o j b (by simp; omega)
    exact ⟨h2.1.trans h1.1, h2.2.1.trans h1.2.1, h2.2.2.trans h1.2.2⟩
  have hgr : GrEq (gI m2 79) (gI m 79) := fun j hj => (hg j hj).trans (by rw [f79])
  have h78 : ∀ j, j ≠ 0 → j ≠ 6 → gI m2 78 j = gI m 78 j ∧ gZ m2 78 j = gZ m 78 j := by
    intro j a b
    have h1 := hT 78 j (by simp [ringA]) (by simp)
    have h2 := hM 78 j (by simp) (by simp; omega)
    exact ⟨h2.1.trans h1.1, h2.2.2.trans h1.2.2⟩
  refine IV.mk ⟨?_, ?_, ?_, ?_, ?_, ?_, ?_, hw, mo, ?_, ?_⟩
  · obtain ⟨k, k1, k2, k3, k4⟩ := h.tp
    refine ⟨k, k1, (hk 0 rfl rfl (by decide) 1).1.trans k2, (h78 8 (by decide) (by decide)).1.trans k3, fun i hi => ?_⟩
    rw [(hk 1 rfl rfl (by decide) i).1, (hk 83 rfl rfl (by decide) i).1]
    exact k4 i hi
  · rw [(hk 0 rfl rfl (by decide) 2).1, (h78 13 (by decide) (by decide)).1]
    exact h.fa
  · rw [(h78 22 (by decide) (by decide)).2]
    exact h.bli
  · refine h.im.cg (hk 0 rfl rfl (by decide) 13).2.2 (h78 5 (by decide) (by decide)).2 (fun o ho j => ?_)
    have h1 := hk o (by rw [List.contains_eq_mem, decide_eq_false_iff_not]; simp only [ringA, List.mem_cons, List.not_mem_nil, or_false]; omega) (by rw [List.contains_eq_mem, decide_eq_false_iff_not]; simp only [List.mem_cons, List.not_mem_nil, or_false]; omega) (by omega) j
    exact ⟨h1.1, h1.2.2⟩
  · exact h.gr.cg (fun j _ => (hk 3 rfl rfl (by decide) j).1) (fun j _ => (hk 4 rfl rfl (by decide) j).1) (fun j _ => (hk 5 rfl rfl (by decide) j).1) (fun j _ => (hk 6 rfl rfl (by decide) j).1) (fun j _ => (hk 7 rfl rfl (by decide) j).1) (fun j => (hk 8 rfl rfl (by decide) j).1) (fun j _ => (hk 9 rfl rfl (by decide) j).1) (hk 12 rfl rfl (by decide) 0).1 (fun j _ => (hk 13 rfl rfl (by decide) j).1) (fun j hj hj2 => hgr j (by omega))
  · exact hl.cg2 (fun j => (hM 14 j (by simp) (by simp)).1) (hg 6 (by omega)) (hg 7 (by omega)) (fun j a b => hg j (by omega))
  · exact hc.cg (fun j => (hM 16 j (by simp) (by simp)).1) (fun j => (hM 17 j (by simp) (by simp)).1) (fun j => (hM 16 j (by simp) (by simp)).2.2)
  · obtain ⟨s', nx', a1, a2, a3, a4, a5, a6⟩ := h.pa
    have es : s = s' := iN_inj (p1.symm.trans a3) (by omega) (by omega)
    have en : nx = nx' := iN_inj (p2.symm.trans a4) (by omega) (by omega)
    subst es
    subst en
    have h20 : ∀ j, gI m2 20 j = gI m1 20 j := fun j => (hM 20 j (by simp) (by simp)).1
    have hro : ∀ o, 22 ≤ o → o ≤ 45 → ∀ j, gI m2 o j = gI m1 o j ∧ gZ m2 o j = gZ m1 o j := by
      intro o b c j
      have := hM o j (by simp; omega) (by simp; omega)
      exact ⟨this.1, this.2.2⟩
    refine ⟨min 12 (s + 1), (nx + 1) % 12, by omega, by omega, (h20 0).trans hr1, (h20 1).trans hr2, hq1, fun i hi => ?_⟩
    by_cases hlast : i + 1 = min 12 (s + 1)
    · have hix : ((nx + 1) % 12 + 12 - min 12 (s + 1) + i) % 12 = nx := by omega
      refine ⟨⟨t, ?_, ?_, h.mo⟩, fun j hj => ?_⟩
      · rw [hix]
        exact hr0.cg (fun j => (hro _ (by omega) (by omega) j).1) (fun j => (hro _ (by omega) (by omega) j).1) (fun j => (hro _ (by omega) (by omega) j).2)
      · refine h.wm.cg (fun j hj => ?_) (by have := h.mo.pl1; have := h.gr.n9; omega)
        rw [hq2 i j hi hj, if_pos hlast, Nat.zero_add]
      · rw [hq2 i j hi (by omega), if_pos hlast, hgr j (by omega)]
    · have hix : ((nx + 1) % 12 + 12 - min 12 (s + 1) + i) % 12 = (nx + 12 - s + (i + (s + 1 - min 12 (s + 1)))) % 12 := by omega
      have hne : (nx + 12 - s + (i + (s + 1 - min 12 (s + 1)))) % 12 ≠ nx := by omega
      obtain ⟨⟨u, u1, u2, u3⟩, u4⟩ := a6 (i + (s + 1 - min 12 (s + 1))) (by omega)
      have hlt : (nx + 12 - s + (i + (s + 1 - min 12 (s + 1)))) % 12 < 12 := Nat.mod_lt _ (by omega)
      rw [hix]
      generalize (nx + 12 - s + (i + (s + 1 - min 12 (s + 1)))) % 12 = r at *
      refine ⟨⟨u, ?_, ?_, u3⟩, fun j hj => ?_⟩
      · refine u1.cg (fun j => (hro _ (by omega) (by omega) j).1.trans (hr3 r hlt hne j).1) (fun j => ?_) (fun j => (hro _ (by omega) (by omega) j).2.trans (hr3 r hlt hne j).2.1)
        rw [show 22 + 2 * r + 1 = 23 + 2 * r by omega]
        exact (hro _ (by omega) (by omega) j).1.trans (hr3 r hlt hne j).2.2
      · refine u2.cg (fun j hj => ?_) (by have := u3.pl1; have := h.gr.n9; omega)
        rw [hq2 i j hi hj, if_neg hlast]
      · rw [hq2 i j hi (by omega), if_neg hlast, u4 j hj, hgr j (by omega)]
  · exact h.od.cg h.gr.la.okl hgr (fun j => (hk 15 rfl rfl (by decide) j).2.1) (fun j => hk 2 rfl rfl (by decide) j)
end ACT
