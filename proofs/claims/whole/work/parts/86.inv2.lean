section INV2
/-- the twelve acts that can be undone: the class's ring and the reference's row -/
def PastR (m : Mem) (n : Int) : Prop := ∃ s nx : Nat, s ≤ 12 ∧ nx < 12 ∧ gI m 20 0 = iI s ∧ gI m 20 1 = iI nx ∧ gI m 78 6 = iI s ∧ ∀ i : Nat, i < s → (∃ t : Mt, CM m (22 + 2 * ((nx + 12 - s + i) % 12)) t ∧ WM m 82 (298 * i) t ∧ MtOk t n) ∧ ∀ j : Nat, (j < 9 ∨ (19 ≤ j ∧ j < 235)) → gI m 82 (298 * i + j) = gI m 79 j
/-- the image -/
def ImgR (m : Mem) : Prop := gZ m 0 13 = gZ m 78 5 ∧ (gZ m 0 13 = true → ∃ law n mg dw tx bc t, GR m 64 65 66 67 68 69 70 73 74 80 law n mg dw tx bc ∧ CM m 76 t ∧ WM m 80 0 t ∧ MtOk t n)
/-- what the class knows of odds, B marks at most -/
def OdR (B : Nat) (law : Option (List (Int × List Int))) (n mg wd : Int) (m : Mem) : Prop := (gL m 2 2).toBitVec.toNat ≤ B ∧ (∀ i, i < 193050 → kn m i / 1099511627776 ≤ (gL m 2 2).toBitVec.toNat) ∧ (gZ m 2 3 = false → ∃ f dw : Int, 0 ≤ f ∧ f ≤ 1 ∧ 0 ≤ dw ∧ dw ≤ 100 ∧ gI m 2 4 = iI f ∧ gI m 2 5 = iI dw ∧ Memo (opOf (gI m 79) law n mg f dw (gZ m 2 6)) (gL m 2 2).toBitVec.toNat m) ∧ (gL m 2 7 = iL (-1) ∨ gL m 2 7 = pk true (V (opOf (gI m 79) law n mg 0 wd false) n.toNat 0 10 0)) ∧ (gL m 2 8 = iL (-1) ∨ gL m 2 8 = pk true (V (opOf (gI m 79) law n mg 1 wd false) n.toNat 0 10 0))
/-- class and reference stand alike -/
def IV (B : Nat) (law : Option (List (Int × List Int))) (n mg wd tx bc : Int) (t : Mt) (m : Mem) : Prop := (ITape m) ∧ (gI m 0 2 = gI m 78 13) ∧ (gZ m 78 22 = false) ∧ (ImgR m) ∧ (GR m 3 4 5 6 7 8 9 12 13 79 law n mg wd tx bc) ∧ (LevOK law m) ∧ (CM m 16 t) ∧ (WM m 79 0 t) ∧ (MtOk t n) ∧ (PastR m n) ∧ (OdR B law n mg wd m)
theorem IV.tp {B : Nat} {law : Option (List (Int × List Int))} {n mg wd tx bc : Int} {t : Mt} {m : Mem} (h : IV B law n mg wd tx bc t m) : ITape m := h.1
theorem IV.fa {B : Nat} {law : Option (List (Int × List Int))} {n mg wd tx bc : Int} {t : Mt} {m : Mem} (h : IV B law n mg wd tx bc t m) : gI m 0 2 = gI m 78 13 := h.2.1
theorem IV.bli {B : Nat} {law : Option (List (Int × List Int))} {n mg wd tx bc : Int} {t : Mt} {m : Mem} (h : IV B law n mg wd tx bc t m) : gZ m 78 22 = false := h.2.2.1
theorem IV.im {B : Nat} {law : Option (List (Int × List Int))} {n mg wd tx bc : Int} {t : Mt} {m : Mem} (h : IV B law n mg wd tx bc t m) : ImgR m := h.2.2.2.1
theorem IV.gr {B : Nat} {law : Option (List (Int × List Int))} {n mg wd tx bc : Int} {t : Mt} {m : Mem} (h : IV B law n mg wd tx bc t m) : GR m 3 4 5 6 7 8 9 12 13 79 law n mg wd tx bc := h.2.2.2.2.1
theorem IV.lv {B : Nat} {law : Option (List (Int × List Int))} {n mg wd tx bc : Int} {t : Mt} {m : Mem} (h : IV B law n mg wd tx bc t m) : LevOK law m := h.2.2.2.2.2.1
theorem IV.cm {B : Nat} {law : Option (List (Int × List Int))} {n mg wd tx bc : Int} {t : Mt} {m : Mem} (h : IV B law n mg wd tx bc t m) : CM m 16 t := h.2.2.2.2.2.2.1
theorem IV.wm {B : Nat} {law : Option (List (Int × List Int))} {n mg wd tx bc : Int} {t : Mt} {m : Mem} (h : IV B law n mg wd tx bc t m) : WM m 79 0 t := h.2.2.2.2.2.2.2.1
theorem IV.mo {B : Nat} {law : Option (List (Int × List Int))} {n mg wd tx bc : Int} {t : Mt} {m : Mem} (h : IV B law n mg wd tx bc t m) : MtOk t n := h.2.2.2.2.2.2.2.2.1
theorem IV.pa {B : Nat} {law : Option (List (Int × List Int))} {n mg wd tx bc : Int} {t : Mt} {m : Mem} (h : IV B law n mg wd tx bc t m) : PastR m n := h.2.2.2.2.2.2.2.2.2.1
theorem IV.od {B : Nat} {law : Option (List (Int × List Int))} {n mg wd tx bc : Int} {t : Mt} {m : Mem} (h : IV B law n mg wd tx bc t m) : OdR B law n mg wd m := h.2.2.2.2.2.2.2.2.2.2
theorem IV.mk {B : Nat} {law : Option (List (Int × List Int))} {n mg wd tx bc : Int} {t : Mt} {m : Mem} (h : (ITape m) ∧ (gI m 0 2 = gI m 78 13) ∧ (gZ m 78 22 = false) ∧ (ImgR m) ∧ (GR m 3 4 5 6 7 8 9 12 13 79 law n mg wd tx bc) ∧ (LevOK law m) ∧ (CM m 16 t) ∧ (WM m 79 0 t) ∧ (MtOk t n) ∧ (PastR m n) ∧ (OdR B law n mg wd m)) : IV B law n mg wd tx bc t m := h
def Inv (B : Nat) (m : Mem) : Prop := ∃ law n mg wd tx bc t, IV B law n mg wd tx bc t m
/-- objects and fields that say nothing behind a call -/
def scrA : List Nat := [10, 11, 14, 15, 18, 19, 46, 47, 48, 49, 50, 51, 52, 53, 54, 55, 56, 57, 58, 59, 60, 61, 62, 63, 81, 84, 85, 86, 87, 88, 89, 90, 91]
def scrL : List (Nat × Nat) := [(2, 2), (2, 3), (2, 4), (2, 5), (2, 6), (2, 7), (2, 8), (78, 0), (78, 9), (78, 10), (78, 11), (78, 12), (78, 15), (78, 20), (78, 21), (78, 22), (78, 23), (78, 24)]
theorem PastR.cg {m m' : Mem} {n : Int} (h : PastR m n) (h20 : ∀ j, gI m' 20 j = gI m 20 j) (h78 : gI m' 78 6 = gI m 78 6) (hr : ∀ o, 22 ≤ o → o ≤ 45 → ∀ j, gI m' o j = gI m o j ∧ gZ m' o j = gZ m o j) (h82 : ∀ j, gI m' 82 j = gI m 82 j) (h79 : ∀ j, (j < 9 ∨ (19 ≤ j ∧ j < 235)) → gI m' 79 j = gI m 79 j) : PastR m' n := by
  obtain ⟨s, nx, a, b, c, d, e, f⟩ := h
  refine ⟨s, nx, a, b, (h20 0).trans c, (h20 1).trans d, h78.trans e, fun i hi => ?_⟩
  obtain ⟨⟨t, t1, t2, t3⟩, f2⟩ := f i hi
  refine ⟨⟨t, t1.cg (fun j => (hr _ (by omega) (by omega) j).1) (fun j => (hr _ (by omega) (by omega) j).1) (fun j => (hr _ (by omega) (by omega) j).2), ?_, t3⟩, fun j hj => ?_⟩
  · obtain ⟨k1, k2, k3, k4, k5, k6, k7, k8, k9, ka, kb⟩ := t2
    exact ⟨(h82 _).trans k1, (h82 _).trans k2, (h82 _).trans k3, (h82 _).trans k4, (h82 _).trans k5, (h82 _).trans k6, (h82 _).trans k7, (h82 _).trans k8, (h82 _).trans k9, (h82 _).trans ka, fun j hj => (h82 _).trans (kb j hj)⟩
  · rw [h82, h79 j hj]
    exact f2 j hj
theorem ImgR.cg {m m' : Mem} (h : ImgR m) (h1 : gZ m' 0 13 = gZ m 0 13) (h2 : gZ m' 78 5 = gZ m 78 5) (h3 : ∀ o, (64 ≤ o ∧ o ≤ 77) ∨ o = 80 → ∀ j, gI m' o j = gI m o j ∧ gZ m' o j = gZ m o j) : ImgR m' := by
  refine ⟨h1.trans (h.1.trans h2.symm), fun hk => ?_⟩
  obtain ⟨law, n, mg, dw, tx, bc, t, g1, g2, g3, g4⟩ := h.2 (h1.symm.trans hk)
  have e := fun o ho j => (h3 o ho j).1
  refine ⟨law, n, mg, dw, tx, bc, t, g1.cg (fun j _ => e _ (by omega) j) (fun j _ => e _ (by omega) j) (fun j _ => e _ (by omega) j) (fun j _ => e _ (by omega) j) (fun j _ => e _ (by omega) j) (fun j => e _ (by omega) j) (fun j _ => e _ (by omega) j) (e _ (by omega) 0) (fun j _ => e _ (by omega) j) (fun j _ _ => e _ (by omega) j), g2.cg (fun j => e _ (by omega) j) (fun j => e _ (by omega) j) (fun j => (h3 _ (by omega) j).2), g3.cg (fun j _ => e _ (by omega) _) (by have := g4.pl1; have := g1.n9; omega), g4⟩
theorem scr_ne {o : Nat} (h : scrA.contains o = false) : o ∉ scrA := by
  intro q
  rw [List.contains_eq_mem, decide_eq_false_iff_not] at h
  exact h q
theorem IV.keep {B B' : Nat} {law : Option (List (Int × List Int))} {n mg wd tx bc : Int} {t : Mt} {m m' : Mem} (h : IV B law n mg wd tx bc t m) (hf : Fr scrA scrL m m') (hb : gZ m' 78 22 = false) (hl : LevOK law m') (ho : OdR B' law n mg wd m') : IV B' law n mg wd tx bc t m' := by
  have eI : ∀ o j, scrA.contains o = false → scrL.contains (o, j) = false → gI m' o j = gI m o j := by
    intro o j a b
    refine hf.gI (scr_ne a) (fun q => ?_)
    rw [List.contains_eq_mem, decide_eq_false_iff_not] at b
    exact b q
  have eZ : ∀ o j, scrA.contains o = false → scrL.contains (o, j) = false → gZ m' o j = gZ m o j := by
    intro o j a b
    refine hf.gZ (scr_ne a) (fun q => ?_)
    rw [List.contains_eq_mem, decide_eq_false_iff_not] at b
    exact b q
  have eL : ∀ o, scrA.contains o = false → o ≠ 2 → o ≠ 78 → ∀ j, (o, j) ∉ scrL := by
    intro o a b c j q
    simp only [scrL, List.mem_cons, Prod.mk.injEq, List.not_mem_nil, or_false] at q
    omega
  have e2 : ∀ o, scrA.contains o = false → o ≠ 2 → o ≠ 78 → ∀ j, gI m' o j = gI m o j := fun o a b c j => hf.gI (scr_ne a) (eL o a b c j)
  have e3 : ∀ o, scrA.contains o = false → o ≠ 2 → o ≠ 78 → ∀ j, gZ m' o j = gZ m o j := fun o a b c j => hf.gZ (scr_ne a) (eL o a b c j)
  refine IV.mk ⟨?_, ?_, hb, ?_, ?_, hl, ?_, ?_, h.mo, ?_, ho⟩
  · obtain ⟨k, k1, k2, k3, k4⟩ := h.tp
    refine ⟨k, k1, (e2 0 rfl (by decide) (by decide) 1).trans k2, (eI 78 8 rfl rfl).trans k3, fun i hi => ?_⟩
    rw [e2 1 rfl (by decide) (by decide), e2 83 rfl (by decide) (by decide)]
    exact k4 i hi
  · rw [e2 0 rfl (by decide) (by decide), eI 78 13 rfl rfl]
    exact h.fa
  · refine h.im.cg (e3 0 rfl (by decide) (by decide) 13) (eZ 78 5 rfl rfl) (fun o ho j => ?_)
    have hs : scrA.contains o = false := by
      rw [List.contains_eq_mem, decide_eq_false_iff_not]
      simp only [scrA, List.mem_cons, List.not_mem_nil, or_false]
      omega
    exact ⟨e2 o hs (by omega) (by omega) j, e3 o hs (by omega) (by omega) j⟩
  · exact h.gr.cg (fun j _ => e2 3 rfl (by decide) (by decide) j) (fun j _ => e2 4 rfl (by decide) (by decide) j) (fun j _ => e2 5 rfl (by decide) (by decide) j) (fun j _ => e2 6 rfl (by decide) (by decide) j) (fun j _ => e2 7 rfl (by decide) (by decide) j) (fun j => e2 8 rfl (by decide) (by decide) j) (fun j _ => e2 9 rfl (by decide) (by decide) j) (e2 12 rfl (by decide) (by decide) 0) (fun j _ => e2 13 rfl (by decide) (by decide) j) (fun j _ _ => e2 79 rfl (by decide) (by decide) j)
  · exact h.cm.cg (fun j => e2 16 rfl (by decide) (by decide) j) (fun j => e2 17 rfl (by decide) (by decide) j) (fun j => e3 16 rfl (by decide) (by decide) j)
  · exact h.wm.cg (fun j _ => e2 79 rfl (by decide) (by decide) _) (by have := h.mo.pl1; have := h.gr.n9; omega)
  · refine h.pa.cg (fun j => e2 20 rfl (by decide) (by decide) j) (eI 78 6 rfl rfl) (fun o a b j => ?_) (fun j => e2 82 rfl (by decide) (by decide) j) (fun j _ => e2 79 rfl (by decide) (by decide) j)
    have hs : scrA.contains o = false := by
      rw [List.contains_eq_mem, decide_eq_false_iff_not]
      simp only [scrA, List.mem_cons, List.not_mem_nil, or_false]
      omega
    exact ⟨e2 o hs (by omega) (by omega) j, e3 o hs (by omega) (by omega) j⟩
/-- neither levels nor odds are touched -/
theorem IV.keep0 {B : Nat} {law : Option (List (Int × List Int))} {n mg wd tx bc : Int} {t : Mt} {m m' : Mem} (h : IV B law n mg wd tx bc t m) (hf : Fr scrA scrL m m') (hb : gZ m' 78 22 = false) (h14 : ∀ j, gI m' 14 j = gI m 14 j) (h15 : ∀ j, gL m' 15 j = gL m 15 j) (h2 : ∀ j, gI m' 2 j = gI m 2 j ∧ gL m' 2 j = gL m 2 j ∧ gZ m' 2 j = gZ m 2 j) : IV B law n mg wd tx bc t m' := by
  have hw : gI m' 79 = gI m 79 := by
    funext j
    refine hf.gI (scr_ne rfl) (fun q => ?_)
    simp only [scrL, List.mem_cons, Prod.mk.injEq, List.not_mem_nil, or_false] at q
    omega
  refine h.keep hf hb (fun k hk => by rw [h14, hw]; exact h.lv k hk) ?_
  have h3 := h.od
  unfold OdR Memo kn at h3 ⊢
  rw [hw]
  simp only [h15, (h2 _).1, (h2 _).2.1, (h2 _).2.2]
  exact h3
/-- behind a call that changes nothing but the reference's word of a throw -/
theorem IV.thr {B : Nat} {law : Option (List (Int × List Int))} {n mg wd tx bc : Int} {t : Mt} {m m' : Mem} (h : IV B law n mg wd tx bc t m) (hf : Thr m m') : IV B law n mg wd tx bc t m' :=
  h.keep0 (Fr_wk hf (by simp) (by decide)) ((hf 78 22 (by simp) (by decide)).2.2.trans h.bli) (fun j => hf.gI (by simp) (by simp)) (fun j => hf.gL (by simp) (by simp)) (fun j => hf 2 j (by simp) (by simp))
end INV2
