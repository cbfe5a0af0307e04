section NEWM
/-- ways of a new match, by who bats first: of him and of the other -/
def NV (w : Nat → Int32) (law : Option (List (Int × List Int))) (n mg wd f : Int) : Int × Int := V (opOf w law n mg f wd false) n.toNat 0 10 0
theorem NV_ok {w : Nat → Int32} {law : Option (List (Int × List Int))} {n mg wd f : Int} : vOK (NV w law n mg wd f) (four n.toNat) := V_ok _ _ _ _
theorem pk_ne {v : Int × Int} {al : Int} (h : vOK v al) (ha : al ≤ 262144) (b : Bool) : pk b v ≠ iL (-1) := by
  obtain ⟨h1, h2, h3⟩ := h
  intro q
  unfold pk at q
  cases b
  · rw [if_neg (by decide), iL_eq (by omega) (by omega) (by omega) (by omega)] at q
    omega
  · rw [if_pos rfl, iL_eq (by omega) (by omega) (by omega) (by omega)] at q
    omega
theorem waysOfNew_ok {B : Nat} {law : Option (List (Int × List Int))} {n mg wd tx bc : Int} {t : Mt} {m : Mem} (h : IV B law n mg wd tx bc t m) (hB6 : B ≤ 1000000) {f : Int} (f0 : 0 ≤ f) (f1 : f ≤ 1) : Ok (F_Od_waysOfNew (iI f) m) (fun v m' => v = pk true (NV (gI m 79) law n mg wd f) ∧ IV (B + 1) law n mg wd tx bc t m' ∧ gI m' 79 = gI m 79) := by
  have n1 := h.gr.n1
  have n9 := h.gr.n9
  have hal := four_le n.toNat (by omega)
  have hne := pk_ne (NV_ok (w := gI m 79) (law := law) (n := n) (mg := mg) (wd := wd) (f := f)) hal true
  obtain ⟨o1, o2, o3, o4, o5⟩ := h.od
  unfold F_Od_waysOfNew
  refine ok_ltk (fun k hk => ?_)
  have hcur : ∀ y : Int64, (y = iL (-1) ∨ y = pk true (NV (gI m 79) law n mg wd f)) → Ok (k y m) (fun v m' => v = pk true (NV (gI m 79) law n mg wd f) ∧ IV (B + 1) law n mg wd tx bc t m' ∧ gI m' 79 = gI m 79) := by
    intro y hy
    rw [hk]
    dsimp only
    by_cases hq : y = iL (-1)
    · refine ok_t (by rw [hq]; rfl) ?_
      obtain ⟨m1, mk, e1, hOB, hO, hI, fr1⟩ := h.ready hB6 (f := f) (dw := wd) false f0 f1 h.gr.dw0 h.gr.dw9
      rw [h.gr.cdw, bnd_some e1]
      have hat := at_eq hOB hO (p := 0) (k := 0) (o := 10) (l := 0) (by omega) (by rw [opOf_n]; omega) (by omega) (by omega) (by omega) (by omega) (by omega) (by omega)
      rw [opOf_n, Int.sub_zero] at hat
      refine ok_bnd (ok_of hat (fun v m2 hv => ?_))
      obtain ⟨rfl, h2⟩ := hv
      have iv2 := hI m2 h2
      have hw2 : gI m2 79 = gI m 79 := (Fr_row h2.1.fr rfl rfl).trans (Fr_row fr1 rfl rfl)
      have hval : pk (fb 0) (V (opOf (gI m 79) law n mg f wd false) n.toNat 0 10 (sg 0 0)) = pk true (NV (gI m 79) law n mg wd f) := rfl
      rw [hval]
      have put : ∀ j : Nat, (j = 7 ∧ f = 0) ∨ (j = 8 ∧ f = 1) → IV (B + 1) law n mg wd tx bc t (sL m2 2 j (pk true (NV (gI m 79) law n mg wd f))) := by
        intro j hj
        obtain ⟨p1, p2, p3, p4, p5⟩ := iv2.od
        have hf : Fr scrA scrL m2 (sL m2 2 j (pk true (NV (gI m 79) law n mg wd f))) := by
          refine Fr_sL rfl Fr_rf (Or.inr ?_)
          rcases hj with ⟨rfl, -⟩ | ⟨rfl, -⟩ <;> simp [scrL]
        have g2 : ∀ i, i ≠ 7 → i ≠ 8 → gL (sL m2 2 j (pk true (NV (gI m 79) law n mg wd f))) 2 i = gL m2 2 i := fun i a b => by rw [gL_sL, if_neg (fun q => by have := q.2; omega)]
        have g15 : ∀ i, gL (sL m2 2 j (pk true (NV (gI m 79) law n mg wd f))) 15 i = gL m2 15 i := fun i => by rw [gL_sL, if_neg (fun q => absurd q.1 (by decide))]
        refine iv2.keep hf iv2.bli iv2.lv ⟨?_, ?_, ?_, ?_, ?_⟩
        · rw [g2 2 (by omega) (by omega)]; exact p1
        · intro i hi
          unfold kn
          rw [g15, g2 2 (by omega) (by omega)]
          exact p2 i hi
        · intro hz
          obtain ⟨f', dw', a0, a1, b0, b1, e4, e5, eM⟩ := p3 hz
          refine ⟨f', dw', a0, a1, b0, b1, e4, e5, ?_⟩
          rw [g2 2 (by omega) (by omega)]
          intro p k o l a b c d e f g
          unfold kn
          rw [g15]
          exact eM p k o l a b c d e f g
        · rcases hj with ⟨rfl, hf0⟩ | ⟨rfl, hf0⟩
          · right
            rw [gL_sL, if_pos ⟨rfl, rfl⟩, hf0]
            show pk true (V (opOf (gI m 79) law n mg 0 wd false) n.toNat 0 10 0) = pk true (V (opOf (gI m2 79) law n mg 0 wd false) n.toNat 0 10 0)
            rw [hw2]
          · rw [gL_sL, if_neg (fun q => absurd q.2 (by decide))]
            exact p4
        · rcases hj with ⟨rfl, hf0⟩ | ⟨rfl, hf0⟩
          · rw [gL_sL, if_neg (fun q => absurd q.2 (by decide))]
            exact p5
          · right
            rw [gL_sL, if_pos ⟨rfl, rfl⟩, hf0]
            show pk true (V (opOf (gI m 79) law n mg 1 wd false) n.toNat 0 10 0) = pk true (V (opOf (gI m2 79) law n mg 1 wd false) n.toNat 0 10 0)
            rw [hw2]
      by_cases hf0 : f = 0
      · exact ok_t (by rw [hf0]; rfl) (ok_lt (ok_some ⟨rfl, put 7 (Or.inl ⟨rfl, hf0⟩), hw2⟩))
      · exact ok_f (by rw [lt0, iI_eq (by omega) (by omega) (by omega) (by omega)]; exact hf0) (ok_lt (ok_some ⟨rfl, put 8 (Or.inr ⟨rfl, by omega⟩), hw2⟩))
    · have hy2 := hy.resolve_left hq
      exact ok_f (by rw [hy2]; exact hne) (ok_some ⟨hy2, h.up (by omega), rfl⟩)
  by_cases hf0 : f = 0
  · subst hf0
    exact ok_t rfl (hcur _ o4)
  · have hf1 : f = 1 := by omega
    subst hf1
    exact ok_f (by decide) (hcur _ o5)
/-- what a side has of a new match by who bats first -/
def tvZ (w : Nat → Int32) (law : Option (List (Int × List Int))) (n mg wd s f : Int) : Int := 100 * (if s = f then (NV w law n mg wd f).1 else (NV w law n mg wd f).2) + wd * (four n.toNat - (NV w law n mg wd f).1 - (NV w law n mg wd f).2)
theorem Ttoss_ok {B : Nat} {law : Option (List (Int × List Int))} {n mg wd tx bc : Int} {t : Mt} {m : Mem} (h : IV B law n mg wd tx bc t m) (hB6 : B ≤ 1000000) {s f : Int} (s0 : 0 ≤ s) (s1 : s ≤ 1) (f0 : 0 ≤ f) (f1 : f ≤ 1) : Ok (F_T_tossValue (iI s) (iI f) m) (fun v m' => v = iL (tvZ (gI m 79) law n mg wd s f) ∧ IV (B + 1) law n mg wd tx bc t m' ∧ gI m' 79 = gI m 79) := by
  have n9 := h.gr.n9
  have n1 := h.gr.n1
  have hal := four_le n.toNat (by omega)
  unfold F_T_tossValue
  refine ok_bnd (ok_of (waysOfNew_ok h hB6 f0 f1) (fun v m1 hv => ?_))
  obtain ⟨rfl, iv1, hw1⟩ := hv
  refine ok_ltk (fun k hk => ?_)
  have go : ∀ b : Bool, b = decide (s = f) → Ok (k b m1) (fun v m' => v = iL (tvZ (gI m 79) law n mg wd s f) ∧ IV (B + 1) law n mg wd tx bc t m' ∧ gI m' 79 = gI m 79) := by
    intro b hb
    have e := valueOf_eq (q := 0) iv1.gr.cn n9 (by omega) (by omega) true b (NV_ok (w := gI m 79) (law := law) (n := n) (mg := mg) (wd := wd) (f := f)) hal h.gr.dw0 h.gr.dw9
    rw [Int.sub_zero] at e
    rw [hk]
    dsimp only
    rw [iv1.gr.cdw, lt0, bnd_some e]
    refine ok_some ⟨?_, iv1, hw1⟩
    unfold tvZ
    rw [hb]
    by_cases hsf : s = f
    · rw [if_pos hsf, if_pos (decide_eq_true hsf)]
    · rw [if_neg hsf, if_neg (by rw [decide_eq_false hsf]; decide)]
  by_cases hsf : s = f
  · exact ok_t (by rw [hsf]) (go true (decide_eq_true hsf).symm)
  · exact ok_f (by rw [iI_eq (by omega) (by omega) (by omega) (by omega)]; exact hsf) (go false (decide_eq_false hsf).symm)
end NEWM
