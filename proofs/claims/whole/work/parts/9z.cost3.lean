section COSTC
theorem MworthBy_ok {law : Option (List (Int × List Int))} {P : OP} {n mg tx bc wd : Int} {t : Mt} {m0 m : Mem} (hB : MB law P mg tx bc t.fi wd false wd m0) (hPn : P.n = n) (hw : WM m 79 0 t) (mo : MtOk t n) (f0 : 0 ≤ t.fi) (hwn : t.win = -1) {z ld more : Int} (hmo : MO P more) (la : LaSt law P t.fi m0 t.pl t.pl ld more m) (l0 : -ld ≤ leadZ t (batZ t)) (l1 : leadZ t (batZ t) ≤ ld) (hld : ld + 9 ≤ 162) (z0 : 0 ≤ z) (z3 : z ≤ 3) (hz : z = 0 ∨ z = ocT t mg) : Ok (F_M_worthBy (iI z) m) (fun v m' => v = iL (if z = 0 then vl P (four (n - t.pl).toNat) (goV P t) else vl P (four (n - t.pl).toNat) (owV P t)) ∧ Fr [] [(78, 23), (78, 24)] m m') := by
  obtain ⟨w9, w10, w11, w12, w13, w14, w15, w16, w17, w18, wlg⟩ := hw
  simp only [Nat.zero_add] at w9 w10 w11 w12 w13 w14 w15 w16 w17 w18
  have k_fi1 := mo.fi1
  have k_in0 := mo.in0
  have k_in3 := mo.in3
  have k_fo := mo.fo
  have k_pl0 := mo.pl0
  have n9 := hB.gr.n9
  have hpnn := mo.pn f0 hwn
  have hbr := batZ_rng f0 k_fi1
  have hsp := spZ_rng mo
  have hm0 := hmo.1
  have hm9 := hmo.2.1
  obtain ⟨kk1, kk2, kk3, kk4, kk5⟩ := kdZ_eq (i := t.inn) (fo := t.fol) k_in0 k_in3
  obtain ⟨r, hr⟩ : ∃ r : Nat, r = (P.n - (t.pl + 1)).toNat := ⟨_, rfl⟩
  have hr' : P.n - (t.pl + 1) = (r : Int) := by omega
  have ha0 := four_pos r
  have hfo : four (n - t.pl).toNat = 4 * four r := by rw [show (n - t.pl).toNat = r + 1 by omega]; rfl
  obtain ⟨q1, q2, q3⟩ := la
  have hlv := q2 (by omega)
  have hy : 0 < r → LY P m (t.pl + 1) r (ld + more) := by
    intro hr0
    have := q3 (t.pl + 1) (Or.inr rfl) (by omega)
    rw [← hr, show more * (t.pl + 1 - t.pl) = more by rw [show t.pl + 1 - t.pl = 1 by omega, Int.mul_one]] at this
    exact this
  have hcell : ∀ j o l : Int, 0 ≤ j → j ≤ 5 → 0 ≤ o → o ≤ 10 → -ld ≤ l → l ≤ ld → gI m 86 (cx t.pl j o l) = iI (V P (r + 1) (mu j) o l).1 ∧ gI m 87 (cx t.pl j o l) = iI (V P (r + 1) (mu j) o l).2 := by
    intro j o l a b c d e g
    have := q3 t.pl (Or.inl rfl) (by omega)
    rw [show (P.n - t.pl).toNat = r + 1 by omega, Int.sub_self, Int.mul_zero, Int.add_zero] at this
    exact this j o l a b c d e g
  unfold F_M_worthBy F_M_played
  rw [bnd_e, w17, bnd_some (Mbatter_eq (t := t) w10 w11 w12 k_in0 k_in3), bnd_some (Mlead_eq (t := t) w15 w16 hbr.1 hbr.2)]
  refine ok_ltk (fun k72 hk72 => ok_ltk (fun k23 hk23 => ?_))
  have fin : ∀ (mm : Mem) (v : Int × Int), GW mm v → vOK v (4 * four r) → Fr [] [(78, 23), (78, 24)] m mm → Ok (k72 mm) (fun y m' => y = iL (vl P (four (n - t.pl).toNat) v) ∧ Fr [] [(78, 23), (78, 24)] m m') := by
    intro mm v hg hk hf
    rw [hk72]
    dsimp only
    rw [bnd_some (got_eq hB (q1.tr hf) k_pl0 (by omega) hg hk (by rw [← hfo, hPn]))]
    refine ok_some ⟨?_, hf⟩
    rw [hfo]
  have hgo : ∀ b : Bool, vOK (ses P (four r) (V P r) t.pl (kdZ t.inn t.fol) (oo (spZ t)) (leadZ t (batZ t)) b) (4 * four r) := fun b => ses_ok (by omega) (V_ok r)
  have hgoV : goV P t = ses P (four r) (V P r) t.pl (kdZ t.inn t.fol) (oo (spZ t)) (leadZ t (batZ t)) false := by unfold goV; rw [← hr]
  have go23 : ∀ b : Bool, (b = true ↔ z = 3) → Ok (k23 m) (fun y m' => y = iL (vl P (four (n - t.pl).toNat) (ses P (four r) (V P r) t.pl (kdZ t.inn t.fol) (oo (spZ t)) (leadZ t (batZ t)) b)) ∧ Fr [] [(78, 23), (78, 24)] m m') := by
    intro b hb
    rw [hk23]
    dsimp only
    rw [bnd_some (kindNow_eq (t := t) w11 w12 k_in0 k_in3), bnd_some (outNow_eq (t := t) w13 w14)]
    refine ok_ltk (fun k44 hk44 => ?_)
    have g44 : Ok (k44 b m) (fun y m' => y = iL (vl P (four (n - t.pl).toNat) (ses P (four r) (V P r) t.pl (kdZ t.inn t.fol) (oo (spZ t)) (leadZ t (batZ t)) b)) ∧ Fr [] [(78, 23), (78, 24)] m m') := by
      rw [hk44]
      dsimp only
      refine ok_bnd (ok_of (goesOn_ok hB q1 b hlv k_pl0 hr' kk2 kk3 hsp.1 hsp.2 hy (L := ld + more) (more := more) (by omega) (by omega) hmo (by omega)) (fun _ m2 hv => ?_))
      have g2 := hv.1
      rw [kk1] at g2
      exact fin m2 _ g2 (hgo b) hv.2.2
    by_cases h3 : z = 3
    · rw [hb.mpr h3] at g44 ⊢
      exact ok_t (by rw [h3]; rfl) g44
    · have hbf : b = false := by
        cases b
        · rfl
        · exact absurd (hb.mp rfl) h3
      rw [hbf] at g44 ⊢
      exact ok_f (by rw [lt3, iI_eq (by omega) (by omega) (by omega) (by omega)]; exact h3) g44
  by_cases hz0 : z = 0
  · rw [if_pos hz0, hgoV]
    exact ok_t (by rw [hz0]; rfl) (go23 false ⟨fun q => (by cases q), fun q => (by omega)⟩)
  · rw [if_neg hz0]
    have hzo := hz.resolve_left hz0
    refine ok_f (by rw [lt0, iI_eq (by omega) (by omega) (by omega) (by omega)]; exact hz0) ?_
    have how : owV P t = ow P (four r) (V P r) t.pl (kdZ t.inn t.fol) (spZ t) (leadZ t (batZ t)) := by unfold owV; rw [← hr]
    rw [how]
    have hocv : ocT t mg = oc mg (kdZ t.inn t.fol) (spZ t) (leadZ t t.fi) := rfl
    unfold ow
    by_cases h3 : inn (kdZ t.inn t.fol) = 3
    · have hz3 : z = 3 := by rw [hzo, hocv]; unfold oc; rw [if_pos h3]
      rw [if_pos h3]
      exact ok_t (by rw [hz3]; rfl) (go23 true ⟨fun _ => hz3, fun _ => rfl⟩)
    · rw [if_neg h3]
      have hj3 : jdZ t.inn t.fol ≤ 3 := by
        have := mu_inn kk2 kk3
        rw [kk1] at this
        have h4 : ¬ 3 < jdZ t.inn t.fol := fun q => h3 (by rw [this]; exact q)
        omega
      have hzn3 : z ≠ 3 := by
        rw [hzo, hocv]; unfold oc; rw [if_neg h3]
        split
        · split <;> omega
        · omega
      refine ok_f (by rw [lt3, iI_eq (by omega) (by omega) (by omega) (by omega)]; exact hzn3) ?_
      refine ok_ltk (fun k68 hk68 => ?_)
      have hand : ∀ (j' : Int) (v : Int × Int), 0 ≤ j' → j' ≤ 5 → V P (r + 1) (mu j') 10 (-leadZ t (batZ t)) = (v.2, v.1) → vOK v (4 * four r) → Ok (k68 (iI j') m) (fun y m' => y = iL (vl P (four (n - t.pl).toNat) v) ∧ Fr [] [(78, 23), (78, 24)] m m') := by
        intro j' v a b e hv
        rw [hk68]
        dsimp only
        obtain ⟨c1, c2⟩ := hcell j' 10 (-leadZ t (batZ t)) a b (by omega) (by omega) (by omega) (by omega)
        rw [e] at c1 c2
        refine ok_bnd (ok_of (handsOver_ok (w := (v.2, v.1)) k_pl0 (by omega) a b (by omega) (by omega) c1 c2) (fun _ m2 hq => ?_))
        exact fin m2 v hq.1 hv hq.2
      by_cases h10 : spZ t = 10
      · rw [if_pos h10]
        have hz2 : z = 2 := by
          have e := hzo
          rw [hocv] at e
          unfold oc at e
          rw [if_neg h3, if_pos h10] at e
          by_cases q : kdZ t.inn t.fol = 2 ∧ mg ≤ leadZ t t.fi
          · rw [if_pos q] at e; exact e
          · rw [if_neg q] at e; exact absurd e hz0
        refine ok_f (by rw [hz2]; decide) ?_
        refine hand 3 _ (by omega) (by omega) ?_ (sw_ok (ses_ok (by omega) (V_ok r)))
        rw [V_10 hr', mu3]
        unfold frV
        split
        · rfl
        · rw [if_neg (by decide), if_neg (fun q => absurd q.1 (by decide))]
      · rw [if_neg h10]
        have hz1 : z = 1 := by
          rw [hzo, hocv]; unfold oc; rw [if_neg h3, if_neg h10]
        refine ok_t (by rw [hz1]; rfl) ?_
        obtain ⟨j', n1, n2, n3, n4, -⟩ := Mnext_eq (m := m) kk2 hj3
        rw [bnd_some (kindNow_eq (t := t) w11 w12 k_in0 k_in3), bnd_some n1]
        refine hand j' _ n3 n4 ?_ (nx_ok (by omega) (fun _ _ _ => frV_ok (by omega) (V_ok r)))
        rw [kk1] at n2
        unfold nx
        by_cases hq : inn (kdZ t.inn t.fol + 1) = 3 ∧ leadZ t (batZ t) < 0
        · rw [if_pos hq, V_lead (fun p k s a b => hB.R_rng p k s a b) (by rw [n2]; exact hq.1) (show 0 < -leadZ t (batZ t) by omega)]
          rfl
        · rw [if_neg hq, V_10 hr', n2]
end COSTC
