section OCLS6
theorem chosen_od {law : Option (List (Int × List Int))} {P : OP} {mg tx bc f dw : Int} {mk : Int64} {bl : Bool} {wd : Int} {m0 m : Mem} (hB : OB law P mg tx bc f dw mk bl wd m0) (h : OI law P mk m0 m) {rc : Int32 → Int32 → Int32 → Int32 → Mem → Option (Int64 × Mem)} {pv : Int → Int → Int → Int × Int} {p k o l L : Int} (p0 : 0 ≤ p) (pn : p < P.n) (hL : L < 900) (l0 : -L ≤ l) (l1 : l ≤ L) (k0 : 0 ≤ k) (k5 : k ≤ 5) (o0 : 0 ≤ o) (o1 : o ≤ 10) (hrc : RC law P mk m0 rc pv (p + 1) (L + 9)) (hpv : ∀ k o l, vOK (pv k o l) (four (P.n - (p + 1)).toNat))
    (hfr : o ≠ 10 → ∀ k l m, OI law P mk m0 m → 0 ≤ k → k ≤ 5 → -L ≤ l → l ≤ L → Ok (rc (iI p) (iI k) (iI 10) (iI l) m) (fun v m' => v = pk (fb k) (frV P (four (P.n - (p + 1)).toNat) pv p k (sg k l)) ∧ OI law P mk m0 m')) : Ok (F_Od_waysChosen rc (iI p) (iI k) (iI o) (iI l) m) (fun v m' => v = pk (fb k) (atV P (four (P.n - (p + 1)).toNat) pv p k o (sg k l)) ∧ OI law P mk m0 m') := by
  have hn9 := hB.gr.n9
  have hal := four_le (P.n - (p + 1)).toNat (by omega)
  have hal4 := four_le (P.n - p).toNat (by omega)
  have hfo : four (P.n - p).toNat = 4 * four (P.n - (p + 1)).toNat := by rw [show (P.n - p).toNat = (P.n - (p + 1)).toNat + 1 by omega]; rfl
  have ha0 := four_pos (P.n - (p + 1)).toNat
  unfold F_Od_waysChosen
  refine ok_bnd (ok_of (going_od hB h p0 pn hL l0 l1 k0 k5 o0 o1 hrc) (fun v m1 hv => ?_))
  obtain ⟨rfl, h1⟩ := hv
  have hb1 : gZ m1 2 6 = bl := (h1.1.Z (by decide) (by decide) (by decide) (by decide)).trans hB.hb
  have hcm : gI m1 3 4 = iI mg := (h1.1.I (by decide) (by decide) (by decide) (by decide)).trans hB.gr.cmg
  have hgo : ∀ hd o, vOK (ses P (four (P.n - (p + 1)).toNat) pv p k o (sg k l) hd) (4 * four (P.n - (p + 1)).toNat) := fun hd o => ses_ok (by omega) hpv
  by_cases hbl : bl = true
  · refine ok_t (by rw [hb1, hbl]) (ok_some ⟨?_, h1⟩)
    unfold atV frV oo
    have hblp : P.bl = true := by rw [hB.P_bl]; exact hbl
    rw [if_pos hblp, if_pos hblp]
    split <;> rfl
  · refine ok_f (by rw [hb1]; exact hbl) ?_
    have hbl2 : ¬ P.bl = true := by rw [hB.P_bl]; exact hbl
    rw [bnd_some (otherChoice_eq hcm hB.gr.mg0 hB.gr.mg9 k0 k5 o0 o1 (by omega) (by omega))]
    have hor : oc mg k o l = 0 ∨ oc mg k o l = 1 ∨ oc mg k o l = 2 ∨ oc mg k o l = 3 := by
      unfold oc
      split
      · simp
      · split
        · split <;> simp
        · simp
    by_cases h0 : oc mg k o l = 0
    · refine ok_t (by rw [h0]; rfl) (ok_some ⟨?_, h1⟩)
      have h3 : ¬ inn k = 3 := by
        intro q
        unfold oc at h0
        rw [if_pos q] at h0
        exact absurd h0 (by decide)
      have h4 : o = 10 := by
        by_cases q : o = 10
        · exact q
        · unfold oc at h0
          rw [if_neg h3, if_neg q] at h0
          exact absurd h0 (by decide)
      have h5 : ¬ (k = 2 ∧ P.mg ≤ sg k l) := by
        intro q
        unfold oc at h0
        rw [if_neg h3, if_pos h4, if_pos ⟨q.1, by have h6 := q.2; rw [hB.P_mg, q.1] at h6; exact h6⟩] at h0
        exact absurd h0 (by decide)
      unfold atV frV
      rw [if_pos h4, if_neg hbl2, if_neg h3, if_neg h5, h4]
      rfl
    · refine ok_f ?_ ?_
      · rw [lt0, iI_eq (by omega) (by omega) (by omega) (by omega)]; exact h0
      refine ok_bnd (ok_of (otherwise_od hB h1 p0 pn hL l0 l1 k0 k5 o0 o1 hrc h0 hfr) (fun v m2 hv => ?_))
      obtain ⟨rfl, h2⟩ := hv
      have hd2 : gI m2 2 5 = iI dw := (h2.1.I (by decide) (by decide) (by decide) (by decide)).trans hB.hd
      have hc2 : gI m2 3 0 = iI P.n := (h2.1.I (by decide) (by decide) (by decide) (by decide)).trans hB.gr.cn
      have hdw : P.dw = dw := hB.P_dw
      have hgo1 := hgo false (oo o)
      have hro : vOK (ow P (four (P.n - (p + 1)).toNat) pv p k o (sg k l)) (4 * four (P.n - (p + 1)).toNat) := by
        unfold ow
        split
        · exact hgo true _
        · split
          · exact sw_ok (ses_ok (by omega) hpv)
          · exact nx_ok (by omega) (fun _ _ _ => frV_ok (by omega) hpv)
      have hpick : atV P (four (P.n - (p + 1)).toNat) pv p k o (sg k l) = pick P (4 * four (P.n - (p + 1)).toNat) (ses P (four (P.n - (p + 1)).toNat) pv p k (oo o) (sg k l) false) (ow P (four (P.n - (p + 1)).toNat) pv p k o (sg k l)) := by
        by_cases h4 : o = 10
        · rw [show atV P (four (P.n - (p + 1)).toNat) pv p k o (sg k l) = frV P (four (P.n - (p + 1)).toNat) pv p k (sg k l) by unfold atV; rw [if_pos h4]]
          unfold frV ow
          rw [if_neg hbl2]
          by_cases h3 : inn k = 3
          · rw [if_pos h3, if_pos h3, h4]; rfl
          · have h5 : k = 2 ∧ P.mg ≤ sg k l := by
              unfold oc at h0
              rw [if_neg h3, if_pos h4] at h0
              by_cases q : k = 2 ∧ mg ≤ l
              · refine ⟨q.1, ?_⟩
                rw [hB.P_mg, q.1]
                exact q.2
              · rw [if_neg q] at h0
                exact absurd rfl h0
            rw [if_neg h3, if_neg h3, if_pos h5, if_pos h4, h4]
            rfl
        · unfold atV ow
          rw [if_neg h4, if_neg h4, if_neg hbl2, show oo o = o by unfold oo; rw [if_neg h4]]
          by_cases h3 : inn k = 3
          · rw [if_pos h3, if_pos h3]
          · rw [if_neg h3, if_neg h3]
      rw [hpick, bnd_some (firstBats_eq k0 k5), hd2, bnd_some (valueOf_eq hc2 hn9 p0 (by omega) _ _ hro (by omega) hB.d0 hB.d1), hd2, bnd_some (valueOf_eq hc2 hn9 p0 (by omega) _ _ hgo1 (by omega) hB.d0 hB.d1), if_pos rfl, if_pos rfl, lt_def]
      have v1 := vl_rng hro (by rw [hdw]; exact hB.d0) (by rw [hdw]; exact hB.d1)
      have v2 := vl_rng hgo1 (by rw [hdw]; exact hB.d0) (by rw [hdw]; exact hB.d1)
      have e1 : ∀ v : Int × Int, 100 * v.1 + dw * (four (P.n - p).toNat - v.1 - v.2) = vl P (4 * four (P.n - (p + 1)).toNat) v := by
        intro v
        unfold vl
        rw [hdw, hfo]
      rw [e1, e1, iL_sub, show (0 : Int64) = iL 0 from rfl]
      unfold pick
      by_cases hg : vl P (4 * four (P.n - (p + 1)).toNat) (ses P (four (P.n - (p + 1)).toNat) pv p k (oo o) (sg k l) false) < vl P (4 * four (P.n - (p + 1)).toNat) (ow P (four (P.n - (p + 1)).toNat) pv p k o (sg k l))
      · refine ok_f ?_ (ok_some ⟨by rw [if_pos hg], h2⟩)
        rw [iL_le (by omega) (by omega) (by omega) (by omega)]
        omega
      · refine ok_t ?_ (ok_some ⟨by rw [if_neg hg], h2⟩)
        rw [iL_le (by omega) (by omega) (by omega) (by omega)]
        omega
end OCLS6
