section MOD4
theorem twV_ok {P : OP} {al : Int} {pv : Int → Int → Int → Int × Int} {p k o l : Int} {v : Int × Int} (ha : 0 ≤ al) (h : ∀ k o l, vOK (pv k o l) al) (hv : vOK v (4 * al)) : vOK (twV P al pv p k o l v) (4 * al) := by
  unfold twV
  split
  · exact ses_ok ha h
  · split
    · split
      · exact sw_ok (ses_ok ha h)
      · exact hv
    · exact nx_ok (by omega) (fun _ _ _ => frV_ok ha h)
theorem chooses_ok {law : Option (List (Int × List Int))} {P : OP} {mg tx bc f dw : Int} {bl : Bool} {wd : Int} {m0 m : Mem} (hB : MB law P mg tx bc f dw bl wd m0) (h : SameM m0 m) {p j o l L Lp more : Int} {r : Nat} {v : Int × Int} (hl : LV law f p m) (p0 : 0 ≤ p) (hr : P.n - (p + 1) = (r : Int)) (j0 : 0 ≤ j) (j5 : j ≤ 5) (o0 : 0 ≤ o) (o1 : o ≤ 10) (hy : 0 < r → LY P m (p + 1) r L) (hyj : LYj P m p (r + 1) Lp (j + 1)) (l0 : -Lp ≤ l) (l1 : l ≤ Lp) (hLp : Lp + more ≤ L) (hmo : MO P more) (hL : L ≤ 162) (hv : GW m v) (hk : vOK v (4 * four r)) : Ok (F_M_chooses (iI p) (iI j) (iI o) (iI l) m) (fun b m' => b = decide (vl P (4 * four r) v < vl P (4 * four r) (twV P (four r) (V P r) p (mu j) o l v)) ∧ GW m' (pick P (4 * four r) v (twV P (four r) (V P r) p (mu j) o l v)) ∧ Fr [] [(78, 23), (78, 24)] m m') := by
  have hn9 := hB.gr.n9
  have e4 : (4 * four r : Int) = four (P.n - p).toNat := by rw [show (P.n - p).toNat = r + 1 by omega]; rfl
  have h4 := four_le (r + 1) (by omega)
  have h40 := four_pos r
  have hP : P.dw = dw := by rw [hB.hP]; rfl
  have htw := twV_ok (P := P) (p := p) (k := mu j) (o := o) (l := l) (show 0 ≤ four r by omega) (V_ok (P := P) r) hk
  unfold F_M_chooses
  rw [hv.1, hv.2]
  refine ok_lt (ok_lt ?_)
  rw [bnd_some (got_eq hB h p0 (by omega) hv hk e4)]
  refine ok_bnd (ok_of (tries_ok hB h hl p0 hr j0 j5 o0 o1 hy hyj l0 l1 hLp hmo hL hv) (fun _ m2 hv2 => ?_))
  obtain ⟨g2, f2⟩ := hv2
  rw [bnd_some (got_eq hB (h.tr f2) p0 (by omega) g2 htw e4)]
  have v1 := vl_rng hk (by rw [hP]; exact hB.d0) (by rw [hP]; exact hB.d1)
  have v2 := vl_rng htw (by rw [hP]; exact hB.d0) (by rw [hP]; exact hB.d1)
  simp only [four] at h4
  by_cases hc : vl P (4 * four r) v < vl P (4 * four r) (twV P (four r) (V P r) p (mu j) o l v)
  · refine ok_f (by rw [iL_le (by omega) (by omega) (by omega) (by omega)]; omega) (ok_some ⟨(decide_eq_true hc).symm, ?_, f2⟩)
    unfold pick
    rw [if_pos hc]
    exact g2
  · refine ok_t (by rw [iL_le (by omega) (by omega) (by omega) (by omega)]; omega) (ok_lt (ok_lt (ok_some ⟨(decide_eq_false hc).symm, ?_, ?_⟩)))
    · unfold pick
      rw [if_neg hc]
      exact ⟨rfl, rfl⟩
    · exact Fr_sI rfl (Fr_sI rfl f2 (by simp)) (by simp)
theorem V_pick {P : OP} {r : Nat} {p k o l : Int} (hr : P.n - (p + 1) = (r : Int)) (hb : P.bl = false) : V P (r + 1) k o l = pick P (4 * four r) (ses P (four r) (V P r) p k (oo o) l false) (twV P (four r) (V P r) p k o l (ses P (four r) (V P r) p k (oo o) l false)) := by
  rw [V_at hr]
  have hbn : ¬ P.bl = true := by rw [hb]; decide
  by_cases h4 : o = 10
  · rw [show atV P (four r) (V P r) p k o l = frV P (four r) (V P r) p k l by unfold atV; rw [if_pos h4]]
    unfold frV twV
    rw [if_neg hbn, h4]
    by_cases h3 : inn k = 3
    · rw [if_pos h3, if_pos h3]; rfl
    · rw [if_neg h3, if_neg h3, if_pos rfl]
      by_cases h5 : k = 2 ∧ P.mg ≤ l
      · rw [if_pos h5, if_pos h5]; rfl
      · rw [if_neg h5, if_neg h5]
        unfold pick
        rw [if_neg (by omega)]
        rfl
  · unfold atV twV
    rw [if_neg h4, if_neg h4, if_neg hbn, show oo o = o by unfold oo; rw [if_neg h4]]
    by_cases h3 : inn k = 3
    · rw [if_pos h3, if_pos h3]
    · rw [if_neg h3, if_neg h3]
theorem V_blind {P : OP} {r : Nat} {p k o l : Int} (hr : P.n - (p + 1) = (r : Int)) (hb : P.bl = true) : V P (r + 1) k o l = ses P (four r) (V P r) p k (oo o) l false := by
  rw [V_at hr]
  unfold atV frV oo
  rw [if_pos hb, if_pos hb]
  split <;> rfl
theorem counts_ok {law : Option (List (Int × List Int))} {P : OP} {mg tx bc f dw : Int} {bl : Bool} {wd : Int} {m0 m : Mem} (hB : MB law P mg tx bc f dw bl wd m0) (h : SameM m0 m) {p j o l L Lp more : Int} {r : Nat} (hl : LV law f p m) (p0 : 0 ≤ p) (hr : P.n - (p + 1) = (r : Int)) (j0 : 0 ≤ j) (j5 : j ≤ 5) (o0 : 0 ≤ o) (o1 : o ≤ 10) (hy : 0 < r → LY P m (p + 1) r L) (hyj : LYj P m p (r + 1) Lp (j + 1)) (l0 : -Lp ≤ l) (l1 : l ≤ Lp) (hLp : Lp + more ≤ L) (hmo : MO P more) (hL : L ≤ 162) : Ok (F_M_counts (iI p) (iI j) (iI o) (iI l) m) (fun _ m' => GW m' (V P (r + 1) (mu j) o l) ∧ Fr [] [(78, 23), (78, 24)] m m') := by
  have hn9 := hB.gr.n9
  have hm0 := hmo.1
  have hwn : gI m 79 0 = iI P.n := (h.I (by decide) (by simp)).trans hB.gr.wn
  have hmi := mu_inn j0 j5
  have hbm : gZ m 78 22 = P.bl := by rw [show P.bl = bl by rw [hB.hP]; rfl]; exact (h 78 22 (by decide) (by simp)).2.2.trans hB.hb
  unfold F_M_counts
  refine ok_lt ?_
  have hgo : Ok (bnd (F_M_goesOn (iI p) (iI j) (iI o) (iI l) false m) fun _ mq2 => if (gZ mq2 78 22) = true then some ((), mq2) else bnd (F_M_chooses (iI p) (iI j) (iI o) (iI l) mq2) fun zq7 mq5 => some ((), mq5)) (fun _ m' => GW m' (V P (r + 1) (mu j) o l) ∧ Fr [] [(78, 23), (78, 24)] m m') := by
    refine ok_bnd (ok_of (goesOn_ok hB h false hl p0 hr j0 j5 o0 o1 hy (by omega) (by omega) hmo hL) (fun _ m1 hv => ?_))
    obtain ⟨g1, h1, f1⟩ := hv
    have hb1 : gZ m1 78 22 = P.bl := (f1 78 22 (by decide) (by simp)).2.2.trans hbm
    cases hb : P.bl
    · refine ok_f (by rw [hb1, hb]; decide) ?_
      have hso := ses_ok (P := P) (p := p) (k := mu j) (o := oo o) (l := l) (hd := false) (show 0 ≤ four r by have := four_pos r; omega) (V_ok (P := P) r)
      refine ok_bnd (ok_of (chooses_ok hB h1 (hl.fr f1) p0 hr j0 j5 o0 o1 (fun q => (hy q).fr f1) (hyj.fr f1) l0 l1 hLp hmo hL g1 hso) (fun _ m2 hv => ok_some ⟨?_, Fr_tr f1 hv.2.2 (by simp) (by simp)⟩))
      rw [V_pick hr hb]
      exact hv.2.1
    · refine ok_t (by rw [hb1, hb]) (ok_some ⟨?_, f1⟩)
      rw [V_blind hr hb]
      exact g1
  by_cases h3 : 3 < j
  · refine ok_f (by rw [lt3, iI_le (by omega) (by omega) (by omega) (by omega)]; omega) ?_
    by_cases h5 : 0 < l
    · refine ok_f (by rw [lt0, iI_le (by omega) (by omega) (by omega) (by omega)]; omega) ?_
      rw [bnd_some (Mall_eq hwn hn9 p0 (by omega))]
      refine ok_lt (ok_lt (ok_some ⟨?_, Fr_sI rfl (Fr_sI rfl Fr_rf (by simp)) (by simp)⟩))
      rw [V_lead (fun p k s a b => hB.R_rng p k s a b) (by rw [hmi]; exact h3) h5, show (P.n - p).toNat = r + 1 by omega]
      exact ⟨rfl, rfl⟩
    · exact ok_t (by rw [lt0, iI_le (by omega) (by omega) (by omega) (by omega)]; omega) hgo
  · exact ok_t (by rw [lt3, iI_le (by omega) (by omega) (by omega) (by omega)]; omega) hgo
/-- levels of a session are laid -/
theorem lays_ok {law : Option (List (Int × List Int))} {P : OP} {mg tx bc f dw : Int} {bl : Bool} {wd : Int} {m0 m : Mem} (hB : MB law P mg tx bc f dw bl wd m0) (h : SameM m0 m) {p : Int} (p0 : 0 ≤ p) (p9 : p < 9) : Ok (F_M_laysLevels (iI p) m) (fun _ m' => LV law f p m' ∧ Fr [85, 88] [] m m') := by
  have f0 := hB.f0
  have f1 := hB.f1
  suffices hh : Ok (F_M_laysLevels (iI p) m) (fun _ m' => LV law f p m') by
    obtain ⟨a, m', e1, e2⟩ := hh
    exact ⟨a, m', e1, e2, fr_M_laysLevels _ _ _ _ e1⟩
  unfold F_M_laysLevels
  obtain ⟨nf, m6, ⟨q1, q2⟩, e6⟩ := lpc (F_M_laysLevels_L2 (iI p)) 6 (fun k s => SameM m0 s ∧ ∀ j : Int, 0 ≤ j → j < (k : Int) → gI s 88 j.toNat = iI (levZ (gI s 79) law p (inn (mu j)) (btK f (mu j)))) (by
    intro nf k s hk ⟨q1, q2⟩
    have hla : LawRep law s 8 9 79 := hB.gr.la.cg (fun j => q1.I (by decide) (by simp)) (fun j _ => q1.I (by decide) (by simp)) (q1.I (by decide) (by simp)) (fun j _ => q1.I (by decide) (by simp))
    have hf : gI s 78 20 = iI f := (q1.I (by decide) (by simp)).trans hB.hf
    have hkr := mu_rng (j := (k : Int)) (by omega) (by omega)
    have hir := inn_rng hkr.1 hkr.2
    have hb0 : 0 ≤ btK f (mu k) ∧ btK f (mu k) < 2 := by unfold btK; split <;> omega
    obtain ⟨s1, e1, e2⟩ := Mlevel_eq hla (s := p) (i := inn (mu k)) (b := btK f (mu k)) p0 p9 hb0.1 hb0.2
    have hfr := fr_M_levelOf _ _ _ _ _ _ e1
    have hw : gI s1 79 = gI s 79 := by funext i; exact e2 79 i (by decide)
    refine ⟨sI s1 88 k (iI (levZ (gI s 79) law p (inn (mu k)) (btK f (mu k)))), ⟨?_, ?_⟩, ?_⟩
    · refine Fr_sI rfl (Fr_tr q1 hfr (by decide) (by simp)) (by simp)
    · intro j a b
      rw [gI_sI, show gI (sI s1 88 k (iI (levZ (gI s 79) law p (inn (mu k)) (btK f (mu k))))) 79 = gI s 79 by rw [← hw]; rfl]
      by_cases hj : j.toNat = k
      · rw [if_pos ⟨rfl, hj⟩, show (k : Int) = j by omega]
      · rw [if_neg (fun q => hj q.2), e2 88 _ (by decide)]
        exact q2 j a (by omega)
    · rw [F_M_laysLevels_L2]
      rw [if_neg (by rw [lt6, iI_le (by omega) (by omega) (by omega) (by omega)]; omega), bnd_some (Minn_eq (by omega) (by omega)), bnd_some (Minn_eq (by omega) (by omega)), bnd_some (Mbehind_eq (by omega) (by omega)), hf, bnd_some (Mbat_eq (by omega) (by omega)), bnd_some e1, ckB_t (iI_inb (by omega) (by omega) (by omega)), lt_def, lt_def, iI_idx (by omega) (by omega), lt1, iI_add, Int.toNat_natCast]) 1000000 0 m (by omega) ⟨h, fun j a b => by omega⟩ (by omega)
  refine ⟨(), m6, ?_, fun j a b => q2 j a (by omega)⟩
  refine e6.trans ?_
  rw [F_M_laysLevels_L2, if_pos (by decide)]
end MOD4
