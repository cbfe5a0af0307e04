section COSTB
theorem Tcost_ok {B : Nat} {law : Option (List (Int × List Int))} {n mg wd tx bc : Int} {t : Mt} {m : Mem} (h : IV B law n mg wd tx bc t m) (hB6 : B ≤ 1000000) {z : Int} (f0 : 0 ≤ t.fi) (hw : t.win = -1) (z0 : 0 ≤ z) (z3 : z ≤ 3) (hz : z = 0 ∨ z = ocT t mg) (hne : ocT t mg ≠ 0) : Ok (F_T_cost (iI z) m) (fun r m' => r = .inr (iL (max (vl (opOf (gI m 79) law n mg t.fi wd false) (four (n - t.pl).toNat) (goV (opOf (gI m 79) law n mg t.fi wd false) t)) (vl (opOf (gI m 79) law n mg t.fi wd false) (four (n - t.pl).toNat) (owV (opOf (gI m 79) law n mg t.fi wd false) t)) - (if z = 0 then vl (opOf (gI m 79) law n mg t.fi wd false) (four (n - t.pl).toNat) (goV (opOf (gI m 79) law n mg t.fi wd false) t) else vl (opOf (gI m 79) law n mg t.fi wd false) (four (n - t.pl).toNat) (owV (opOf (gI m 79) law n mg t.fi wd false) t)))) ∧ IV (B + 1) law n mg wd tx bc t m' ∧ gI m' 79 = gI m 79) := by
  obtain ⟨c0, c1, c2, c3, c4, c5, c6, c7, c8, c9, clg⟩ := h.cm
  obtain ⟨w9, w10, w11, w12, w13, w14, w15, w16, w17, w18, wlg⟩ := h.wm
  simp only [Nat.zero_add] at w9 w10 w11 w12 w13 w14 w15 w16 w17 w18 wlg
  have k_fi0 := h.mo.fi0
  have k_fi1 := h.mo.fi1
  have k_in0 := h.mo.in0
  have k_in3 := h.mo.in3
  have k_ou0 := h.mo.ou0
  have k_ou1 := h.mo.ou1
  have k_pl0 := h.mo.pl0
  have k_pl1 := h.mo.pl1
  have k_wi0 := h.mo.wi0
  have k_wi2 := h.mo.wi2
  have k_a0 := h.mo.a0
  have k_a1 := h.mo.a1
  have k_b0 := h.mo.b0
  have k_b1 := h.mo.b1
  have k_fo := h.mo.fo
  have k_no := h.mo.no
  have k_on := h.mo.on
  have k_pn := h.mo.pn
  have k_fre := h.mo.fre
  have k_n1 := h.gr.n1
  have k_n9 := h.gr.n9
  have k_cn := h.gr.cn
  have k_wn := h.gr.wn
  have k_cmg := h.gr.cmg
  have k_wmg := h.gr.wmg
  have k_mg0 := h.gr.mg0
  have k_mg9 := h.gr.mg9
  have hpnn := k_pn f0 hw
  have x1 := Ton_eq (t := t) (m := m) c0 c4 k_fi0 k_fi1 k_wi0 k_wi2
  rw [decide_eq_true ⟨f0, hw⟩] at x1
  have hkr := (kdZ_eq (i := t.inn) (fo := t.fol) k_in0 k_in3).2.2.2
  have hsp := spZ_rng h.mo
  have hld : -90 ≤ leadZ t t.fi ∧ leadZ t t.fi ≤ 90 := by unfold leadZ; split <;> omega
  have hk : ∀ m, gI m 16 1 = iI t.inn → gZ m 16 5 = t.fol → F_Ma_kind m = some (iI (kdZ t.inn t.fol), m) := fun m a b => kind_eq a b k_in0 k_in3
  obtain ⟨m1, mk, e1, hOB, hO, hI, f1⟩ := h.ready hB6 (f := t.fi) (dw := wd) false f0 k_fi1 h.gr.dw0 h.gr.dw9
  obtain ⟨P, hP⟩ : ∃ P, P = opOf (gI m 79) law n mg t.fi wd false := ⟨_, rfl⟩
  rw [← hP] at hOB hO hI ⊢
  have hPn : P.n = n := by rw [hP, opOf_n]
  obtain ⟨r, hr⟩ : ∃ r : Nat, r = (n - (t.pl + 1)).toNat := ⟨_, rfl⟩
  have hr' : P.n - (t.pl + 1) = (r : Int) := by rw [hPn]; omega
  have hr2 : (P.n - (t.pl + 1)).toNat = r := by omega
  have ha0 := four_pos r
  have hal4 := four_le (r + 1) (by omega)
  have hfo : four (n - t.pl).toNat = 4 * four r := by rw [show (n - t.pl).toNat = r + 1 by omega]; rfl
  have hrc : RC law P mk m1 (F_Od_waysAt 40) (V P r) (t.pl + 1) (200 + 9 * t.pl + 9) := by
    have := (at_od hOB r (t.pl + 1) (by omega) (by omega)).2 40 (by omega)
    rw [show (200 + 9 * (t.pl + 1) : Int) = 200 + 9 * t.pl + 9 by omega] at this
    exact this
  have hfr : spZ t ≠ 10 → ∀ k l m, OI law P mk m1 m → 0 ≤ k → k ≤ 5 → -(200 + 9 * t.pl) ≤ l → l ≤ 200 + 9 * t.pl → Ok (F_Od_waysAt 40 (iI t.pl) (iI k) (iI 10) (iI l) m) (fun v m' => v = pk (fb k) (frV P (four (P.n - (t.pl + 1)).toNat) (V P r) t.pl k (sg k l)) ∧ OI law P mk m1 m') := by
    intro _ k l m hm a b c d
    rw [hr2]
    refine ok_of ((at_od hOB (r + 1) t.pl k_pl0 (by omega)).1 40 (by omega) k l m hm a b c d) (fun v m' hv => ⟨?_, hv.2⟩)
    rw [hv.1, V_10 hr']
  unfold F_T_cost
  refine ok_ltk (fun k9 hk9 => ok_f (by rw [lt0, iI_lt (by omega) (by omega) (by omega) (by omega)]; omega) (ok_t (by rw [lt3, iI_le (by omega) (by omega) (by omega) (by omega)]; omega) ?_))
  unfold F_T_mustBeOn
  rw [bnd_some x1]
  refine ok_bndX (ok_t rfl (ok_some ?_))
  show Ok _ _
  dsimp only
  rw [bnd_some (hk m c1 c5), bnd_some (spot_eq c2 c6), c0, bnd_some (Tlead_eq (t := t) c8 c9 f0 k_fi1), bnd_some (otherChoice_eq k_cmg k_mg0 k_mg9 hkr.1 hkr.2 hsp.1 hsp.2 (by omega) (by omega))]
  have hocr : ocT t mg = 0 ∨ ocT t mg = 1 ∨ ocT t mg = 2 ∨ ocT t mg = 3 := by
    unfold ocT oc
    split
    · simp
    · split
      · split <;> simp
      · simp
  refine ok_ltk (fun k90 hk90 => ?_)
  have main : Ok (k90 m) (fun r m' => r = .inr (iL (max (vl P (four (n - t.pl).toNat) (goV P t)) (vl P (four (n - t.pl).toNat) (owV P t)) - (if z = 0 then vl P (four (n - t.pl).toNat) (goV P t) else vl P (four (n - t.pl).toNat) (owV P t)))) ∧ IV (B + 1) law n mg wd tx bc t m' ∧ gI m' 79 = gI m 79) := by
    rw [hk90]
    dsimp only
    refine ok_f (by rw [show oc mg (kdZ t.inn t.fol) (spZ t) (leadZ t t.fi) = ocT t mg from rfl, lt0, iI_eq (by omega) (by omega) (by omega) (by omega)]; exact hne) ?_
    rw [c0, h.gr.cdw, bnd_some e1, bnd_some (firstBats_eq hkr.1 hkr.2)]
    have g16 : ∀ mm, OI law P mk m1 mm → gI mm 16 3 = iI t.pl ∧ gI mm 3 5 = iI wd ∧ gI mm 3 0 = iI n := by
      intro mm hm
      refine ⟨(hm.1.I (by decide) (by decide) (by decide) (by decide)).trans ((f1.gI (by simp) (by simp)).trans c3), (hm.1.I (by decide) (by decide) (by decide) (by decide)).trans hOB.gr.cdw, (hm.1.I (by decide) (by decide) (by decide) (by decide)).trans (hOB.gr.cn.trans (by rw [hPn]))⟩
    rw [(g16 m1 hO).1]
    refine ok_bnd (viaGo_ok (ok_of (going_od hOB hO k_pl0 (by rw [hPn]; exact hpnn) (show 200 + 9 * t.pl < 900 by omega) (by omega) (by omega) hkr.1 hkr.2 hsp.1 hsp.2 hrc) (fun v m2 hv => ?_)))
    obtain ⟨rfl, h2⟩ := hv
    rw [(g16 m2 h2).1]
    refine ok_bnd (viaOw_ok (ok_of (otherwise_od hOB h2 k_pl0 (by rw [hPn]; exact hpnn) (show 200 + 9 * t.pl < 900 by omega) (by omega) (by omega) hkr.1 hkr.2 hsp.1 hsp.2 hrc hne hfr) (fun v m3 hv => ?_)))
    obtain ⟨rfl, h3⟩ := hv
    have hgoE : ses P (four (P.n - (t.pl + 1)).toNat) (V P r) t.pl (kdZ t.inn t.fol) (oo (spZ t)) (sg (kdZ t.inn t.fol) (leadZ t t.fi)) false = goV P t := by
      rw [sg_lead f0 k_fi1 k_in0 k_in3 k_fo]
      unfold goV
      rw [hr2]
    have howE : ow P (four (P.n - (t.pl + 1)).toNat) (V P r) t.pl (kdZ t.inn t.fol) (spZ t) (sg (kdZ t.inn t.fol) (leadZ t t.fi)) = owV P t := by
      rw [sg_lead f0 k_fi1 k_in0 k_in3 k_fo]
      unfold owV
      rw [hr2]
    rw [hgoE, howE]
    have hvg : vOK (goV P t) (4 * four r) := by unfold goV; rw [hr2]; exact ses_ok (by omega) (V_ok r)
    have hvo : vOK (owV P t) (4 * four r) := by
      unfold owV ow
      rw [hr2]
      split
      · exact ses_ok (by omega) (V_ok r)
      · split
        · exact sw_ok (ses_ok (by omega) (V_ok r))
        · exact nx_ok (by omega) (fun _ _ _ => frV_ok (by omega) (V_ok r))
    simp only [four] at hal4
    have hPd : P.dw = wd := by rw [hP, opOf_dw]
    have ev : ∀ v : Int × Int, 100 * v.1 + wd * (four (n - t.pl).toNat - v.1 - v.2) = vl P (four (n - t.pl).toNat) v := fun v => by unfold vl; rw [hPd]
    obtain ⟨q1, q2, q3⟩ := g16 m3 h3
    rw [q1, q2, bnd_some (valueOf_eq q3 k_n9 k_pl0 k_pl1 _ _ hvg (by omega) h.gr.dw0 h.gr.dw9), if_pos rfl, ev, q1, q2, bnd_some (valueOf_eq q3 k_n9 k_pl0 k_pl1 _ _ hvo (by omega) h.gr.dw0 h.gr.dw9), if_pos rfl, ev]
    have b1 := vl_rng (P := P) hvg (by rw [hPd]; exact h.gr.dw0) (by rw [hPd]; exact h.gr.dw9)
    have b2 := vl_rng (P := P) hvo (by rw [hPd]; exact h.gr.dw0) (by rw [hPd]; exact h.gr.dw9)
    rw [← hfo] at b1 b2
    rw [mxL_iL (by omega) (by omega) (by omega) (by omega)]
    have fin : IV (B + 1) law n mg wd tx bc t m3 ∧ gI m3 79 = gI m 79 := ⟨hI m3 h3, (Fr_row h3.1.fr rfl rfl).trans (Fr_row f1 rfl rfl)⟩
    refine ok_ltk (fun k237 hk237 => ?_)
    by_cases hz0 : z = 0
    · refine ok_t (by rw [hz0]; rfl) ?_
      rw [hk237]
      dsimp only
      rw [iL_sub, if_pos hz0]
      exact ok_some ⟨rfl, fin⟩
    · refine ok_f (by rw [lt0, iI_eq (by omega) (by omega) (by omega) (by omega)]; exact hz0) ?_
      rw [hk237]
      dsimp only
      rw [iL_sub, if_neg hz0]
      exact ok_some ⟨rfl, fin⟩
  by_cases hz0 : z = 0
  · exact ok_t (by rw [hz0]; rfl) main
  · refine ok_f (by rw [lt0, iI_eq (by omega) (by omega) (by omega) (by omega)]; exact hz0) (ok_t ?_ main)
    rw [hz.resolve_left hz0]
    rfl
end COSTB
