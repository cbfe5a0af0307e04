section HERE
theorem batZ_fb {t : Mt} (i0 : 0 ≤ t.inn) (i3 : t.inn ≤ 3) (fo : t.fol = true → 2 ≤ t.inn) : batZ t = if fb (kdZ t.inn t.fol) = true then t.fi else 1 - t.fi := by
  unfold batZ kdZ
  cases hf : t.fol
  · rcases (show t.inn = 0 ∨ t.inn = 1 ∨ t.inn = 2 ∨ t.inn = 3 by omega) with h | h | h | h <;> rw [h] <;> rfl
  · have := fo hf
    rcases (show t.inn = 2 ∨ t.inn = 3 by omega) with h | h <;> rw [h] <;> rfl
def spZ (t : Mt) : Int := if t.fr = true then 10 else t.out
def nowV (P : OP) (t : Mt) : Int × Int := V P (P.n - t.pl).toNat (kdZ t.inn t.fol) (spZ t) (leadZ t (batZ t))
/-- ways of side 0 and of side 1 -/
def sideV (t : Mt) (v : Int × Int) : Int × Int := if batZ t = 0 then v else (v.2, v.1)
def overV (t : Mt) (al : Int) : Int × Int := (if t.win = 0 then al else 0, if t.win = 1 then al else 0)
def hereV (P : OP) (t : Mt) : Int × Int := if 0 ≤ t.win then overV t (four (P.n - t.pl).toNat) else sideV t (nowV P t)
theorem part_eq {n q f z : Int} {m : Mem} (h : gI m 3 0 = iI n) (hf : gI m 2 4 = iI f) (f0 : 0 ≤ f) (f1 : f ≤ 1) (n9 : n ≤ 9) (q0 : 0 ≤ q) (qn : q ≤ n) (b : Bool) {v : Int × Int} {al : Int} (hv : vOK v al) (ha : al ≤ 262144) (z0 : 0 ≤ z) (z3 : z ≤ 3) : F_Od_part (pk b v) (iI q) (iI z) m = some (iL (if z = 3 then four (n - q).toNat else if z = 2 then four (n - q).toNat - v.1 - v.2 else if decide (z = f) = b then v.1 else v.2), m) := by
  unfold F_Od_part
  rcases (show z = 0 ∨ z = 1 ∨ z = 2 ∨ z = 3 by omega) with hz | hz | hz | hz
  · rw [if_neg (by rw [hz]; decide), if_neg (by rw [hz]; decide), lt_def, hf, if_neg (show ¬ z = 3 by omega), if_neg (show ¬ z = 2 by omega)]
    by_cases hzf : z = f
    · rw [if_pos (by rw [hzf])]
      dsimp only
      rw [bnd_some (waysOf_eq b true v al hv ha m), decide_eq_true hzf]
    · rw [if_neg (by rw [iI_eq (by omega) (by omega) (by omega) (by omega)]; exact hzf)]
      dsimp only
      rw [bnd_some (waysOf_eq b false v al hv ha m), decide_eq_false hzf]
  · rw [if_neg (by rw [hz]; decide), if_neg (by rw [hz]; decide), lt_def, hf, if_neg (show ¬ z = 3 by omega), if_neg (show ¬ z = 2 by omega)]
    by_cases hzf : z = f
    · rw [if_pos (by rw [hzf])]
      dsimp only
      rw [bnd_some (waysOf_eq b true v al hv ha m), decide_eq_true hzf]
    · rw [if_neg (by rw [iI_eq (by omega) (by omega) (by omega) (by omega)]; exact hzf)]
      dsimp only
      rw [bnd_some (waysOf_eq b false v al hv ha m), decide_eq_false hzf]
  · rw [if_neg (by rw [hz]; decide), if_pos (by rw [hz]; rfl), bnd_some (draws_eq h n9 q0 qn b hv ha), if_neg (show ¬ z = 3 by omega), if_pos hz]
  · rw [if_pos (by rw [hz]; rfl), bnd_some (all_eq h n9 q0 qn), if_pos hz]
theorem MwaysOf_eq {n p z s : Int} {m : Mem} {v : Int × Int} (hn : gI m 79 0 = iI n) (n9 : n ≤ 9) (p0 : 0 ≤ p) (pn : p ≤ n) (hv : GW m v) (hk : vOK v (four (n - p).toNat)) (z0 : 0 ≤ z) (z3 : z ≤ 3) (s0 : 0 ≤ s) (s1 : s ≤ 1) : F_M_waysOf (iI z) (iI p) (iI s) m = some (iL (askV (four (n - p).toNat) (if s = 0 then v else (v.2, v.1)) z), m) := by
  rcases (show s = 0 ∨ s = 1 by omega) with rfl | rfl
  · rw [if_pos rfl]
    exact MwaysOf0_eq hn n9 p0 pn hv hk z0 z3
  · rw [if_neg (by decide)]
    have h4 := four_le (n - p).toNat (by omega)
    have h0 := four_pos (n - p).toNat
    obtain ⟨k1, k2, k3⟩ := hk
    unfold F_M_waysOf askV
    rw [lt_def, if_neg (show ¬ iI 1 = (0 : Int32) by decide)]
    dsimp only
    rw [lt_def, if_neg (show ¬ iI 1 = (0 : Int32) by decide)]
    dsimp only
    rw [hv.1, hv.2]
    rcases (show z = 0 ∨ z = 1 ∨ z = 2 ∨ z = 3 by omega) with rfl | rfl | rfl | rfl
    · rw [if_pos (show iI 0 = (0 : Int32) from rfl), if_pos (show (0 : Int) = 0 from rfl), iI_L (by omega) (by omega)]
    · rw [if_neg (show ¬ iI 1 = (0 : Int32) by decide), if_pos (show iI 1 = (1 : Int32) from rfl), if_neg (show ¬ (1 : Int) = 0 by decide), if_pos (show (1 : Int) = 1 from rfl), iI_L (by omega) (by omega)]
    · rw [if_neg (show ¬ iI 2 = (0 : Int32) by decide), if_neg (show ¬ iI 2 = (1 : Int32) by decide), if_pos (show iI 2 = (2 : Int32) from rfl), if_neg (show ¬ (2 : Int) = 0 by decide), if_neg (show ¬ (2 : Int) = 1 by decide), if_pos (show (2 : Int) = 2 from rfl), bnd_some (Mall_eq hn n9 p0 pn), iI_sub, iI_sub, iI_L (by omega) (by omega)]
    · rw [if_neg (show ¬ iI 3 = (0 : Int32) by decide), if_neg (show ¬ iI 3 = (1 : Int32) by decide), if_neg (show ¬ iI 3 = (2 : Int32) by decide), if_neg (show ¬ (3 : Int) = 0 by decide), if_neg (show ¬ (3 : Int) = 1 by decide), if_neg (show ¬ (3 : Int) = 2 by decide), bnd_some (Mall_eq hn n9 p0 pn), iI_L (by omega) (by omega)]
theorem spot_eq {t : Mt} {m : Mem} (h2 : gI m 16 2 = iI t.out) (h6 : gZ m 16 6 = t.fr) : F_Ma_spot m = some (iI (spZ t), m) := by
  unfold F_Ma_spot spZ
  rw [h6, h2]
  cases t.fr
  · rfl
  · rfl
theorem spZ_rng {t : Mt} {n : Int} (mo : MtOk t n) : 0 ≤ spZ t ∧ spZ t ≤ 10 := by
  have a := mo.ou0
  have b := mo.ou1
  unfold spZ
  split <;> omega
theorem outNow_eq {t : Mt} {m : Mem} (h2 : gI m 79 13 = iI t.out) (h6 : gI m 79 14 = b2i t.fr) : F_M_outNow m = some (iI (spZ t), m) := by
  unfold F_M_outNow spZ
  rw [h6, h2]
  cases t.fr
  · rfl
  · rfl
theorem kindNow_eq {t : Mt} {m : Mem} (h1 : gI m 79 11 = iI t.inn) (h2 : gI m 79 12 = b2i t.fol) (i0 : 0 ≤ t.inn) (i3 : t.inn ≤ 3) : F_M_kindNow m = some (iI (jdZ t.inn t.fol), m) := by
  unfold F_M_kindNow
  rw [bnd_some (Mfol_eq h2), h1, bnd_some (MkindOf_eq i0 i3)]
theorem sg_lead {t : Mt} (f0 : 0 ≤ t.fi) (f1 : t.fi ≤ 1) (i0 : 0 ≤ t.inn) (i3 : t.inn ≤ 3) (fo : t.fol = true → 2 ≤ t.inn) : sg (kdZ t.inn t.fol) (leadZ t t.fi) = leadZ t (batZ t) := by
  rw [batZ_fb i0 i3 fo]
  unfold sg leadZ
  cases fb (kdZ t.inn t.fol)
  · rw [if_neg (show ¬ false = true by decide), if_neg (show ¬ false = true by decide)]
    (repeat' split) <;> omega
  · rw [if_pos rfl, if_pos rfl]
theorem askH {t : Mt} {f z al : Int} {v : Int × Int} {b : Bool} (hb : batZ t = if b = true then f else 1 - f) (f0 : 0 ≤ f) (f1 : f ≤ 1) (z0 : 0 ≤ z) (z3 : z ≤ 3) : (if z = 3 then al else if z = 2 then al - v.1 - v.2 else if decide (z = f) = b then v.1 else v.2) = askV al (sideV t v) z := by
  unfold askV sideV
  rcases (show z = 0 ∨ z = 1 ∨ z = 2 ∨ z = 3 by omega) with rfl | rfl | rfl | rfl <;> rcases (show f = 0 ∨ f = 1 by omega) with rfl | rfl <;> cases b <;> simp [hb] <;> omega
/-- the class: odds from the match as it is -/
theorem Tfrom_ok {B : Nat} {law : Option (List (Int × List Int))} {n mg wd tx bc : Int} {t : Mt} {m : Mem} (h : IV B law n mg wd tx bc t m) (hB6 : B ≤ 1000000) (bl : Bool) {z : Int} (z0 : 0 ≤ z) (z3 : z ≤ 3) (f0 : 0 ≤ t.fi) : Ok (F_T_oddsFromHere (iI z) bl m) (fun r m' => r = .inr (iL (askV (four (n - t.pl).toNat) (hereV (opOf (gI m 79) law n mg t.fi wd bl) t) z)) ∧ IV (B + 1) law n mg wd tx bc t m' ∧ gI m' 79 = gI m 79) := by
  obtain ⟨c0, c1, c2, c3, c4, c5, c6, c7, c8, c9, clg⟩ := h.cm
  obtain ⟨w9, w10, w11, w12, w13, w14, w15, w16, w17, w18, wlg⟩ := h.wm
  simp only [Nat.zero_add] at w9 w10 w11 w12 w13 w14 w15 w16 w17 w18 wlg
  have k_fi0 := h.mo.fi0
  have k_fi1 := h.mo.fi1
  have k_in0 := h.mo.in0
  have k_in3 := h.mo.in3
  have k_ou0 := h.mo.ou0
  have k_ou1 := h.mo.ou1
  have k_pl0 := h.mo.pl0
  have k_pl1 := h.mo.pl1
  have k_wi0 := h.mo.wi0
  have k_wi2 := h.mo.wi2
  have k_a0 := h.mo.a0
  have k_a1 := h.mo.a1
  have k_b0 := h.mo.b0
  have k_b1 := h.mo.b1
  have k_fo := h.mo.fo
  have k_no := h.mo.no
  have k_on := h.mo.on
  have k_pn := h.mo.pn
  have k_fre := h.mo.fre
  have k_n1 := h.gr.n1
  have k_n9 := h.gr.n9
  have k_cn := h.gr.cn
  have k_wn := h.gr.wn
  have k_cmg := h.gr.cmg
  have k_wmg := h.gr.wmg
  have k_mg0 := h.gr.mg0
  have k_mg9 := h.gr.mg9
  have hbr := batZ_rng f0 k_fi1
  have k_pl9 : t.pl ≤ 9 := by omega
  obtain ⟨m1, mk, e1, hOB, hO, hI, f1⟩ := h.ready hB6 (f := t.fi) (dw := wd) bl f0 k_fi1 h.gr.dw0 h.gr.dw9
  have hpn : (opOf (gI m 79) law n mg t.fi wd bl).n = n := opOf_n _ _ _ _ _ _ _
  have hal := four_le (n - t.pl).toNat (by omega)
  have ha0 := four_pos (n - t.pl).toNat
  have g16 : ∀ j, gI m1 16 j = gI m 16 j ∧ gZ m1 16 j = gZ m 16 j := fun j => ⟨f1.gI (by simp) (by simp), f1.gZ (by simp) (by simp)⟩
  have hpart : ∀ (m2 : Mem) (b : Bool) (v : Int × Int), OI law (opOf (gI m 79) law n mg t.fi wd bl) mk m1 m2 → vOK v (four (n - t.pl).toNat) → F_Od_part (pk b v) (gI m2 16 3) (iI z) m2 = some (iL (if z = 3 then four (n - t.pl).toNat else if z = 2 then four (n - t.pl).toNat - v.1 - v.2 else if decide (z = t.fi) = b then v.1 else v.2), m2) := by
    intro m2 b v h2 hv
    have a1 : gI m2 16 3 = iI t.pl := (h2.1.I (by decide) (by decide) (by decide) (by decide)).trans ((g16 3).1.trans c3)
    have a2 : gI m2 3 0 = iI n := (h2.1.I (by decide) (by decide) (by decide) (by decide)).trans (hOB.gr.cn.trans (by rw [hpn]))
    have a3 : gI m2 2 4 = iI t.fi := (h2.1.I (by decide) (by decide) (by decide) (by decide)).trans hOB.hf
    rw [a1]
    exact part_eq a2 a3 f0 k_fi1 k_n9 k_pl0 k_pl1 b hv hal z0 z3
  have fin : ∀ (m2 : Mem), OI law (opOf (gI m 79) law n mg t.fi wd bl) mk m1 m2 → IV (B + 1) law n mg wd tx bc t m2 ∧ gI m2 79 = gI m 79 := fun m2 h2 => ⟨hI m2 h2, (Fr_row h2.1.fr rfl rfl).trans (Fr_row f1 rfl rfl)⟩
  unfold F_T_oddsFromHere
  refine ok_f (by rw [c0, ltm1, iI_eq (by omega) (by omega) (by omega) (by omega)]; omega) (ok_lt ?_)
  refine ok_f (by rw [lt0, iI_lt (by omega) (by omega) (by omega) (by omega)]; omega) (ok_t (by rw [lt3, iI_le (by omega) (by omega) (by omega) (by omega)]; omega) ?_)
  rw [c0, h.gr.cdw, bnd_some e1]
  refine ok_ltk (fun k172 hk172 => ?_)
  rw [(g16 4).1, c4]
  by_cases hw : t.win = -1
  · refine ok_t (by rw [hw]; rfl) ?_
    have hk := kind_eq (t := t) (m := m1) ((g16 1).1.trans c1) ((g16 5).2.trans c5) k_in0 k_in3
    rw [show (if t.fol = true ∧ 2 ≤ t.inn then t.inn + 2 else t.inn) = kdZ t.inn t.fol from rfl] at hk
    have hkr := (kdZ_eq (i := t.inn) (fo := t.fol) k_in0 k_in3).2.2.2
    have hsp := spZ_rng h.mo
    have hld : -90 ≤ leadZ t t.fi ∧ leadZ t t.fi ≤ 90 := by unfold leadZ; split <;> omega
    rw [bnd_some hk, bnd_some (spot_eq ((g16 2).1.trans c2) ((g16 6).2.trans c6)), (g16 0).1, c0, bnd_some (Tlead_eq (t := t) ((g16 8).1.trans c8) ((g16 9).1.trans c9) f0 k_fi1), (g16 3).1, c3]
    refine ok_bnd (viaFrom_ok (ok_of (at_eq hOB hO (p := t.pl) (k := kdZ t.inn t.fol) (o := spZ t) (l := leadZ t t.fi) k_pl0 (by rw [hpn]; exact k_pl1) hkr.1 hkr.2 hsp.1 hsp.2 (by omega) (by omega)) (fun v m2 hv => ?_)))
    obtain ⟨rfl, h2⟩ := hv
    rw [hk172]
    dsimp only
    have hvo : vOK (nowV (opOf (gI m 79) law n mg t.fi wd bl) t) (four (n - t.pl).toNat) := by
      unfold nowV
      rw [hpn]
      exact V_ok _ _ _ _
    rw [sg_lead f0 k_fi1 k_in0 k_in3 k_fo, show V (opOf (gI m 79) law n mg t.fi wd bl) ((opOf (gI m 79) law n mg t.fi wd bl).n - t.pl).toNat (kdZ t.inn t.fol) (spZ t) (leadZ t (batZ t)) = nowV (opOf (gI m 79) law n mg t.fi wd bl) t from rfl, bnd_some (hpart m2 _ _ h2 hvo)]
    refine ok_some ⟨?_, fin m2 h2⟩
    rw [askH (batZ_fb k_in0 k_in3 k_fo) f0 k_fi1 z0 z3]
    unfold hereV
    rw [if_neg (by omega)]
  · refine ok_f (by rw [ltm1, iI_eq (by omega) (by omega) (by omega) (by omega)]; exact hw) ?_
    refine ok_ltk (fun k125 hk125 => ?_)
    have hev : hereV (opOf (gI m 79) law n mg t.fi wd bl) t = overV t (four (n - t.pl).toNat) := by
      unfold hereV
      rw [if_pos (by omega), hpn]
    rw [hev]
    have hp0 : gI m1 16 3 = iI t.pl := (g16 3).1.trans c3
    have hcn1 : gI m1 3 0 = iI n := hOB.gr.cn.trans (by rw [hpn])
    by_cases h2 : t.win = 2
    · refine ok_t (by rw [h2]; rfl) ?_
      rw [hk125]
      dsimp only
      rw [hk172]
      dsimp only
      rw [show (0 : Int64) = pk true (0, 0) from rfl, bnd_some (hpart m1 true (0, 0) hO ⟨by simp, by simp, by dsimp only; omega⟩)]
      refine ok_some ⟨?_, fin m1 hO⟩
      unfold askV overV
      rw [h2]
      rcases (show z = 0 ∨ z = 1 ∨ z = 2 ∨ z = 3 by omega) with rfl | rfl | rfl | rfl <;> simp
    · refine ok_f (by rw [lt2, iI_eq (by omega) (by omega) (by omega) (by omega)]; exact h2) (ok_ltk (fun k115 hk115 => ?_))
      rw [(g16 0).1, c0]
      have go : ∀ b : Bool, b = decide (t.win = t.fi) → Ok (k115 b m1) (fun r m' => r = .inr (iL (askV (four (n - t.pl).toNat) (overV t (four (n - t.pl).toNat)) z)) ∧ IV (B + 1) law n mg wd tx bc t m' ∧ gI m' 79 = gI m 79) := by
        intro b hbd
        rw [hk115]
        dsimp only
        rw [hp0, bnd_some (allTo_eq b hcn1 k_n9 k_pl0 k_pl1), hk125]
        dsimp only
        rw [hk172]
        dsimp only
        rw [bnd_some (hpart m1 b (four (n - t.pl).toNat, 0) hO ⟨by dsimp only; omega, by simp, by dsimp only; omega⟩)]
        refine ok_some ⟨?_, fin m1 hO⟩
        rw [hbd]
        unfold askV overV
        rcases (show t.win = 0 ∨ t.win = 1 by omega) with hq | hq <;> rcases (show t.fi = 0 ∨ t.fi = 1 by omega) with hq2 | hq2 <;> rw [hq, hq2] <;> rcases (show z = 0 ∨ z = 1 ∨ z = 2 ∨ z = 3 by omega) with rfl | rfl | rfl | rfl <;> simp
      by_cases h3 : t.win = t.fi
      · refine ok_t (by rw [h3]) (go true (decide_eq_true h3).symm)
      · refine ok_f (by rw [iI_eq (by omega) (by omega) (by omega) (by omega)]; exact h3) (go false (decide_eq_false h3).symm)
end HERE
