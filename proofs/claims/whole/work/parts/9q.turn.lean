section TURN
theorem got_eq2 {n dw p : Int} {m : Mem} {v : Int × Int} (hn : gI m 79 0 = iI n) (n9 : n ≤ 9) (hd : gI m 78 21 = iI dw) (d0 : 0 ≤ dw) (d1 : dw ≤ 100) (p0 : 0 ≤ p) (pn : p ≤ n) (hv : GW m v) (hk : vOK v (four (n - p).toNat)) : F_M_got (iI p) m = some (iL (100 * v.1 + dw * (four (n - p).toNat - v.1 - v.2)), m) := by
  have h4 := four_le (n - p).toNat (by omega)
  obtain ⟨q1, q2, q3⟩ := hk
  obtain ⟨g1, g2⟩ := hv
  unfold F_M_got F_M_worthOf
  rw [g1, g2, bnd_some (Mall_eq hn n9 p0 pn), hd, lt_def, iI_sub, iI_sub, iI_L (by omega) (by omega), iI_L (by omega) (by omega), iI_L (by omega) (by omega), show (100 : Int64) = iL 100 from rfl, iL_mul, iL_mul, iL_add, bnd_e]
/-- the slot that is best or worst so far, and its worth -/
def updT (w : Bool) (fe : Int × Int) (s g : Int) : Int × Int := if s = 0 ∨ (if w = true then g < fe.2 else fe.2 < g) then (s, g) else fe
def trn (w : Bool) (g : Int → Int) : Nat → Int × Int
  | 0 => (0, 0)
  | s + 1 => updT w (trn w g s) s (g s)
theorem trn_rng {w : Bool} {g : Int → Int} {M : Int} (hg : ∀ s, 0 ≤ g s ∧ g s ≤ M) (hM : 0 ≤ M) : ∀ s : Nat, 0 ≤ (trn w g s).1 ∧ (trn w g s).1 ≤ s ∧ 0 ≤ (trn w g s).2 ∧ (trn w g s).2 ≤ M
  | 0 => by simp [trn, hM]
  | s + 1 => by
    have h1 := trn_rng (w := w) hg hM s
    have h2 := hg s
    simp only [trn, updT]
    by_cases hc : (s : Int) = 0 ∨ (if w = true then g s < (trn w g s).2 else (trn w g s).2 < g s)
    · rw [if_pos hc]
      exact ⟨by dsimp only; omega, by dsimp only; omega, h2.1, h2.2⟩
    · rw [if_neg hc]
      omega
def gvl (P : OP) (t : Mt) (s : Int) : Int := 100 * (aftV P t s).1 + P.dw * (four (P.n - (t.pl + 1)).toNat - (aftV P t s).1 - (aftV P t s).2)
theorem gvl_rng {P : OP} {t : Mt} {s : Int} (d0 : 0 ≤ P.dw) (d1 : P.dw ≤ 100) (hn : (P.n - (t.pl + 1)).toNat ≤ 9) : 0 ≤ gvl P t s ∧ gvl P t s ≤ 52428800 := by
  have h1 := vl_rng (P := P) (aftV_ok (P := P) (t := t) (s := s)) d0 d1
  have h2 := four_le _ hn
  unfold vl at h1
  unfold gvl
  omega
theorem turning_op {B : Nat} {law : Option (List (Int × List Int))} {n mg wd tx bc : Int} {t : Mt} {m : Mem} (h : IV B law n mg wd tx bc t m) (hB6 : B ≤ 100000) (a : Bool) : Both (B + 4) cdU (F_T_turning a) (F_M_turning a) m := by
  obtain ⟨c0, c1, c2, c3, c4, c5, c6, c7, c8, c9, clg⟩ := h.cm
  obtain ⟨w9, w10, w11, w12, w13, w14, w15, w16, w17, w18, wlg⟩ := h.wm
  simp only [Nat.zero_add] at w9 w10 w11 w12 w13 w14 w15 w16 w17 w18 wlg
  have k_fi0 := h.mo.fi0
  have k_fi1 := h.mo.fi1
  have k_in0 := h.mo.in0
  have k_in3 := h.mo.in3
  have k_ou0 := h.mo.ou0
  have k_ou1 := h.mo.ou1
  have k_pl0 := h.mo.pl0
  have k_pl1 := h.mo.pl1
  have k_wi0 := h.mo.wi0
  have k_wi2 := h.mo.wi2
  have k_a0 := h.mo.a0
  have k_a1 := h.mo.a1
  have k_b0 := h.mo.b0
  have k_b1 := h.mo.b1
  have k_fo := h.mo.fo
  have k_no := h.mo.no
  have k_on := h.mo.on
  have k_pn := h.mo.pn
  have k_fre := h.mo.fre
  have k_n1 := h.gr.n1
  have k_n9 := h.gr.n9
  have k_cn := h.gr.cn
  have k_wn := h.gr.wn
  have k_cmg := h.gr.cmg
  have k_wmg := h.gr.wmg
  have k_mg0 := h.gr.mg0
  have k_mg9 := h.gr.mg9
  unfold Both
  have x1 := Ton_eq (t := t) (m := m) c0 c4 k_fi0 k_fi1 k_wi0 k_wi2
  by_cases on : 0 ≤ t.fi ∧ t.win = -1
  · obtain ⟨f0, hw⟩ := id on
    have hpnn := k_pn f0 hw
    rw [decide_eq_true on] at x1
    obtain ⟨w0, hw0⟩ : ∃ w0, w0 = gI m 79 := ⟨_, rfl⟩
    obtain ⟨P, hP⟩ : ∃ P, P = opOf w0 law n mg t.fi wd false := ⟨_, rfl⟩
    have hPn : P.n = n := by rw [hP, opOf_n]
    have hPd : P.dw = wd := by rw [hP, opOf_dw]
    have hgr : ∀ s, 0 ≤ gvl P t s ∧ gvl P t s ≤ 52428800 := fun s => gvl_rng (by rw [hPd]; exact h.gr.dw0) (by rw [hPd]; exact h.gr.dw9) (by rw [hPn]; omega)
    have htr := fun s => trn_rng (w := a) hgr (by omega) s
    have hal := four_le (n - (t.pl + 1)).toNat (by omega)
    have hvo : ∀ s, vOK (aftV P t s) (four (n - (t.pl + 1)).toNat) := fun s => by
      have := aftV_ok (P := P) (t := t) (s := s)
      rw [hPn] at this
      exact this
    have x3 := Tbatting_eq (t := t) (m := m) c0 c1 c5 k_in0 k_in3 k_fo
    have hfb := batZ_fb (t := t) k_in0 k_in3 k_fo
    -- the class
    have tst : ∀ (s : Nat) (C : Nat) (mm : Mem) (nf : Nat) (Q : (Nat ⊕ Int32) → Mem → Prop), s < 4 → IV C law n mg wd tx bc t mm → w0 = gI mm 79 → C ≤ 200000 → (∀ m2, IV (C + 1) law n mg wd tx bc t m2 → w0 = gI m2 79 → Ok (F_T_turning_L35 a (fb (kdZ t.inn t.fol)) nf (iI (trn a (gvl P t) (s + 1)).1) (iL (trn a (gvl P t) (s + 1)).2) (iI ((s + 1 : Nat) : Int)) m2) Q) → Ok (F_T_turning_L35 a (fb (kdZ t.inn t.fol)) (nf + 1) (iI (trn a (gvl P t) s).1) (iL (trn a (gvl P t) s).2) (iI (s : Int)) mm) Q := by
      intro s C mm nf Q hs hC hwm hC6 hq
      obtain ⟨_, m1, e1, rfl, iv1, hw1, -⟩ := Tafter_ok hC (by omega) (s := s) (by omega) (by omega) f0 hw
      rw [← hwm, ← hP] at e1
      rw [F_T_turning_L35]
      refine ok_f (by rw [lt4, iI_le (by omega) (by omega) (by omega) (by omega)]; omega) ?_
      rw [bnd_some e1, show gI m1 16 3 = iI t.pl from iv1.cm.2.2.2.1, lt1, iI_add, show gI m1 3 5 = iI wd from iv1.gr.cdw, bnd_some (valueOf_eq iv1.gr.cn k_n9 (by omega) (by omega) _ _ (hvo s) hal h.gr.dw0 h.gr.dw9), if_pos rfl]
      have hg1 : 100 * (aftV P t s).1 + wd * (four (n - (t.pl + 1)).toNat - (aftV P t s).1 - (aftV P t s).2) = gvl P t s := by unfold gvl; rw [hPd, hPn]
      rw [hg1]
      have r1 := htr s
      have r2 := hgr s
      have hgo := hq m1 iv1 (by rw [hwm, hw1])
      simp only [trn, updT] at hgo
      refine ok_ltk (fun k1 hk1 => ok_ltk (fun k2 hk2 => ?_))
      have kset : ((s : Int) = 0 ∨ (if a = true then gvl P t s < (trn a (gvl P t) s).2 else (trn a (gvl P t) s).2 < gvl P t s)) → Ok (k2 m1) Q := by
        intro hc
        rw [if_pos hc] at hgo
        rw [hk2]
        dsimp only
        rw [hk1]
        dsimp only
        rw [lt_def, iI_add]
        exact hgo
      have kkeep : ¬ ((s : Int) = 0 ∨ (if a = true then gvl P t s < (trn a (gvl P t) s).2 else (trn a (gvl P t) s).2 < gvl P t s)) → Ok (k1 (iI (trn a (gvl P t) s).1) (iL (trn a (gvl P t) s).2) m1) Q := by
        intro hc
        rw [if_neg hc] at hgo
        rw [hk1]
        dsimp only
        rw [lt_def, iI_add]
        exact hgo
      by_cases hs0 : (s : Int) = 0
      · exact ok_t (by rw [hs0]; rfl) (kset (Or.inl hs0))
      · refine ok_f (by rw [lt0, iI_eq (by omega) (by omega) (by omega) (by omega)]; exact hs0) ?_
        cases a
        · refine ok_f (by decide) ?_
          by_cases hc : (trn false (gvl P t) s).2 < gvl P t s
          · exact ok_f (by rw [iL_le (by omega) (by omega) (by omega) (by omega)]; omega) (kset (Or.inr hc))
          · exact ok_t (by rw [iL_le (by omega) (by omega) (by omega) (by omega)]; omega) (kkeep (fun q => q.elim hs0 hc))
        · refine ok_t rfl ?_
          by_cases hc : gvl P t s < (trn true (gvl P t) s).2
          · exact ok_f (by rw [iL_le (by omega) (by omega) (by omega) (by omega)]; omega) (kset (Or.inr hc))
          · exact ok_t (by rw [iL_le (by omega) (by omega) (by omega) (by omega)]; omega) (kkeep (fun q => q.elim hs0 hc))
    have hT : Ok (F_T_turning_L35 a (fb (kdZ t.inn t.fol)) 1000000 0 0 0 m) (fun r m' => r = .inr (iI (trn a (gvl P t) 4).1) ∧ IV (B + 4) law n mg wd tx bc t m' ∧ w0 = gI m' 79) := by
      have e0 : F_T_turning_L35 a (fb (kdZ t.inn t.fol)) 1000000 0 0 0 m = F_T_turning_L35 a (fb (kdZ t.inn t.fol)) (999995 + 1 + 1 + 1 + 1 + 1) (iI (trn a (gvl P t) 0).1) (iL (trn a (gvl P t) 0).2) (iI ((0 : Nat) : Int)) m := rfl
      rw [e0]
      refine tst 0 B m _ _ (by omega) h hw0 (by omega) (fun m1 i1 g1 => ?_)
      refine tst 1 _ m1 _ _ (by omega) i1 g1 (by omega) (fun m2 i2 g2 => ?_)
      refine tst 2 _ m2 _ _ (by omega) i2 g2 (by omega) (fun m3 i3 g3 => ?_)
      refine tst 3 _ m3 _ _ (by omega) i3 g3 (by omega) (fun m4 i4 g4 => ?_)
      rw [F_T_turning_L35]
      exact ok_t (by decide) (ok_some ⟨rfl, i4, g4⟩)
    obtain ⟨_, mT, eT, rfl, ivT, hwT⟩ := hT
    -- the reference
    have mst : ∀ (s : Nat) (mm : Mem) (nf : Nat) (Q : Int32 → Mem → Prop), s < 4 → IV (B + 4) law n mg wd tx bc t mm → w0 = gI mm 79 → gI mm 78 0 = iI 0 → (∀ m2, IV (B + 4) law n mg wd tx bc t m2 → w0 = gI m2 79 → gI m2 78 0 = iI 0 → Ok (F_M_turning_L34 a nf (iI (trn a (gvl P t) (s + 1)).1) (if a = true then -iL (trn a (gvl P t) (s + 1)).2 else iL (trn a (gvl P t) (s + 1)).2) (iI ((s + 1 : Nat) : Int)) m2) Q) → Ok (F_M_turning_L34 a (nf + 1) (if s = 0 then iI (-1) else iI (trn a (gvl P t) s).1) (if a = true then -iL (trn a (gvl P t) s).2 else iL (trn a (gvl P t) s).2) (iI (s : Int)) mm) Q := by
      intro s mm nf Q hs hC hwm t0 hq
      obtain ⟨_, m1, e1, g1, d1, f1⟩ := Mafter_ok hC.gr hC.wm hC.mo f0 hw hC.bli (w := w0) hwm (s := s) (by omega) (by omega)
      rw [← hP] at g1
      have iv1 := Mscr hC (Fr_wk f1 (by simp) (by simp))
      have t1 : gI m1 78 0 = iI 0 := by rw [f1.gI (by simp) (by simp)]; exact t0
      have hgo := hq m1 iv1 (hwm.trans (Fr_row f1 rfl rfl).symm) t1
      have eg := got_eq2 (p := t.pl + 1) iv1.gr.wn k_n9 d1 h.gr.dw0 h.gr.dw9 (by omega) (by omega) g1 (hvo s)
      have hg1 : 100 * (aftV P t s).1 + wd * (four (n - (t.pl + 1)).toNat - (aftV P t s).1 - (aftV P t s).2) = gvl P t s := by unfold gvl; rw [hPd, hPn]
      rw [hg1] at eg
      have v17 : gI m1 79 17 = iI t.pl := iv1.wm.2.2.2.2.2.2.2.2.1
      have r1 := htr s
      have r2 := hgr s
      simp only [trn, updT] at hgo
      rw [F_M_turning_L34]
      refine ok_f (by rw [lt4, iI_le (by omega) (by omega) (by omega) (by omega)]; omega) ?_
      rw [bnd_some e1]
      refine ok_ltk (fun k74 hk74 => ?_)
      have main : Ok (k74 (if a = true then -iL (gvl P t s) else iL (gvl P t s)) m1) Q := by
        rw [hk74]
        dsimp only
        refine ok_ltk (fun k1 hk1 => ok_ltk (fun k2 hk2 => ?_))
        have kset : ((s : Int) = 0 ∨ (if a = true then gvl P t s < (trn a (gvl P t) s).2 else (trn a (gvl P t) s).2 < gvl P t s)) → Ok (k2 m1) Q := by
          intro hc
          rw [if_pos hc] at hgo
          rw [hk2]
          dsimp only
          rw [hk1]
          dsimp only
          rw [lt_def, lt1, iI_add]
          exact hgo
        have kkeep : ¬ ((s : Int) = 0 ∨ (if a = true then gvl P t s < (trn a (gvl P t) s).2 else (trn a (gvl P t) s).2 < gvl P t s)) → Ok (k1 (iI (trn a (gvl P t) s).1) (if a = true then -iL (trn a (gvl P t) s).2 else iL (trn a (gvl P t) s).2) m1) Q := by
          intro hc
          rw [if_neg hc] at hgo
          rw [hk1]
          dsimp only
          rw [lt_def, lt1, iI_add]
          exact hgo
        by_cases hs0 : s = 0
        · rw [if_pos hs0]
          exact ok_t (by decide) (kset (Or.inl (by omega)))
        · rw [if_neg hs0]
          refine ok_f (by rw [lt0, iI_lt (by omega) (by omega) (by omega) (by omega)]; omega) ?_
          cases a
          · rw [if_neg (show ¬ false = true by decide), if_neg (show ¬ false = true by decide)]
            by_cases hc : (trn false (gvl P t) s).2 < gvl P t s
            · exact ok_t (by rw [iL_lt (by omega) (by omega) (by omega) (by omega)]; exact hc) (kset (Or.inr hc))
            · refine ok_f (by rw [iL_lt (by omega) (by omega) (by omega) (by omega)]; exact hc) ?_
              have := kkeep (fun q => q.elim (fun q => hs0 (by omega)) hc)
              rw [if_neg (show ¬ false = true by decide)] at this
              exact this
          · rw [if_pos (show true = true from rfl), if_pos (show true = true from rfl), iL_neg, iL_neg]
            by_cases hc : gvl P t s < (trn true (gvl P t) s).2
            · exact ok_t (by rw [iL_lt (by omega) (by omega) (by omega) (by omega)]; omega) (kset (Or.inr hc))
            · refine ok_f (by rw [iL_lt (by omega) (by omega) (by omega) (by omega)]; omega) ?_
              have := kkeep (fun q => q.elim (fun q => hs0 (by omega)) hc)
              rw [if_pos (show true = true from rfl), iL_neg] at this
              exact this
      unfold F_M_played
      cases a
      · refine ok_f (by decide) ?_
        rw [bnd_e, v17, lt1, iI_add, bnd_some eg]
        rw [if_neg (show ¬ false = true by decide)] at main
        exact main
      · refine ok_t rfl ?_
        rw [bnd_e, v17, lt1, iI_add, bnd_some eg]
        rw [if_pos (show true = true from rfl)] at main
        exact main
    have hM : Ok (F_M_turning_L34 a 1000000 (-1) 0 0 (sI mT 78 0 0)) (fun r m' => r = iI (trn a (gvl P t) 4).1 ∧ IV (B + 4) law n mg wd tx bc t m' ∧ gI m' 78 0 = iI 0) := by
      have e0 : F_M_turning_L34 a 1000000 (-1) 0 0 (sI mT 78 0 0) = F_M_turning_L34 a (999995 + 1 + 1 + 1 + 1 + 1) (if (0 : Nat) = 0 then iI (-1) else iI (trn a (gvl P t) 0).1) (if a = true then -iL (trn a (gvl P t) 0).2 else iL (trn a (gvl P t) 0).2) (iI ((0 : Nat) : Int)) (sI mT 78 0 0) := by
        rw [if_pos rfl]
        cases a <;> rfl
      rw [e0]
      refine mst 0 _ _ _ (by omega) (ivT.thr thr_s) hwT rfl (fun m1 i1 g1 t1 => ?_)
      refine (show Ok (F_M_turning_L34 a _ (if (1 : Nat) = 0 then iI (-1) else iI (trn a (gvl P t) 1).1) _ _ _) _ from mst 1 m1 _ _ (by omega) i1 g1 t1 (fun m2 i2 g2 t2 => ?_))
      refine (show Ok (F_M_turning_L34 a _ (if (2 : Nat) = 0 then iI (-1) else iI (trn a (gvl P t) 2).1) _ _ _) _ from mst 2 m2 _ _ (by omega) i2 g2 t2 (fun m3 i3 g3 t3 => ?_))
      refine (show Ok (F_M_turning_L34 a _ (if (3 : Nat) = 0 then iI (-1) else iI (trn a (gvl P t) 3).1) _ _ _) _ from mst 3 m3 _ _ (by omega) i3 g3 t3 (fun m4 i4 g4 t4 => ?_))
      rw [F_M_turning_L34]
      exact ok_t (by decide) (ok_some ⟨rfl, i4, t4⟩)
    obtain ⟨_, mM, eM, rfl, ivM, tM⟩ := hM
    have x2 := Mon_eq (t := t) (m := sI mT 78 0 0) ivT.wm.2.1 ivT.wm.2.2.2.2.2.2.2.2.2.1 k_fi0 k_fi1 k_wi0 k_wi2
    rw [decide_eq_true on] at x2
    have eT1 : Ok (F_T_turning a m) (fun r m' => r = .inr (iI (trn a (gvl P t) 4).1) ∧ m' = mT) := by
      unfold F_T_turning F_T_mustBeOn
      rw [bnd_some x1]
      refine ok_bndX (ok_t rfl (ok_some ?_))
      show Ok _ _
      dsimp only
      rw [bnd_some x3, c0]
      refine ok_ltk (fun k26 hk26 => ?_)
      have hk : ∀ b : Bool, b = fb (kdZ t.inn t.fol) → Ok (k26 b m) (fun r m' => r = .inr (iI (trn a (gvl P t) 4).1) ∧ m' = mT) := by
        intro b hb
        rw [hk26, hb]
        exact ok_e eT ⟨rfl, rfl⟩
      by_cases hbf : batZ t = t.fi
      · refine ok_t (by rw [hbf]) (hk true ?_)
        cases hq : fb (kdZ t.inn t.fol)
        · rw [hq, if_neg (by decide)] at hfb
          omega
        · rfl
      · refine ok_f (by rw [iI_eq (by rw [hfb]; split <;> omega) (by rw [hfb]; split <;> omega) (by omega) (by omega)]; exact hbf) (hk false ?_)
        cases hq : fb (kdZ t.inn t.fol)
        · rfl
        · rw [hq, if_pos rfl] at hfb
          exact absurd hfb hbf
    refine ok_of eT1 (fun r m' hv => ?_)
    obtain ⟨rfl, rfl⟩ := hv
    unfold F_M_turning
    rw [lt_def, bnd_some x2]
    refine ok_ltk (fun k18 hk18 => ok_t rfl ?_)
    rw [hk18]
    dsimp only
    rw [bnd_some throwsIf_f]
    refine ok_f (by decide) (ok_e eM ⟨⟨tM, rfl⟩, ivM.inv⟩)
  · have x2 := Mon_eq (t := t) (m := sI m 78 0 0) w10 w18 k_fi0 k_fi1 k_wi0 k_wi2
    rw [decide_eq_false on] at x1 x2
    repeat' (first
      | (with_reducible refine ok_ck ?_ ?_; focus (simp (disch := omega) only [↓lt_def, ↓reduceIte, ckB_true, bnd_e, Int.reduceAdd, Int.reduceSub, Int.reduceMul, Int.reduceNeg, Int.reduceToNat, Bool.false_eq_true, eq_self, not_false_eq_true, not_true_eq_false, Int.toNat_natCast, lt0, lt1, lt2, lt3, lt4, lt5, lt6, lt7, lt8, lt9, lt10, lt11, lt12, lt13, lt14, lt15, lt16, lt17, lt18, lt19, lt20, lt21, lt22, lt23, lt24, lt25, lt26, lt27, lt28, lt29, lt30, lt31, lt32, lt40, lt41, lt43, lt48, lt55, lt57, lt59, lt60, lt62, lt63, lt64, lt70, lt72, lt81, lt97, lt99, lt100, lt122, lt162, lt180, lt235, lt255, lt298, lt299, lt325, lt335, lt400, lt837, lt999, lt1000, lt1001, lt1002, lt1003, lt1004, lt1005, lt1006, lt1007, lt1008, lt1100, lt1101, lt1102, lt1103, lt1104, lt1105, lt1135, lt1136, lt1172, lt2000, lt3278, lt3575, lt10000, lt12345, lt21450, lt32767, lt193050, lt1103515245, ltm162, ltm99, ltm81, ltm8, ltm1, iI_add, iI_sub, iI_mul, iI_neg, iI_divn, iI_lt_t, iI_lt_f, iI_le_t, iI_le_f, iI_eq_t, iI_eq_f, iI_lt, iI_le, iI_eq, iI_idx, iI_inb, gI_sI, gL_sL, gZ_sZ, gI_sL, gI_sZ, gL_sI, gL_sZ, gZ_sI, gZ_sL, Nat.reduceEqDiff, false_and, and_false, and_true, true_and, and_self]; done))
      | (with_reducible refine ok_bnd_e (x1) ?_)
      | (with_reducible refine ok_bnd_e (x2) ?_)
      | (with_reducible refine ok_bnd ?_)
      | (with_reducible refine ok_bndX ?_)
      | (with_reducible refine ok_lt ?_)
      | (with_reducible refine ok_t ?_ ?_; focus (simp (disch := omega) only [↓lt_def, ↓reduceIte, ckB_true, bnd_e, Int.reduceAdd, Int.reduceSub, Int.reduceMul, Int.reduceNeg, Int.reduceToNat, Bool.false_eq_true, eq_self, not_false_eq_true, not_true_eq_false, Int.toNat_natCast, lt0, lt1, lt2, lt3, lt4, lt5, lt6, lt7, lt8, lt9, lt10, lt11, lt12, lt13, lt14, lt15, lt16, lt17, lt18, lt19, lt20, lt21, lt22, lt23, lt24, lt25, lt26, lt27, lt28, lt29, lt30, lt31, lt32, lt40, lt41, lt43, lt48, lt55, lt57, lt59, lt60, lt62, lt63, lt64, lt70, lt72, lt81, lt97, lt99, lt100, lt122, lt162, lt180, lt235, lt255, lt298, lt299, lt325, lt335, lt400, lt837, lt999, lt1000, lt1001, lt1002, lt1003, lt1004, lt1005, lt1006, lt1007, lt1008, lt1100, lt1101, lt1102, lt1103, lt1104, lt1105, lt1135, lt1136, lt1172, lt2000, lt3278, lt3575, lt10000, lt12345, lt21450, lt32767, lt193050, lt1103515245, ltm162, ltm99, ltm81, ltm8, ltm1, iI_add, iI_sub, iI_mul, iI_neg, iI_divn, iI_lt_t, iI_lt_f, iI_le_t, iI_le_f, iI_eq_t, iI_eq_f, iI_lt, iI_le, iI_eq, iI_idx, iI_inb, gI_sI, gL_sL, gZ_sZ, gI_sL, gI_sZ, gL_sI, gL_sZ, gZ_sI, gZ_sL, Nat.reduceEqDiff, false_and, and_false, and_true, true_and, and_self]; done))
      | (with_reducible refine ok_f ?_ ?_; focus (simp (disch := omega) only [↓lt_def, ↓reduceIte, ckB_true, bnd_e, Int.reduceAdd, Int.reduceSub, Int.reduceMul, Int.reduceNeg, Int.reduceToNat, Bool.false_eq_true, eq_self, not_false_eq_true, not_true_eq_false, Int.toNat_natCast, lt0, lt1, lt2, lt3, lt4, lt5, lt6, lt7, lt8, lt9, lt10, lt11, lt12, lt13, lt14, lt15, lt16, lt17, lt18, lt19, lt20, lt21, lt22, lt23, lt24, lt25, lt26, lt27, lt28, lt29, lt30, lt31, lt32, lt40, lt41, lt43, lt48, lt55, lt57, lt59, lt60, lt62, lt63, lt64, lt70, lt72, lt81, lt97, lt99, lt100, lt122, lt162, lt180, lt235, lt255, lt298, lt299, lt325, lt335, lt400, lt837, lt999, lt1000, lt1001, lt1002, lt1003, lt1004, lt1005, lt1006, lt1007, lt1008, lt1100, lt1101, lt1102, lt1103, lt1104, lt1105, lt1135, lt1136, lt1172, lt2000, lt3278, lt3575, lt10000, lt12345, lt21450, lt32767, lt193050, lt1103515245, ltm162, ltm99, ltm81, ltm8, ltm1, iI_add, iI_sub, iI_mul, iI_neg, iI_divn, iI_lt_t, iI_lt_f, iI_le_t, iI_le_f, iI_eq_t, iI_eq_f, iI_lt, iI_le, iI_eq, iI_idx, iI_inb, gI_sI, gL_sL, gZ_sZ, gI_sL, gI_sZ, gL_sI, gL_sZ, gZ_sI, gZ_sL, Nat.reduceEqDiff, false_and, and_false, and_true, true_and, and_self]; done))
      | ((with_reducible refine ok_ite (fun hc => ?_) (fun hc => ?_)) <;> (try simp (disch := omega) only [↓lt_def, ↓reduceIte, ckB_true, bnd_e, Int.reduceAdd, Int.reduceSub, Int.reduceMul, Int.reduceNeg, Int.reduceToNat, Bool.false_eq_true, eq_self, not_false_eq_true, not_true_eq_false, Int.toNat_natCast, lt0, lt1, lt2, lt3, lt4, lt5, lt6, lt7, lt8, lt9, lt10, lt11, lt12, lt13, lt14, lt15, lt16, lt17, lt18, lt19, lt20, lt21, lt22, lt23, lt24, lt25, lt26, lt27, lt28, lt29, lt30, lt31, lt32, lt40, lt41, lt43, lt48, lt55, lt57, lt59, lt60, lt62, lt63, lt64, lt70, lt72, lt81, lt97, lt99, lt100, lt122, lt162, lt180, lt235, lt255, lt298, lt299, lt325, lt335, lt400, lt837, lt999, lt1000, lt1001, lt1002, lt1003, lt1004, lt1005, lt1006, lt1007, lt1008, lt1100, lt1101, lt1102, lt1103, lt1104, lt1105, lt1135, lt1136, lt1172, lt2000, lt3278, lt3575, lt10000, lt12345, lt21450, lt32767, lt193050, lt1103515245, ltm162, ltm99, ltm81, ltm8, ltm1, iI_add, iI_sub, iI_mul, iI_neg, iI_divn, iI_lt_t, iI_lt_f, iI_le_t, iI_le_f, iI_eq_t, iI_eq_f, iI_lt, iI_le, iI_eq, iI_idx, iI_inb, gI_sI, gL_sL, gZ_sZ, gI_sL, gI_sZ, gL_sI, gL_sZ, gZ_sI, gZ_sL, Nat.reduceEqDiff, false_and, and_false, and_true, true_and, and_self] at hc) <;> (try (exfalso; omega)))
      | (with_reducible refine ok_some ?_)
      | (with_reducible refine ok_xr ?_)
      | (with_reducible refine ok_xl ?_)
      | (unfold F_T_turning)
      | (unfold F_T_mustBeOn)
      | (unfold F_M_turning)
      | (unfold F_M_throwsIf))
    all_goals exact ⟨ans_l (by decide) rfl, ((h.thr thr_ss).up (by omega)).inv⟩
end TURN
