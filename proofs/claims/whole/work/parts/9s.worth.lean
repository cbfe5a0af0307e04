section WORTH
theorem tvZ_rng {w : Nat → Int32} {law : Option (List (Int × List Int))} {n mg wd s f : Int} (n9 : n ≤ 9) (d0 : 0 ≤ wd) (d1 : wd ≤ 100) : 0 ≤ tvZ w law n mg wd s f ∧ tvZ w law n mg wd s f ≤ 52428800 := by
  obtain ⟨k1, k2, k3⟩ := NV_ok (w := w) (law := law) (n := n) (mg := mg) (wd := wd) (f := f)
  have h4 := four_le n.toNat (by omega)
  have h5 : 0 ≤ wd * (four n.toNat - (NV w law n mg wd f).1 - (NV w law n mg wd f).2) := Int.mul_nonneg d0 (by omega)
  have h6 : wd * (four n.toNat - (NV w law n mg wd f).1 - (NV w law n mg wd f).2) ≤ 100 * (four n.toNat - (NV w law n mg wd f).1 - (NV w law n mg wd f).2) := Int.mul_le_mul_of_nonneg_right d1 (by omega)
  unfold tvZ
  split <;> omega
theorem Mtoss_ok {B : Nat} {law : Option (List (Int × List Int))} {n mg wd tx bc : Int} {t : Mt} {m : Mem} (h : IV B law n mg wd tx bc t m) {s : Int} (b : Bool) (s0 : 0 ≤ s) (s1 : s ≤ 1) {w : Nat → Int32} (hw : w = gI m 79) : Ok (F_M_tossWorth (iI s) b m) (fun v m' => v = iL (tvZ w law n mg wd s (if b = true then s else 1 - s)) ∧ IV B law n mg wd tx bc t m' ∧ w = gI m' 79 ∧ gI m' 78 0 = gI m 78 0) := by
  have n9 := h.gr.n9
  have n1 := h.gr.n1
  have hal := four_le n.toNat (by omega)
  suffices hh : Ok (F_M_tossWorth (iI s) b m) (fun v m' => v = iL (tvZ w law n mg wd s (if b = true then s else 1 - s))) by
    obtain ⟨a, m', e1, e2⟩ := hh
    have hf := fr_M_tossWorth _ _ _ _ _ e1
    exact ⟨a, m', e1, e2, Mscr h (Fr_wk hf (by simp) (by simp)), by rw [hw]; exact (Fr_row hf rfl rfl).symm, hf.gI (by simp) (by simp)⟩
  have ht : IV B law n mg wd tx bc t (sI m 78 21 (iI wd)) := Mscr h (Fr_sI rfl Fr_rf (by simp))
  unfold F_M_tossWorth
  rw [h.gr.wdw]
  refine ok_lt (ok_ltk (fun k hk => ?_))
  have go : ∀ f : Int, 0 ≤ f → f ≤ 1 → f = (if b = true then s else 1 - s) → Ok (k (iI f) (sI m 78 21 (iI wd))) (fun v m' => v = iL (tvZ w law n mg wd s (if b = true then s else 1 - s))) := by
    intro f f0 f1 hf
    rw [← hf, hk]
    dsimp only
    have hB := ht.MB (f := f) (dw := wd) (bl := false) (w := w) f0 f1 h.gr.dw0 h.gr.dw9 (by rw [gI_sI, if_pos ⟨rfl, rfl⟩]) h.bli (by rw [hw]; funext j; rw [gI_sI, if_neg (fun q => absurd q.1 (by decide))])
    obtain ⟨more, hmo, hla, -⟩ := layers_ok hB (from' := 0) (lead := 0) (by omega) (by rw [opOf_n]; omega) (by omega) (by omega) (by rw [opOf_n]; omega)
    rw [lt0, lt10]
    refine ok_bnd (ok_of hla (fun _ m2 la => ?_))
    have hcell := la.2.2 0 (Or.inl rfl) (by rw [opOf_n]; omega) 0 10 0 (by omega) (by omega) (by omega) (by omega) (by omega) (by omega)
    rw [opOf_n, Int.sub_zero, mu0] at hcell
    obtain ⟨_, m3, e3, g3, f3⟩ := takes_ok (p := 0) (j := 0) (o := 10) (l := 0) (m := m2) (by omega) (by omega) (by omega) (by omega) (by omega) (by omega) (by omega) (by omega) hcell.1 hcell.2
    have s3 := la.1.tr f3
    have hn3 : gI m3 79 0 = iI n := (s3.I (by simp) (by simp)).trans (hB.gr.wn.trans (by rw [opOf_n]))
    have hd3 : gI m3 78 21 = iI wd := (s3.I (by simp) (by simp)).trans hB.hd
    rw [bnd_some e3]
    have g3' : GW m3 (NV w law n mg wd f) := g3
    have hvo := NV_ok (w := w) (law := law) (n := n) (mg := mg) (wd := wd) (f := f)
    cases b
    · refine ok_f (by decide) ?_
      rw [if_neg (show ¬ false = true by decide)] at hf
      obtain ⟨v1, v2, v3⟩ := hvo
      have d0 := h.gr.dw0
      have d1 := h.gr.dw9
      have ea := Mall_eq (q := 0) hn3 n9 (by omega) (by omega)
      rw [Int.sub_zero] at ea
      unfold F_M_worthOf
      rw [g3'.1, g3'.2, bnd_some ea, hd3, lt_def, iI_sub, iI_sub, iI_L (by omega) (by omega), iI_L (by omega) (by omega), iI_L (by omega) (by omega), show (100 : Int64) = iL 100 from rfl, iL_mul, iL_mul, iL_add, bnd_e]
      refine ok_some ?_
      unfold tvZ
      rw [if_neg (by omega), show four n.toNat - (NV w law n mg wd f).2 - (NV w law n mg wd f).1 = four n.toNat - (NV w law n mg wd f).1 - (NV w law n mg wd f).2 by omega]
    · refine ok_t rfl ?_
      rw [if_pos rfl] at hf
      have eg := got_eq2 (p := 0) hn3 n9 hd3 h.gr.dw0 h.gr.dw9 (by omega) (by omega) g3' (by rw [Int.sub_zero]; exact hvo)
      rw [Int.sub_zero] at eg
      rw [bnd_some eg]
      refine ok_some ?_
      unfold tvZ
      rw [if_pos hf.symm]
  cases b
  · refine ok_f (by decide) ?_
    rw [lt1, iI_sub]
    exact go (1 - s) (by omega) (by omega) (by rw [if_neg (by decide)])
  · refine ok_t rfl ?_
    exact go s s0 s1 (by rw [if_pos rfl])
/-- what a side is left with when the other one has won the toss -/
def lfZ (w : Nat → Int32) (law : Option (List (Int × List Int))) (n mg wd s : Int) : Int := if tvZ w law n mg wd (1 - s) (1 - s) < tvZ w law n mg wd (1 - s) s then tvZ w law n mg wd s s else tvZ w law n mg wd s (1 - s)
theorem Tleft_ok {B : Nat} {law : Option (List (Int × List Int))} {n mg wd tx bc : Int} {t : Mt} {m : Mem} (h : IV B law n mg wd tx bc t m) (hB6 : B ≤ 900000) {s : Int} (s0 : 0 ≤ s) (s1 : s ≤ 1) : Ok (F_T_leftValue (iI s) m) (fun v m' => v = iL (lfZ (gI m 79) law n mg wd s) ∧ IV (B + 3) law n mg wd tx bc t m' ∧ gI m' 79 = gI m 79) := by
  have r := fun a b => tvZ_rng (w := gI m 79) (law := law) (n := n) (mg := mg) (wd := wd) (s := a) (f := b) h.gr.n9 h.gr.dw0 h.gr.dw9
  have r1 := r (1 - s) (1 - s)
  have r2 := r (1 - s) s
  unfold F_T_leftValue
  rw [lt1, iI_sub]
  refine ok_lt (ok_bnd (ok_of (Ttoss_ok h (by omega) (s := 1 - s) (f := 1 - s) (by omega) (by omega) (by omega) (by omega)) (fun v m1 hv => ?_)))
  obtain ⟨rfl, i1, w1⟩ := hv
  refine ok_bnd (ok_of (Ttoss_ok i1 (by omega) (s := 1 - s) (f := s) (by omega) (by omega) s0 s1) (fun v m2 hv => ?_))
  obtain ⟨rfl, i2, w2⟩ := hv
  rw [w1] at w2 ⊢
  refine ok_ltk (fun k hk => ?_)
  unfold lfZ
  by_cases hc : tvZ (gI m 79) law n mg wd (1 - s) (1 - s) < tvZ (gI m 79) law n mg wd (1 - s) s
  · refine ok_t (by rw [iL_lt (by omega) (by omega) (by omega) (by omega)]; exact hc) ?_
    rw [if_pos hc, hk]
    dsimp only
    refine ok_lt (ok_f (by decide) (ok_bnd (ok_of (Ttoss_ok i2 (by omega) (s := s) (f := s) s0 s1 s0 s1) (fun v m3 hv => ok_some ⟨?_, hv.2.1, hv.2.2.trans w2⟩))))
    rw [hv.1, w2]
  · refine ok_f (by rw [iL_lt (by omega) (by omega) (by omega) (by omega)]; exact hc) ?_
    rw [if_neg hc, hk]
    dsimp only
    refine ok_lt (ok_t rfl (ok_bnd (ok_of (Ttoss_ok i2 (by omega) (s := s) (f := 1 - s) s0 s1 (by omega) (by omega)) (fun v m3 hv => ok_some ⟨?_, hv.2.1, hv.2.2.trans w2⟩))))
    rw [hv.1, w2]
theorem Mleft_ok {B : Nat} {law : Option (List (Int × List Int))} {n mg wd tx bc : Int} {t : Mt} {m : Mem} (h : IV B law n mg wd tx bc t m) {s : Int} (s0 : 0 ≤ s) (s1 : s ≤ 1) {w : Nat → Int32} (hw : w = gI m 79) : Ok (F_M_leftTo (iI s) m) (fun v m' => v = iL (lfZ w law n mg wd s) ∧ IV B law n mg wd tx bc t m' ∧ w = gI m' 79 ∧ gI m' 78 0 = gI m 78 0) := by
  have r := fun a b => tvZ_rng (w := w) (law := law) (n := n) (mg := mg) (wd := wd) (s := a) (f := b) h.gr.n9 h.gr.dw0 h.gr.dw9
  have r1 := r (1 - s) (1 - s)
  have r2 := r (1 - s) s
  unfold F_M_leftTo
  rw [lt1, iI_sub]
  refine ok_bnd (ok_of (Mtoss_ok h true (s := 1 - s) (by omega) (by omega) hw) (fun v m1 hv => ?_))
  obtain ⟨rfl, i1, w1, t1⟩ := hv
  refine ok_bnd (ok_of (Mtoss_ok i1 false (s := 1 - s) (by omega) (by omega) w1) (fun v m2 hv => ?_))
  obtain ⟨rfl, i2, w2, t2⟩ := hv
  rw [if_pos (show true = true from rfl), if_neg (show ¬ false = true by decide), show (1 : Int) - (1 - s) = s by omega]
  refine ok_ltk (fun k hk => ?_)
  unfold lfZ
  by_cases hc : tvZ w law n mg wd (1 - s) (1 - s) < tvZ w law n mg wd (1 - s) s
  · refine ok_f (by rw [iL_le (by omega) (by omega) (by omega) (by omega)]; omega) ?_
    rw [if_pos hc, hk]
    dsimp only
    refine ok_bnd (ok_of (Mtoss_ok i2 true s0 s1 w2) (fun v m3 hv => ok_some ⟨?_, hv.2.1, hv.2.2.1, hv.2.2.2.trans (t2.trans t1)⟩))
    rw [hv.1, if_pos rfl]
  · refine ok_t (by rw [iL_le (by omega) (by omega) (by omega) (by omega)]; omega) ?_
    rw [if_neg hc, hk]
    dsimp only
    refine ok_bnd (ok_of (Mtoss_ok i2 false s0 s1 w2) (fun v m3 hv => ok_some ⟨?_, hv.2.1, hv.2.2.1, hv.2.2.2.trans (t2.trans t1)⟩))
    rw [hv.1, if_neg (by decide)]
end WORTH
