section COSTE
theorem canBe_eq {t : Mt} {m : Mem} {n mg c : Int} (hw : WM m 79 0 t) (mo : MtOk t n) (hn9 : n ≤ 9) (f0 : 0 ≤ t.fi) (hwn : t.win = -1) (hmg : gI m 79 1 = iI mg) (g0 : 0 ≤ mg) (g9 : mg ≤ 99) (c0 : 0 ≤ c) (c3 : c ≤ 3) : F_M_canBe (iI c) m = some (decide (c = 0 ∨ c = ocT t mg), m) := by
  obtain ⟨w9, w10, w11, w12, w13, w14, w15, w16, w17, w18, wlg⟩ := hw
  simp only [Nat.zero_add] at w9 w10 w11 w12 w13 w14 w15 w16 w17 w18
  have pl1 := mo.pl1
  have a1 := mo.a1
  have b1 := mo.b1
  obtain ⟨o1, o2, o3⟩ := ocT_eq (mg := mg) mo f0 hwn
  have x1 := Mon_eq (t := t) (m := m) w10 w18 mo.fi0 mo.fi1 mo.wi0 mo.wi2
  rw [decide_eq_true (show 0 ≤ t.fi ∧ t.win = -1 from ⟨f0, hwn⟩)] at x1
  have x2 := McanD_eq (t := t) (m := m) w10 w11 w18 w14 mo.fi0 mo.fi1 mo.wi0 mo.wi2 mo.in0 mo.in3
  have x3 := McanF_eq (t := t) (m := m) (mg := mg) w10 w11 w18 w12 w14 w15 w16 hmg mo.fi0 mo.fi1 mo.wi0 mo.wi2 mo.in0 mo.in3 mo.a0 (by omega) mo.b0 (by omega) g0 g9
  rw [o1] at x2
  rw [o2] at x3
  unfold F_M_canBe
  rcases (show c = 0 ∨ c = 1 ∨ c = 2 ∨ c = 3 by omega) with rfl | rfl | rfl | rfl
  · rw [if_pos (show iI 0 = (0 : Int32) from rfl), bnd_some x1, decide_eq_true (Or.inl rfl)]
  · rw [if_neg (show ¬ iI 1 = (0 : Int32) by decide), if_pos (show iI 1 = (1 : Int32) from rfl), bnd_some x2]
    congr 2
    rw [decide_eq_decide]
    omega
  · rw [if_neg (show ¬ iI 2 = (0 : Int32) by decide), if_neg (show ¬ iI 2 = (1 : Int32) by decide), if_pos (show iI 2 = (2 : Int32) from rfl), bnd_some x3]
    congr 2
    rw [decide_eq_decide]
    omega
  · rw [if_neg (show ¬ iI 3 = (0 : Int32) by decide), if_neg (show ¬ iI 3 = (1 : Int32) by decide), if_neg (show ¬ iI 3 = (2 : Int32) by decide)]
    have hh : F_M_canHold m = some (decide (t.inn = 3), m) := by
      unfold F_M_canHold
      rw [bnd_some x1, if_pos rfl, w11]
      by_cases h3 : t.inn = 3
      · rw [if_pos (by rw [h3]; rfl), decide_eq_true h3]
      · rw [if_neg (by rw [lt3, iI_eq (by have := mo.in0; omega) (by have := mo.in3; omega) (by omega) (by omega)]; exact h3), decide_eq_false h3]
    rw [bnd_some hh, o3]
    congr 2
    rw [decide_eq_decide]
    omega
theorem Mcost_loop {law : Option (List (Int × List Int))} {P : OP} {n mg tx bc wd : Int} {t : Mt} {m0 : Mem} (hB : MB law P mg tx bc t.fi wd false wd m0) (hPn : P.n = n) (mo : MtOk t n) (f0 : 0 ≤ t.fi) (hwn : t.win = -1) {ld more : Int} (hmo : MO P more) (l0 : -ld ≤ leadZ t (batZ t)) (l1 : leadZ t (batZ t) ≤ ld) (hld : ld + 9 ≤ 162) (kk : Int64 → Mem → Option (Int64 × Mem)) (Q : Int64 → Mem → Prop) (vg vo : Int) (hvg : vg = vl P (four (n - t.pl).toNat) (goV P t)) (hvo : vo = vl P (four (n - t.pl).toNat) (owV P t)) (r1 : 0 ≤ vg) (r2 : vg ≤ 60000000) (r3 : 0 ≤ vo) (r4 : vo ≤ 60000000) (hk : ∀ m, WM m 79 0 t → LaSt law P t.fi m0 t.pl t.pl ld more m → Ok (kk (iL (if ocT t mg = 0 then vg else max vg vo)) m) Q) (m : Mem) (hw : WM m 79 0 t) (la : LaSt law P t.fi m0 t.pl t.pl ld more m) : Ok (F_M_cost_L67 kk 1000000 0 0 m) Q := by
  have hmg9 := hB.gr.mg9
  have hmg0 := hB.gr.mg0
  have n9 : n ≤ 9 := by have := hB.gr.n9; omega
  have hoc : ocT t mg = 0 ∨ ocT t mg = 1 ∨ ocT t mg = 2 ∨ ocT t mg = 3 := by
    unfold ocT oc
    split
    · simp
    · split
      · split <;> simp
      · simp
  have st : ∀ (c b : Int) (nf : Nat) (m : Mem), 0 ≤ c → c ≤ 3 → 0 ≤ b → b ≤ 60000000 → WM m 79 0 t → LaSt law P t.fi m0 t.pl t.pl ld more m → (∀ m', WM m' 79 0 t → LaSt law P t.fi m0 t.pl t.pl ld more m' → Ok (F_M_cost_L67 kk nf (iL (if c = 0 then max b vg else if c = ocT t mg then max b vo else b)) (iI (c + 1)) m') Q) → Ok (F_M_cost_L67 kk (nf + 1) (iL b) (iI c) m) Q := by
    intro c b nf m c0 c3 b0 b1 hw la hq
    have hmg : gI m 79 1 = iI mg := (la.1.I (by simp) (by simp)).trans hB.gr.wmg
    have hcb := canBe_eq (c := c) hw mo n9 f0 hwn hmg hmg0 hmg9 c0 c3
    rw [F_M_cost_L67]
    refine ok_f (by rw [lt4, iI_le (by omega) (by omega) (by omega) (by omega)]; omega) ?_
    rw [bnd_some hcb]
    refine ok_ltk (fun k96 hk96 => ?_)
    by_cases hc : c = 0 ∨ c = ocT t mg
    · refine ok_t (decide_eq_true hc) ?_
      refine ok_bnd (ok_of (MworthBy_ok hB hPn hw mo f0 hwn hmo la l0 l1 hld c0 c3 hc) (fun v m' hv => ?_))
      obtain ⟨rfl, f⟩ := hv
      have hw' : WM m' 79 0 t := hw.to (fun j => f.gI (by simp) (by simp))
      have la' : LaSt law P t.fi m0 t.pl t.pl ld more m' := ⟨la.1.tr f, fun p => (la.2.1 p).fr f, fun p a b => (la.2.2 p a b).fr f⟩
      have h2 := hq m' hw' la'
      rw [← hvg, ← hvo, hk96]
      dsimp only
      rw [mxL_iL (by omega) (by omega) (by split <;> omega) (by split <;> omega), lt_def, lt1, iI_add]
      by_cases hc0 : c = 0
      · rw [if_pos hc0] at h2 ⊢
        exact h2
      · rw [if_neg hc0, if_pos (hc.resolve_left hc0)] at h2
        rw [if_neg hc0]
        exact h2
    · refine ok_f (by rw [decide_eq_false hc]; decide) ?_
      have h2 := hq m hw la
      rw [if_neg (fun q => hc (Or.inl q)), if_neg (fun q => hc (Or.inr q))] at h2
      rw [hk96]
      dsimp only
      rw [lt_def, lt1, iI_add]
      exact h2
  have e0 : F_M_cost_L67 kk 1000000 0 0 m = F_M_cost_L67 kk (999995 + 1 + 1 + 1 + 1 + 1) (iL 0) (iI 0) m := rfl
  rw [e0]
  refine st 0 0 _ m (by omega) (by omega) (by omega) (by omega) hw la (fun m1 h1 a1 => ?_)
  rw [if_pos rfl, show max 0 vg = vg by omega]
  refine st (0 + 1) vg _ m1 (by omega) (by omega) r1 r2 h1 a1 (fun m2 h2 a2 => ?_)
  rw [if_neg (show ¬ (0 : Int) + 1 = 0 by omega)]
  refine st (0 + 1 + 1) _ _ m2 (by omega) (by omega) (by split <;> omega) (by split <;> omega) h2 a2 (fun m3 h3 a3 => ?_)
  rw [if_neg (show ¬ (0 : Int) + 1 + 1 = 0 by omega)]
  refine st (0 + 1 + 1 + 1) _ _ m3 (by omega) (by omega) (by (repeat' split) <;> omega) (by (repeat' split) <;> omega) h3 a3 (fun m4 h4 a4 => ?_)
  rw [if_neg (show ¬ (0 : Int) + 1 + 1 + 1 = 0 by omega)]
  rw [F_M_cost_L67]
  refine ok_t (by decide) ?_
  have h5 := hk m4 h4 a4
  have e : (if (0 : Int) + 1 + 1 + 1 = ocT t mg then max (if (0 : Int) + 1 + 1 = ocT t mg then max (if (0 : Int) + 1 = ocT t mg then max vg vo else vg) vo else if (0 : Int) + 1 = ocT t mg then max vg vo else vg) vo else if (0 : Int) + 1 + 1 = ocT t mg then max (if (0 : Int) + 1 = ocT t mg then max vg vo else vg) vo else if (0 : Int) + 1 = ocT t mg then max vg vo else vg) = if ocT t mg = 0 then vg else max vg vo := by
    rcases hoc with h | h | h | h <;> rw [h] <;> simp
  rw [e]
  exact h5
end COSTE
