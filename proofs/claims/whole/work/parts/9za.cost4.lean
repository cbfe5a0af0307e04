section COSTD
theorem countsNow2_ok {law : Option (List (Int × List Int))} {n mg wd tx bc : Int} {t : Mt} {m : Mem} (hg : GR m 3 4 5 6 7 8 9 12 13 79 law n mg wd tx bc) (hw : WM m 79 0 t) (mo : MtOk t n) (f0 : 0 ≤ t.fi) (hwn : t.win = -1) (hb : gZ m 78 22 = false) {w : Nat → Int32} (hw79 : w = gI m 79) : ∃ m0 more, MB law (opOf w law n mg t.fi wd false) mg tx bc t.fi wd false wd m0 ∧ MO (opOf w law n mg t.fi wd false) more ∧ Ok (F_M_countsNow m) (fun _ m' => LaSt law (opOf w law n mg t.fi wd false) t.fi m0 t.pl t.pl (if leadZ t (batZ t) < 0 then -leadZ t (batZ t) else leadZ t (batZ t)) more m' ∧ Fr [85, 86, 87, 88] [(78, 20), (78, 21), (78, 23), (78, 24)] m m') := by
  obtain ⟨w9, w10, w11, w12, w13, w14, w15, w16, w17, w18, wlg⟩ := hw
  simp only [Nat.zero_add] at w9 w10 w11 w12 w13 w14 w15 w16 w17 w18
  have k_fi1 := mo.fi1
  have k_in0 := mo.in0
  have k_in3 := mo.in3
  have k_pl0 := mo.pl0
  have k_pl1 := mo.pl1
  have k_a0 := mo.a0
  have k_a1 := mo.a1
  have k_b0 := mo.b0
  have k_b1 := mo.b1
  have n9 := hg.n9
  have hbr := batZ_rng f0 k_fi1
  have hsp := spZ_rng mo
  have hpn := mo.pn f0 hwn
  have q : ∀ j, gI (sI m 78 21 (iI wd)) 79 j = gI m 79 j := fun j => by rw [gI_sI, if_neg (fun q => absurd q.1 (by decide))]
  have hld : -81 ≤ leadZ t (batZ t) ∧ leadZ t (batZ t) ≤ 81 ∧ leadZ t (batZ t) ≤ 9 * t.pl ∧ -(9 * t.pl) ≤ leadZ t (batZ t) := by unfold leadZ; split <;> omega
  have hgs : GR (sI m 78 21 (iI wd)) 3 4 5 6 7 8 9 12 13 79 law n mg wd tx bc := GR_told hg (fun o ho j => by rw [gI_sI, if_neg (fun q => by have := q.1; omega)]) (fun j _ => q j)
  have hB := MB_of hgs (f := t.fi) (dw := wd) (bl := false) (w := w) f0 k_fi1 hg.dw0 hg.dw9 (by rw [gI_sI, if_pos ⟨rfl, rfl⟩]) hb (by rw [hw79]; funext j; exact (q j).symm)
  obtain ⟨more, hmo, hla, -⟩ := layers_ok hB (from' := t.pl) (lead := if leadZ t (batZ t) < 0 then -leadZ t (batZ t) else leadZ t (batZ t)) k_pl0 (by rw [opOf_n]; exact k_pl1) (by split <;> omega) (by split <;> omega) (by rw [opOf_n]; split <;> omega)
  refine ⟨_, more, hB, hmo, ?_⟩
  suffices hh : Ok (F_M_countsNow m) (fun _ m' => LaSt law (opOf w law n mg t.fi wd false) t.fi (sI (sI m 78 21 (iI wd)) 78 20 (iI t.fi)) t.pl t.pl (if leadZ t (batZ t) < 0 then -leadZ t (batZ t) else leadZ t (batZ t)) more m') by
    obtain ⟨a, m', e1, e2⟩ := hh
    exact ⟨a, m', e1, e2, fr_M_countsNow _ _ _ e1⟩
  unfold F_M_countsNow
  rw [hg.wdw]
  refine ok_lt ?_
  rw [bnd_some (Mover_eq ((q 18).trans w18) mo.wi0 mo.wi2), decide_eq_false (show ¬ 0 ≤ t.win by omega)]
  refine ok_f (by decide) ?_
  rw [bnd_some (Mbatter_eq (t := t) ((q 10).trans w10) ((q 11).trans w11) ((q 12).trans w12) k_in0 k_in3), bnd_some (Mlead_eq (t := t) ((q 15).trans w15) ((q 16).trans w16) hbr.1 hbr.2)]
  unfold F_M_firstSide F_M_played
  rw [bnd_e, bnd_e, q 10, w10, q 17, w17, abI_eq (by omega) (by omega)]
  refine ok_bnd (ok_of hla (fun _ m2 la => ?_))
  have q2 : ∀ j, gI m2 79 j = gI m 79 j := fun j => (la.1.I (by simp) (by simp)).trans (by rw [gI_sI, if_neg (fun q => absurd q.1 (by decide)), q])
  rw [bnd_e, q2 17, w17, bnd_some (kindNow_eq (t := t) ((q2 11).trans w11) ((q2 12).trans w12) k_in0 k_in3), bnd_some (outNow_eq (t := t) ((q2 13).trans w13) ((q2 14).trans w14))]
  obtain ⟨kk1, kk2, kk3, kk4, kk5⟩ := kdZ_eq (i := t.inn) (fo := t.fol) k_in0 k_in3
  have hcell := la.2.2 t.pl (Or.inl rfl) (by rw [opOf_n]; exact hpn) (jdZ t.inn t.fol) (spZ t) (leadZ t (batZ t)) kk2 kk3 hsp.1 hsp.2 (by rw [Int.sub_self, Int.mul_zero]; split <;> omega) (by rw [Int.sub_self, Int.mul_zero]; split <;> omega)
  refine ok_bnd (ok_of (takes_ok (p := t.pl) (j := jdZ t.inn t.fol) (o := spZ t) (l := leadZ t (batZ t)) (v := (V (opOf w law n mg t.fi wd false) ((opOf w law n mg t.fi wd false).n - t.pl).toNat (mu (jdZ t.inn t.fol)) (spZ t) (leadZ t (batZ t)))) k_pl0 (by omega) kk2 kk3 hsp.1 hsp.2 (by omega) (by omega) hcell.1 hcell.2) (fun _ m3 hv => ok_some ?_))
  exact ⟨la.1.tr hv.2, fun p => (la.2.1 p).fr hv.2, fun p a b => (la.2.2 p a b).fr hv.2⟩
end COSTD
