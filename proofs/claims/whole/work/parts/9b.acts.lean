section ACTS
theorem adR_wf {t : Mt} {ru : Int} : batZ (adR t ru) = batZ t := rfl
theorem Mplays_ok {law : Option (List (Int × List Int))} {m : Mem} {t : Mt} {n mg wd tx bc sl : Int} {w : Nat → Int32} (hd : Bool) (hg : GR m 3 4 5 6 7 8 9 12 13 79 law n mg wd tx bc) (hc : WM m 79 0 t) (mo : MtOk t n) (on : 0 ≤ t.fi ∧ t.win = -1) (s0 : 0 ≤ sl) (s4 : sl < 4) (hw : w = gI m 79) : Ok (F_M_plays (iI sl) hd m) (fun v m' => v = iI (leadZ (adR t (ruT t w law sl hd)) (batZ t)) ∧ WM m' 79 0 (plT t n w law sl hd) ∧ ∀ j, (j < 9 ∨ (19 ≤ j ∧ j < 235) ∨ 298 ≤ j) → gI m' 79 j = gI m 79 j) := by
  have n1 := hg.n1
  have n9 := hg.n9
  have hbr := batZ_rng on.1 mo.fi1
  have hpn := mo.pn on.1 on.2
  have hp0 := mo.pl0
  have hi0 := mo.in0
  have hi3 := mo.in3
  have a0 := mo.a0
  have a1 := mo.a1
  have b0 := mo.b0
  have b1 := mo.b1
  have ou0 := mo.ou0
  obtain ⟨c9, c10, c11, c12, c13, c14, c15, c16, c17, c18, clg⟩ := id hc
  simp only [Nat.zero_add] at c9 c10 c11 c12 c13 c14 c15 c16 c17 c18 clg
  obtain ⟨m1, e1, e2⟩ := Mlevel_eq hg.la (s := t.pl) (i := t.inn) (b := batZ t) hp0 (by omega) hbr.1 (by omega)
  have hw1 : gI m1 79 = gI m 79 := by funext j; exact e2 79 j (by decide)
  rw [← hw] at e1
  have hlv : 0 ≤ levZ w law t.pl t.inn (batZ t) ∧ levZ w law t.pl t.inn (batZ t) ≤ 3 := levZ_rng hg.la.okl
  obtain ⟨z, ez, z0, z9⟩ := hg.slr (2 * (4 * levZ w law t.pl t.inn (batZ t) + sl)).toNat (by omega)
  obtain ⟨y, ey, y0, y9⟩ := hg.slr (1 + 2 * (4 * levZ w law t.pl t.inn (batZ t) + sl)).toNat (by omega)
  have ez2 : w (23 + 2 * (4 * levZ w law t.pl t.inn (batZ t) + sl)).toNat = iI z := by rw [← hw] at ez; rw [← ez]; congr 1; omega
  have ey2 : w (24 + 2 * (4 * levZ w law t.pl t.inn (batZ t) + sl)).toNat = iI y := by rw [← hw] at ey; rw [← ey]; congr 1; omega
  have tz : (w (23 + 2 * (4 * levZ w law t.pl t.inn (batZ t) + sl)).toNat).toInt = z := by rw [ez2, iI_toInt (by omega) (by omega)]
  have ty : (w (24 + 2 * (4 * levZ w law t.pl t.inn (batZ t) + sl)).toNat).toInt = y := by rw [ey2, iI_toInt (by omega) (by omega)]
  have oz : F_M_ofSlot (iI (levZ w law t.pl t.inn (batZ t))) (iI sl) (0 : Int32) m1 = some (iI z, m1) := by
    rw [lt0, ofSlot_eq hlv.1 (by omega) s0 s4 (by omega) (by omega), hw1, ← hw, ← ez2]
    congr 3
    omega
  have oy : F_M_ofSlot (iI (levZ w law t.pl t.inn (batZ t))) (iI sl) (1 : Int32) m1 = some (iI y, m1) := by
    rw [lt1, ofSlot_eq hlv.1 (by omega) s0 s4 (by omega) (by omega), hw1, ← hw, ← ey2]
    congr 3
    omega
  have er : F_M_isRain (iI t.pl) m1 = some (rainB w t.pl, m1) := by rw [Mrain_eq, hw1, ← hw]
  unfold plT
  have hou : ouT t w law sl hd = max 0 ((if rainB w t.pl = true then 0 else y) - (if hd = true then 1 else 0)) := by
    unfold ouT
    rw [ty]
    cases hd
    · rw [if_neg (show ¬ false = true by decide), if_neg (show ¬ false = true by decide)]; split <;> omega
    · rw [if_pos rfl, if_pos rfl]
  have hou2 : 0 ≤ ouT t w law sl hd ∧ ouT t w law sl hd ≤ 9 := by rw [hou]; (repeat' split) <;> omega
  have hru : ruT t w law sl hd = if hd = true then 0 else (if rainB w t.pl = true then 0 else z) := by
    unfold ruT
    rw [tz]
  have hru2 : 0 ≤ ruT t w law sl hd ∧ ruT t w law sl hd ≤ 9 := by rw [hru]; (repeat' split) <;> omega
  unfold F_M_plays F_M_played
  rw [bnd_e, bnd_some (Mbatter_eq c10 c11 c12 hi0 hi3), c17, c11, bnd_some e1]
  generalize levZ w law t.pl t.inn (batZ t) = lv at *
  refine ok_ltk (fun k51 h51 => ?_)
  have d : ∀ j, gI m1 79 j = gI m 79 j := fun j => e2 79 j (by decide)
  have hmain : Ok (k51 (iI (ruT t w law sl hd)) m1) (fun v m' => v = iI (leadZ (adR t (ruT t w law sl hd)) (batZ t)) ∧ WM m' 79 0 (plR (adR t (ruT t w law sl hd)) n lv sl (ouT t w law sl hd) (ruT t w law sl hd)) ∧ ∀ j, (j < 9 ∨ (19 ≤ j ∧ j < 235) ∨ 298 ≤ j) → gI m' 79 j = gI m 79 j) := by
    generalize ruT t w law sl hd = ru at *
    rw [h51]
    dsimp only
    rw [bnd_some er]
    refine ok_ltk (fun k73 h73 => ?_)
    have hx : ∀ v : Int, v = (if rainB w t.pl = true then 0 else y) → Ok (k73 (iI v) m1) (fun v m' => v = iI (leadZ (adR t ru) (batZ t)) ∧ WM m' 79 0 (plR (adR t ru) n lv sl (ouT t w law sl hd) ru) ∧ ∀ j, (j < 9 ∨ (19 ≤ j ∧ j < 235) ∨ 298 ≤ j) → gI m' 79 j = gI m 79 j) := by
      intro v hv
      have hv9 : 0 ≤ v ∧ v ≤ 9 := by rw [hv]; split <;> omega
      rw [← hv] at hou
      rw [h73]
      dsimp only
      obtain ⟨mA, hmA⟩ : ∃ x, x = sI m1 79 (15 + (batZ t).toNat) (gI m1 79 (15 + (batZ t).toNat) + iI ru) := ⟨_, rfl⟩
      have hA : WF mA (adR t ru) ∧ (∀ j, (j < 9 ∨ 19 ≤ j) → gI mA 79 j = gI m 79 j) := by
        rw [hmA]
        have hq : ∀ j, j ≠ 15 → j ≠ 16 → gI (sI m1 79 (15 + (batZ t).toNat) (gI m1 79 (15 + (batZ t).toNat) + iI ru)) 79 j = gI m 79 j := by
          intro j a b
          rw [gI_sI, if_neg (by omega)]
          exact d j
        refine ⟨⟨(hq 9 (by omega) (by omega)).trans c9, (hq 10 (by omega) (by omega)).trans c10, (hq 11 (by omega) (by omega)).trans c11, (hq 12 (by omega) (by omega)).trans c12, (hq 13 (by omega) (by omega)).trans c13, (hq 14 (by omega) (by omega)).trans c14, ?_, ?_, (hq 17 (by omega) (by omega)).trans c17, (hq 18 (by omega) (by omega)).trans c18⟩, fun j hj => hq j (by omega) (by omega)⟩
        · show _ = iI (t.r0 + (if batZ t = 0 then ru else 0))
          rcases (show batZ t = 0 ∨ batZ t = 1 by omega) with hb | hb
          · rw [hb, if_pos rfl, gI_sI, if_pos ⟨rfl, rfl⟩, show (15 + (0 : Int).toNat) = 15 from rfl, d, c15, iI_add]
          · rw [hb, if_neg (by decide), gI_sI, if_neg (by decide), d, c15, Int.add_zero]
        · show _ = iI (t.r1 + (if batZ t = 0 then 0 else ru))
          rcases (show batZ t = 0 ∨ batZ t = 1 by omega) with hb | hb
          · rw [hb, if_pos rfl, gI_sI, if_neg (by decide), d, c16, Int.add_zero]
          · rw [hb, if_neg (by decide), gI_sI, if_pos ⟨rfl, rfl⟩, show (15 + (1 : Int).toNat) = 16 from rfl, d, c16, iI_add]
      obtain ⟨hA, hA2⟩ := hA
      have q0 : (adR t ru).r0 = t.r0 + (if batZ t = 0 then ru else 0) := rfl
      have q1 : (adR t ru).r1 = t.r1 + (if batZ t = 0 then 0 else ru) := rfl
      have ht := fun kq hk => Mtail_ok (t := adR t ru) (m := mA) (n := n) (lv := lv) (sl := sl) (ou := ouT t w law sl hd) (ru := ru) hA (fun j hj => (hA2 _ (by omega)).trans (clg j hj)) ((hA2 0 (by omega)).trans hg.wn) n1 n9 hi0 hi3 mo.fo on.1 mo.fi1 ou0 mo.ou1 hou2.1 hou2.2 hp0 hpn on.2 (by rw [q0]; split <;> omega) (by rw [q0]; split <;> omega) (by rw [q1]; split <;> omega) (by rw [q1]; split <;> omega) kq hk
      rw [lt_def, show (15 : Int32) = iI 15 from rfl, iI_add, ckB_t (iI_inb (by omega) (by omega) (by omega)), lt_def, ckB_t (iI_inb (by omega) (by omega) (by omega)), lt_def, iI_idx (by omega) (by omega), show (15 + batZ t).toNat = 15 + (batZ t).toNat by omega, ← hmA]
      refine ok_ltk (fun k117 h117 => ?_)
      have hxx : mxI 0 (iI v - b2i hd) = iI (ouT t w law sl hd) := by
        rw [hou]
        cases hd
        · rw [b2i_f, iI_sub, lt0, mxI_iI (by omega) (by omega) (by omega) (by omega), if_neg (by decide)]
        · rw [b2i_t, iI_sub, lt0, mxI_iI (by omega) (by omega) (by omega) (by omega), if_pos rfl]
      have hko : Ok (k117 hd mA) (fun v m' => v = iI (leadZ (adR t ru) (batZ t)) ∧ WM m' 79 0 (plR (adR t ru) n lv sl (ouT t w law sl hd) ru) ∧ ∀ j, (j < 9 ∨ (19 ≤ j ∧ j < 235) ∨ 298 ≤ j) → gI m' 79 j = gI m 79 j) := by
        rw [h117]
        dsimp only
        rw [hxx, show gI mA 79 13 = iI t.out from hA.2.2.2.2.1, iI_add]
        refine ok_of (ht _ rfl) (fun v m' hv => ⟨hv.1, hv.2.1, fun j hj => (hv.2.2 j hj).trans (hA2 j (by omega))⟩)
      cases hd
      · exact ok_f (by decide) hko
      · exact ok_t rfl hko
    by_cases hrn : rainB w t.pl = true
    · refine ok_t hrn ?_
      exact hx 0 (by rw [if_pos hrn])
    · refine ok_f hrn ?_
      rw [bnd_some oy]
      exact hx y (by rw [if_neg hrn])
  refine ok_ltk (fun k39 h39 => ?_)
  cases hd
  · refine ok_f (by decide) ?_
    rw [bnd_some er]
    rw [if_neg (by decide)] at hru
    by_cases hrn : rainB w t.pl = true
    · refine ok_t hrn ?_
      rw [if_pos hrn] at hru
      rw [hru] at hmain ⊢
      rw [h39]
      exact hmain
    · refine ok_f hrn ?_
      rw [if_neg hrn] at hru
      rw [hru] at hmain ⊢
      rw [bnd_some oz]
      exact hmain
  · refine ok_t rfl ?_
    rw [if_pos rfl] at hru
    rw [hru] at hmain ⊢
    rw [h39]
    exact hmain
/-- a match stays as it must be behind a session -/
theorem plT_ok {law : Option (List (Int × List Int))} {m : Mem} {t : Mt} {n mg wd tx bc sl : Int} {w : Nat → Int32} (hd : Bool) (hg : GR m 3 4 5 6 7 8 9 12 13 79 law n mg wd tx bc) (mo : MtOk t n) (on : 0 ≤ t.fi ∧ t.win = -1) (s0 : 0 ≤ sl) (s4 : sl < 4) (hw : w = gI m 79) : MtOk (plT t n w law sl hd) n := by
  have hbr := batZ_rng on.1 mo.fi1
  have hpn := mo.pn on.1 on.2
  have hlv : 0 ≤ levZ w law t.pl t.inn (batZ t) ∧ levZ w law t.pl t.inn (batZ t) ≤ 3 := levZ_rng hg.la.okl
  have hru : 0 ≤ ruT t w law sl hd ∧ ruT t w law sl hd ≤ 9 := by
    unfold ruT
    obtain ⟨z, ez, z0, z9⟩ := hg.slr (2 * (4 * levZ w law t.pl t.inn (batZ t) + sl)).toNat (by omega)
    have ez2 : w (23 + 2 * (4 * levZ w law t.pl t.inn (batZ t) + sl)).toNat = iI z := by rw [← hw] at ez; rw [← ez]; congr 1; omega
    rw [ez2, iI_toInt (by omega) (by omega)]
    (repeat' split) <;> omega
  have hou : 0 ≤ ouT t w law sl hd ∧ ouT t w law sl hd ≤ 9 := by
    unfold ouT
    obtain ⟨z, ez, z0, z9⟩ := hg.slr (1 + 2 * (4 * levZ w law t.pl t.inn (batZ t) + sl)).toNat (by omega)
    have ez2 : w (24 + 2 * (4 * levZ w law t.pl t.inn (batZ t) + sl)).toNat = iI z := by rw [← hw] at ez; rw [← ez]; congr 1; omega
    rw [ez2, iI_toInt (by omega) (by omega)]
    (repeat' split) <;> omega
  have a0 := mo.a0
  have a1 := mo.a1
  have b0 := mo.b0
  have b1 := mo.b1
  have fi1 := mo.fi1
  have in0 := mo.in0
  have in3 := mo.in3
  have ou0 := mo.ou0
  have pl0 := mo.pl0
  have fo := mo.fo
  unfold plT
  generalize ruT t w law sl hd = ru at *
  generalize ouT t w law sl hd = ou at *
  generalize levZ w law t.pl t.inn (batZ t) = lv at *
  unfold plR
  have q0 : (adR t ru).r0 = t.r0 + (if batZ t = 0 then ru else 0) := rfl
  have q1 : (adR t ru).r1 = t.r1 + (if batZ t = 0 then 0 else ru) := rfl
  have key : ∀ u : Mt, u.fi = t.fi → 0 ≤ u.inn → u.inn ≤ 3 → (u.fol = true → 2 ≤ u.inn) → 0 ≤ u.out → u.out ≤ 10 → u.pl = t.pl + 1 → u.win = -1 → u.r0 = t.r0 + (if batZ t = 0 then ru else 0) → u.r1 = t.r1 + (if batZ t = 0 then 0 else ru) → (u.fr = true → u.out = 0) → (u.out = 10 → u.inn = 3) → MtOk (jd u n) n := by
    intro u h1 h2 h3 h4 h5 h6 h7 h8 h9 h10 h11 h12
    have hbu := batZ_rng (t := u) (by omega) (by omega)
    have hfi : (jd u n).fi = u.fi := rfl
    have hin : (jd u n).inn = u.inn := rfl
    have hou' : (jd u n).out = u.out := rfl
    have hpl : (jd u n).pl = u.pl := rfl
    have hwi : (jd u n).win = jw u n := rfl
    have hfo : (jd u n).fol = u.fol := rfl
    have hfr : (jd u n).fr = u.fr := rfl
    have h0 : (jd u n).r0 = u.r0 := rfl
    have h01 : (jd u n).r1 = u.r1 := rfl
    have hjw : -1 ≤ jw u n ∧ jw u n ≤ 2 ∧ (jw u n = -1 → u.out ≠ 10 ∨ u.inn ≠ 3) ∧ (jw u n = -1 → u.pl < n) := by
      unfold jw
      (repeat' split) <;> refine ⟨by omega, by omega, by omega, by omega⟩
    refine MtOk.mk ⟨by rw [hfi]; omega, by rw [hfi]; omega, by rw [hin]; omega, by rw [hin]; omega, by rw [hou']; omega, by rw [hou']; omega, by rw [hpl]; omega, by rw [hpl]; omega, by rw [hwi]; omega, by rw [hwi]; omega, by rw [h0, h9]; split <;> omega, by rw [h0, h9, hpl, h7]; split <;> omega, by rw [h01, h10]; split <;> omega, by rw [h01, h10, hpl, h7]; split <;> omega, by rw [hfo, hin]; exact h4, by rw [hfi]; omega, ?_, ?_, by rw [hfr, hou']; exact h11⟩
    · rw [hwi, hou']
      intro q
      have := hjw.2.2.1 q
      by_cases hq : u.out = 10
      · have := h12 hq
        omega
      · omega
    · rw [hwi, hpl]
      intro _ q
      exact hjw.2.2.2 q
  by_cases hc : min 10 ((adR t ru).out + ou) = 10 ∧ (adR t ru).inn ≠ 3
  · rw [if_pos hc]
    have hin : (adR t ru).inn = t.inn := rfl
    exact key _ rfl (show 0 ≤ t.inn + 1 by omega) (show t.inn + 1 ≤ 3 by omega) (fun q => by have := fo q; show 2 ≤ t.inn + 1; omega) (show (0 : Int) ≤ 0 by omega) (show (0 : Int) ≤ 10 by omega) rfl on.2 rfl rfl (fun _ => rfl) (fun q => by have q' : (0 : Int) = 10 := q; omega)
  · rw [if_neg hc]
    have hou3 : (adR t ru).out = t.out := rfl
    have hin : (adR t ru).inn = t.inn := rfl
    exact key _ rfl in0 in3 fo (show 0 ≤ min 10 (t.out + ou) by omega) (show min 10 (t.out + ou) ≤ 10 by omega) rfl on.2 rfl rfl (fun q => by have q' : false = true := q; cases q') (fun q => by
      have q' : min 10 (t.out + ou) = 10 := q
      show t.inn = 3
      by_cases h3 : t.inn = 3
      · exact h3
      · exact absurd ⟨q', h3⟩ hc)
end ACTS
