section LAWOP
def cd1 : Nat → Int := fun e => if e = 1 then 1 else 0
/-- the tape's length and the word of a throw, behind a text -/
def P8 (m : Mem) : Prop := gI m 78 8 = iI 0 ∧ gI m 78 0 = iI 0
theorem P8.fr {A : List Nat} {L : List (Nat × Nat)} {m m' : Mem} (h : P8 m) (f : Fr A L m m') (ha : 78 ∉ A) (h8 : (78, 8) ∉ L) (h0 : (78, 0) ∉ L) : P8 m' := ⟨(f.gI ha h8).trans h.1, (f.gI ha h0).trans h.2⟩
theorem p8_L (g : Bool) (k54 : Int32 → Mem → Option (Int32 × Mem)) (hk : ∀ v m, P8 m → Pt (k54 v m) (fun _ => P8)) : ∀ (nf : Nat) (x : Int32) (m : Mem), P8 m → Pt (F_M_readAll_L28 g k54 nf x m) (fun _ => P8) := by
  intro nf
  induction nf with
  | zero => intro x m _; exact pt_none
  | succ nf ih =>
    intro x m h
    rw [F_M_readAll_L28]
    refine pt_bnd (P := fun _ => P8) (fun _ _ e => h.fr (fr_M_readLine _ _ _ _ _ e) (by simp) (by simp) (by simp)) (fun z m1 h1 => ?_)
    refine pt_ite (fun _ => ?_) (fun _ => pt_some h1)
    refine pt_bnd (P := fun _ => P8) (fun _ _ e => h1.fr (fr_M_blanks _ _ _ e) (by simp) (by simp) (by simp)) (fun _ m2 h2 => ?_)
    refine pt_ite (fun _ => hk _ _ h2) (fun _ => ?_)
    refine pt_bnd (P := fun _ => P8) (fun _ _ e => h2.fr (fr_M_isAt _ _ _ _ _ e) (by simp) (by simp) (by simp)) (fun z m3 h3 => ?_)
    refine pt_ite (fun _ => ?_) (fun _ => pt_some h3)
    rw [lt_def, lt_def]
    exact ih _ _ ⟨by rw [gI_sI, if_neg (fun q => absurd q.2 (by decide))]; exact h3.1, by rw [gI_sI, if_neg (fun q => absurd q.2 (by decide))]; exact h3.2⟩
theorem p8_read (g : Bool) (m : Mem) : Pt (F_M_readAll g m) (fun _ => P8) := by
  obtain ⟨N, hN⟩ : ∃ N : Nat, N = 1000000 := ⟨_, rfl⟩
  unfold F_M_readAll
  rw [← hN]
  refine pt_bnd (P := fun _ => P8) ?_ (fun _ m1 h1 => ?_)
  · unfold F_M_uses
    rw [lt_def, lt_def, lt_def, lt_def]
    exact pt_some ⟨rfl, rfl⟩
  · have h2 : P8 (sI m1 78 15 0) := ⟨by rw [gI_sI, if_neg (fun q => absurd q.2 (by decide))]; exact h1.1, by rw [gI_sI, if_neg (fun q => absurd q.2 (by decide))]; exact h1.2⟩
    rw [lt_def]
    refine pt_bnd (P := fun _ => P8) (fun _ _ e => h2.fr (fr_M_blanks _ _ _ e) (by simp) (by simp) (by simp)) (fun _ m3 h3 => ?_)
    refine pt_ite (fun _ => pt_some h3) (fun _ => ?_)
    rw [lt_def]
    exact p8_L g _ (fun v m4 h4 => pt_some h4) N 0 m3 h3
def rdA : List Nat := [46, 47, 48, 49, 50, 51, 52, 53, 54, 55, 56, 57, 58, 59, 60, 79, 81]
def rdL : List (Nat × Nat) := [(0, 1), (0, 2), (78, 0), (78, 8), (78, 9), (78, 10), (78, 11), (78, 12), (78, 13), (78, 15)]
/-- behind a text that was read, and did nothing -/
theorem IV.read {B : Nat} {law : Option (List (Int × List Int))} {n mg wd tx bc : Int} {t : Mt} {m m' : Mem} (h : IV B law n mg wd tx bc t m) (hf : Fr rdA rdL m m') (ht : ITape m') (hfa : gI m' 0 2 = gI m' 78 13) (h79 : ∀ j, j < 1135 → gI m' 79 j = gI m 79 j) : IV B law n mg wd tx bc t m' := by
  have hk : ∀ o, (1 ≤ o ∧ o ≤ 45) ∨ (61 ≤ o ∧ o ≤ 77) ∨ o = 80 ∨ 82 ≤ o → ∀ j, gI m' o j = gI m o j ∧ gL m' o j = gL m o j ∧ gZ m' o j = gZ m o j := fun o ho j => hf o j (by simp only [rdA, List.mem_cons, List.not_mem_nil, or_false]; omega) (by simp only [rdL, List.mem_cons, Prod.mk.injEq, List.not_mem_nil, or_false]; omega)
  have p9 : t.pl ≤ 9 := by have := h.mo.pl1; have := h.gr.n9; omega
  refine IV.mk ⟨ht, hfa, ?_, ?_, ?_, ?_, ?_, ?_, h.mo, ?_, ?_⟩
  · rw [hf.gZ (o := 78) (j := 22) (by decide) (by decide)]
    exact h.bli
  · refine h.im.cg (hf.gZ (by decide) (by decide)) (hf.gZ (by decide) (by decide)) (fun o ho j => ?_)
    have := hk o (by omega) j
    exact ⟨this.1, this.2.2⟩
  · exact h.gr.cg2 (fun j _ => (hk 3 (by omega) j).1) (fun j _ => (hk 4 (by omega) j).1) (fun j _ => (hk 5 (by omega) j).1) (fun j _ => (hk 6 (by omega) j).1) (fun j _ => (hk 7 (by omega) j).1) (fun j _ => (hk 8 (by omega) j).1) (fun j _ => (hk 9 (by omega) j).1) (hk 12 (by omega) 0).1 (fun j _ => (hk 13 (by omega) j).1) (fun j hj _ => h79 j hj)
  · exact h.lv.cg2 (fun j => (hk 14 (by omega) j).1) (h79 6 (by omega)) (h79 7 (by omega)) (fun j _ _ => h79 j (by omega))
  · exact h.cm.cg (fun j => (hk 16 (by omega) j).1) (fun j => (hk 17 (by omega) j).1) (fun j => (hk 16 (by omega) j).2.2)
  · exact h.wm.cg (fun j hj => h79 _ (by omega)) p9
  · exact h.pa.cg (fun j => (hk 20 (by omega) j).1) (hf.gI (by decide) (by decide)) (fun o a b j => ⟨(hk o (by omega) j).1, (hk o (by omega) j).2.2⟩) (fun j => (hk 82 (by omega) j).1) (fun j _ => h79 j (by omega))
  · exact h.od.cg h.gr.la.okl (fun j _ => h79 j (by omega)) (fun j => (hk 15 (by omega) j).2.1) (fun j => hk 2 (by omega) j)
theorem law_op {B : Nat} {law : Option (List (Int × List Int))} {n mg wd tx bc : Int} {t : Mt} {m : Mem} (h : IV B law n mg wd tx bc t m) : Both B cd1 F_T_law F_M_law m := by
  obtain ⟨T, b, h01, h78, hB, hR⟩ := tape_b h.tp
  obtain ⟨N, hN⟩ : ∃ N : Nat, N = 1000000 := ⟨_, rfl⟩
  have p9 : t.pl ≤ 9 := by have := h.mo.pl1; have := h.gr.n9; omega
  obtain ⟨m1, hm1⟩ : ∃ x, x = sI m 0 1 0 := ⟨_, rfl⟩
  have eu : F_T_useTape m = some (iI T, m1) := by
    unfold F_T_useTape
    rw [lt_def, lt_def, h01, hm1]
  obtain ⟨m2, hm2⟩ : ∃ x, x = sI m1 57 1 0 := ⟨_, rfl⟩
  have f2 : Fr rdA rdL m m2 := Fr_sI hm2 (Fr_sI hm1 Fr_rf (by decide)) (by decide)
  have hB2 : BT m2 b T := hB.cg (fun j => f2.gI (by decide) (by simp [rdL]))
  have h57 : gI m2 57 1 = iI 0 := by rw [hm2]; rfl
  obtain ⟨r, mC, v0, mR0, e1, -, c1⟩ := lawtext hB2 hR h78 h57
  have fC : Fr rdA rdL m mC := Fr_tr f2 (Fr_wk2 (A := rdA) (L := rdL) (fr_Tx_readLinesL _ _ _ _ _ e1) (by decide) (by decide)) (fun _ a => a) (fun _ a => a)
  obtain ⟨m5, hm5⟩ : ∃ x, x = sI mC 57 0 r := ⟨_, rfl⟩
  have f5 : Fr rdA rdL m m5 := Fr_sI hm5 fC (by decide)
  have s6 : gI m5 52 6 = gI mC 52 6 := by rw [hm5, gI_sI, if_neg (fun q => absurd q.1 (by decide))]
  have eL : F_LT_readLaw (iI T) m1 = some (gI mC 52 6, m5) := by
    unfold F_LT_readLaw
    rw [lt_def, ← hm2, bnd_some e1, lt_def, ← hm5, s6]
  rcases c1 with ⟨w, -⟩ | ⟨-, f, hf6, hf4, -⟩
  · obtain ⟨m6, hm6⟩ : ∃ x, x = sI m5 0 2 (iI (-1)) := ⟨_, rfl⟩
    have f6 : Fr rdA rdL m m6 := Fr_sI hm6 f5 (by decide)
    obtain ⟨m7, e7, l1, l2, l3⟩ := Lcopy_3_ok m6
    obtain ⟨m8, e8, a1, a2, a3, a4, a5⟩ := afresh_ok m7
    have fa := fr_T_startAfresh _ _ _ e8
    have eT : F_T_law m = some (.inr (gI m8 8 0), m8) := by
      unfold F_T_law
      rw [bnd_some eu, bnd_some eL, w, lt_def, ← hm6, show gI m6 0 2 = iI (-1) by rw [hm6]; rfl, if_pos (show iI (-1) = (-1 : Int32) from rfl), bnd_some e7, bnd_some e8]
    have fT := fr_T_law _ _ _ eT
    have hR8 : RT m8 b T := hR.cg (fun j => fT.gI (by simp) (by simp))
    have h788 : gI m8 78 8 = iI T := (fT.gI (by simp) (by simp)).trans h78
    obtain ⟨r', mC', v, mR, e1', e2, c2⟩ := lawtext hB2 hR8 h788 h57
    obtain ⟨hr, hmC⟩ : r' = r ∧ mC' = mC := by
      rw [e1] at e1'
      have := Option.some.inj e1'
      exact ⟨(congrArg Prod.fst this).symm, (congrArg Prod.snd this).symm⟩
    rw [hmC] at c2
    rcases c2 with ⟨w2, law', y1, y2, y3, y4, y5, y6, y7, y8, y9⟩ | ⟨-, f, hf6, hf4, -⟩
    · rw [hr] at y3
      rw [y4] at e2
      have g1 := pd_read m8 _ _ e2
      have g2 := p8_read false m8 _ _ e2
      have fR := fr_M_readAll _ _ _ _ e2
      obtain ⟨mA, hmA⟩ : ∃ x, x = sI mR 78 13 (-1) := ⟨_, rfl⟩
      obtain ⟨mB, hmB⟩ : ∃ x, x = sI mA 79 1135 (iI law'.length) := ⟨_, rfl⟩
      obtain ⟨k85, h85⟩ : ∃ x : Mem → Option (Int32 × Mem), x = fun (mq13 : Mem) => ((lt (sI mq13 79 4 (1 : Int32)) fun mq14 => lt (sI mq14 78 6 (0 : Int32)) fun mq15 => some (iI law'.length, mq15)) : Option (Int32 × Mem)) := ⟨_, rfl⟩
      obtain ⟨nf, mc, c1, c2, c3, ec⟩ := cpy (F_M_law_L52 k85) 837 79 1135 79 298 (by omega) (by
        intro nf k s hk
        rw [F_M_law_L52, if_neg (by rw [show (837 : Int32) = iI 837 from rfl, iI_le (by omega) (by omega) (by omega) (by omega)]; omega), show (1135 : Int32) = iI 1135 from rfl, show (298 : Int32) = iI 298 from rfl, iI_add, iI_add, ckB_t (iI_inb (by omega) (by omega) (by omega)), lt_def, ckB_t (iI_inb (by omega) (by omega) (by omega)), lt_def, lt_def, iI_idx (by omega) (by omega), iI_idx (by omega) (by omega), show ((1135 : Int) + (k : Int)).toNat = 1135 + k by omega, show ((298 : Int) + (k : Int)).toNat = 298 + k by omega, lt1, iI_add]) N mB (by omega)
      obtain ⟨m9, hm9⟩ : ∃ x, x = sI (sI mc 79 4 1) 78 6 0 := ⟨_, rfl⟩
      have hpos : (0 : Int32) ≤ iI (law'.length : Int) := by rw [lt0, iI_le (by omega) (by omega) (by omega) (by omega)]; omega
      have eM : F_M_law m8 = some (iI law'.length, m9) := by
        unfold F_M_law
        rw [← hN, bnd_some e2, lt_def, if_pos hpos]
        dsimp only
        rw [lt_def, ← hmA, lt_def, if_pos hpos]
        dsimp only
        rw [bnd_some throwsIf_f, if_neg (by decide), lt_def, ← hmB, lt_def, ← h85]
        refine (show _ = _ from ec).trans ?_
        rw [F_M_law_L52, if_pos (by decide), h85]
        dsimp only
        rw [lt_def, lt_def, hm9]
      have fM := fr_M_law _ _ _ eM
      have fall : Fr fshA fshL m m9 := Fr_tr (Fr_wk2 fT (by decide) (by decide)) fM (by decide) (by decide)
      have e79 : ∀ j, j < 298 → j ≠ 4 → gI m9 79 j = gI m 79 j := by
        intro j hj hj4
        rw [hm9, gI_sI, if_neg (fun q => absurd q.1 (by decide)), gI_sI, if_neg (fun q => hj4 q.2), c2 79 j (fun _ => by omega), hmB, gI_sI, if_neg (fun q => by have := q.2; omega), hmA, gI_sI, if_neg (fun q => absurd q.1 (by decide)), g1 j (by omega)]
        exact fT.gI (by simp) (by simp)
      have e298 : ∀ j, j < 837 → gI m9 79 (298 + j) = gI mB 79 (1135 + j) := by
        intro j hj
        rw [hm9, gI_sI, if_neg (fun q => absurd q.1 (by decide)), gI_sI, if_neg (fun q => by have := q.2; omega)]
        exact c1 j hj
      have ek : ∀ o, o ≠ 78 → o ≠ 79 → ∀ j, gI m9 o j = gI m8 o j ∧ gL m9 o j = gL m8 o j ∧ gZ m9 o j = gZ m8 o j := fun o a b j => fM o j (by simp; omega) (by simp; omega)
      have e0 : ∀ o, o = 3 ∨ o = 4 ∨ o = 5 ∨ o = 6 ∨ o = 7 ∨ o = 12 ∨ o = 13 ∨ o = 16 ∨ o = 17 → ∀ j, gI m9 o j = gI m o j ∧ gZ m9 o j = gZ m o j := by
        intro o ho j
        have q1 := ek o (by omega) (by omega) j
        have q2 := fT o j (by simp; omega) (by simp; omega)
        exact ⟨q1.1.trans q2.1, q1.2.2.trans q2.2.2⟩
      have eA : ∀ o, o ≠ 14 → o ≠ 2 → o ≠ 20 → ∀ j, gI m8 o j = gI m7 o j := fun o a b c j => fa.gI (by simp; omega) (by simp; omega)
      have e56 : ∀ j, gI m6 58 j = gI mC 58 j := fun j => by rw [hm6, gI_sI, if_neg (fun q => absurd q.1 (by decide)), hm5, gI_sI, if_neg (fun q => absurd q.1 (by decide))]
      refine ok_e eT (ok_e eM ⟨⟨?_, ?_⟩, IV.inv (h.afresh (law' := some law') (n' := n) (mg' := mg) (wd' := wd) (tx' := tx) (bc' := bc) (t' := t) fall ?_ ?_ ?_ ?_ ?_ ?_ ?_ ?_ ?_ ?_ ?_ h.mo)⟩)
      · rw [hm9, gI_sI, if_neg (fun q => absurd q.2 (by decide)), gI_sI, if_neg (fun q => absurd q.1 (by decide)), c2 78 0 (fun q => absurd q (by decide)), hmB, gI_sI, if_neg (fun q => absurd q.1 (by decide)), hmA, gI_sI, if_neg (fun q => absurd q.2 (by decide))]
        exact g2.2
      · rw [eA 8 (by decide) (by decide) (by decide), l1 0 (by omega), hm6, gI_sI, if_neg (fun q => absurd q.1 (by decide)), hm5, gI_sI, if_pos ⟨rfl, rfl⟩, y3]
      · refine ⟨0, by omega, ?_, ?_, fun i hi => absurd hi (by omega)⟩
        · rw [(ek 0 (by decide) (by decide) 1).1, eA 0 (by decide) (by decide) (by decide), l3 0 (by decide) (by decide), hm6, gI_sI, if_neg (fun q => absurd q.2 (by decide)), hm5, gI_sI, if_neg (fun q => absurd q.1 (by decide)), (fr_Tx_readLinesL _ _ _ _ _ e1).gI (by simp) (by simp), hm2, gI_sI, if_neg (fun q => absurd q.1 (by decide)), hm1]
          rfl
        · rw [hm9, gI_sI, if_neg (fun q => absurd q.2 (by decide)), gI_sI, if_neg (fun q => absurd q.1 (by decide)), c2 78 8 (fun q => absurd q (by decide)), hmB, gI_sI, if_neg (fun q => absurd q.1 (by decide)), hmA, gI_sI, if_neg (fun q => absurd q.2 (by decide))]
          exact g2.1
      · rw [(ek 0 (by decide) (by decide) 2).1, eA 0 (by decide) (by decide) (by decide), l3 0 (by decide) (by decide), hm6, hm9, gI_sI, if_pos ⟨rfl, rfl⟩, gI_sI, if_neg (fun q => absurd q.2 (by decide)), gI_sI, if_neg (fun q => absurd q.1 (by decide)), c2 78 13 (fun q => absurd q (by decide)), hmB, gI_sI, if_neg (fun q => absurd q.1 (by decide)), hmA]
        rfl
      · have k := h.gr
        have k79 : ∀ j, j < 298 → j ≠ 4 → gI m9 79 j = gI m 79 j := e79
        refine GR.mk ⟨k.n1, k.n9, k.mg0, k.mg9, k.dw0, k.dw9, k.tx0, k.tx9, k.bc0, k.bc9, (e0 3 (by omega) _).1.trans k.cn, (k79 _ (by omega) (by omega)).trans k.wn, (e0 3 (by omega) _).1.trans k.cmg, (k79 _ (by omega) (by omega)).trans k.wmg, (e0 3 (by omega) _).1.trans k.cdw, (k79 _ (by omega) (by omega)).trans k.wdw, (e0 3 (by omega) _).1.trans k.ctx, (k79 _ (by omega) (by omega)).trans k.wtx, (e0 12 (by omega) _).1.trans k.cbc, (k79 _ (by omega) (by omega)).trans k.wbc, ?_, ?_, ?_, ?_, ?_, ?_, ?_, ?_, ?_, ?_⟩
        · rw [(e0 3 (by omega) _).1, k79 _ (by omega) (by omega)]; exact k.cl
        · rw [(e0 3 (by omega) _).1, k79 _ (by omega) (by omega)]; exact k.ti
        · rw [(e0 3 (by omega) _).1, k79 _ (by omega) (by omega)]; exact k.ra
        · have h1 := k.si
          unfold SidesRep at h1 ⊢
          rw [(e0 4 (by omega) 0).1, (e0 4 (by omega) 1).1, (e0 5 (by omega) 0).1, (e0 5 (by omega) 1).1, k79 _ (by omega) (by omega), k79 _ (by omega) (by omega), k79 _ (by omega) (by omega), k79 _ (by omega) (by omega)]; exact h1
        · intro i hi
          rw [(e0 6 (by omega) i).1, (e0 7 (by omega) i).1, k79 _ (by omega) (by omega), k79 _ (by omega) (by omega)]; exact k.sl i hi
        · intro j hj
          rw [k79 _ (by omega) (by omega)]; exact k.sir j hj
        · intro j hj
          rw [k79 _ (by omega) (by omega)]; exact k.slr j hj
        · intro j hj
          have := k.bc9
          rw [(e0 13 (by omega) j).1, k79 _ (by omega) (by omega)]; exact k.bo j hj
        · intro j hj
          have := k.bc9
          rw [k79 _ (by omega) (by omega), k79 _ (by omega) (by omega), k79 _ (by omega) (by omega)]; exact k.bor j hj
        · refine ⟨?_, ⟨y1, y2⟩, ?_, ?_, y6, ?_, ?_, ?_, y7⟩
          · rw [hm9]; rfl
          · rw [(ek 8 (by decide) (by decide) 0).1, eA 8 (by decide) (by decide) (by decide), l1 0 (by omega), hm6, gI_sI, if_neg (fun q => absurd q.1 (by decide)), hm5, gI_sI, if_pos ⟨rfl, rfl⟩, y3]
          · rw [(ek 8 (by decide) (by decide) 1).1, eA 8 (by decide) (by decide) (by decide), l1 1 (by omega), hm6, gI_sI, if_neg (fun q => absurd q.1 (by decide)), hm5, gI_sI, if_neg (fun q => absurd q.2 (by decide)), y5]
          · refine RowIs_cg (fun j hj => ?_) y8
            rw [Nat.zero_add, (ek 9 (by decide) (by decide) j).1, eA 9 (by decide) (by decide) (by decide), l2 j (by omega), e56]
          · have q := e298 0 (by omega)
            rw [Nat.add_zero, Nat.add_zero] at q
            rw [q, hmB]
            rfl
          · refine LinesAt_cg e298 (by omega) (by omega) (LinesAt_cgr (fun j a c => ?_) (fun j a c => ?_) y9)
            · rw [hmB, gI_sI, if_neg (fun q => by have := q.2; omega), hmA, gI_sI, if_neg (fun q => absurd q.1 (by decide))]
            · rw [hmB, gI_sI, if_neg (fun q => by have := q.2; omega), hmA, gI_sI, if_neg (fun q => absurd q.1 (by decide))]
      · exact fun j hj => (ek 14 (by decide) (by decide) j).1.trans (a1 j hj)
      · exact (ek 2 (by decide) (by decide) 3).2.2.trans a2
      · exact (ek 2 (by decide) (by decide) 7).2.1.trans a3
      · exact (ek 2 (by decide) (by decide) 8).2.1.trans a4
      · exact (ek 20 (by decide) (by decide) 0).1.trans a5
      · rw [hm9]; rfl
      · exact h.cm.cg (fun j => (e0 16 (by omega) j).1) (fun j => (e0 17 (by omega) j).1) (fun j => (e0 16 (by omega) j).2)
      · obtain ⟨w9, w10, w11, w12, w13, w14, w15, w16, w17, w18, wlg⟩ := h.wm
        refine ⟨(e79 _ (by omega) (by omega)).trans w9, (e79 _ (by omega) (by omega)).trans w10, (e79 _ (by omega) (by omega)).trans w11, (e79 _ (by omega) (by omega)).trans w12, (e79 _ (by omega) (by omega)).trans w13, (e79 _ (by omega) (by omega)).trans w14, (e79 _ (by omega) (by omega)).trans w15, (e79 _ (by omega) (by omega)).trans w16, (e79 _ (by omega) (by omega)).trans w17, (e79 _ (by omega) (by omega)).trans w18, fun j hj => ?_⟩
        rw [e79 _ (by omega) (by omega)]
        exact wlg j hj
    · exfalso
      rw [w, iI_eq (by omega) (by omega) (by omega) (by omega)] at hf6
      omega
  · obtain ⟨m6, hm6⟩ : ∃ x, x = sI m5 0 2 (iI f) := ⟨_, rfl⟩
    have f6 : Fr rdA rdL m m6 := Fr_sI hm6 f5 (by decide)
    have hne : ¬ iI (f : Int) = (-1 : Int32) := by
      rw [show (-1 : Int32) = iI (-1) from rfl, iI_eq (by omega) (by omega) (by omega) (by omega)]
      omega
    have eT : F_T_law m = some (.inl 1, m6) := by
      unfold F_T_law
      rw [bnd_some eu, bnd_some eL, hf6, lt_def, ← hm6, show gI m6 0 2 = iI f by rw [hm6]; rfl, if_neg hne]
    have fT := fr_T_law _ _ _ eT
    have hR8 : RT m6 b T := hR.cg (fun j => fT.gI (by simp) (by simp))
    have h788 : gI m6 78 8 = iI T := (fT.gI (by simp) (by simp)).trans h78
    obtain ⟨r', mC', v, mR, e1', e2, c2⟩ := lawtext hB2 hR8 h788 h57
    obtain ⟨hr, hmC⟩ : r' = r ∧ mC' = mC := by
      rw [e1] at e1'
      have := Option.some.inj e1'
      exact ⟨(congrArg Prod.fst this).symm, (congrArg Prod.snd this).symm⟩
    rw [hmC] at c2
    rcases c2 with ⟨w2, -⟩ | ⟨hv, f', hf6', hf4', h11⟩
    · exfalso
      rw [w2, iI_eq (by omega) (by omega) (by omega) (by omega)] at hf6
      omega
    · rw [hv] at e2
      have g1 := pd_read m6 _ _ e2
      have g2 := p8_read false m6 _ _ e2
      have fR := fr_M_readAll _ _ _ _ e2
      have hff : f' = f := by
        rw [hf6, iI_eq (by omega) (by omega) (by omega) (by omega)] at hf6'
        omega
      obtain ⟨mA, hmA⟩ : ∃ x, x = sI mR 78 13 (iI f) := ⟨_, rfl⟩
      obtain ⟨m9, hm9⟩ : ∃ x, x = sI mA 78 0 1 := ⟨_, rfl⟩
      have hneg : ¬ (0 : Int32) ≤ iI (-1) := by decide
      have eM : F_M_law m6 = some (0, m9) := by
        unfold F_M_law
        rw [← hN, bnd_some e2, lt_def, if_neg hneg]
        dsimp only
        rw [h11, hff, lt_def, ← hmA, lt_def, if_neg hneg]
        dsimp only
        rw [bnd_some throwsIf_t, if_pos rfl, hm9]
      have fM := fr_M_law _ _ _ eM
      have fall : Fr rdA rdL m m9 := Fr_sI hm9 (Fr_sI hmA (Fr_tr f6 (Fr_wk2 (A := rdA) (L := rdL) fR (by decide) (by decide)) (fun _ a => a) (fun _ a => a)) (by decide)) (by decide)
      refine ok_e eT (ok_e eM ⟨⟨by decide, ?_⟩, IV.inv (h.read fall ?_ ?_ (fun j hj => ?_))⟩)
      · rw [hm9]; rfl
      · refine ⟨0, by omega, ?_, ?_, fun i hi => absurd hi (by omega)⟩
        · rw [fM.gI (by simp) (by simp), hm6, gI_sI, if_neg (fun q => absurd q.2 (by decide)), hm5, gI_sI, if_neg (fun q => absurd q.1 (by decide)), (fr_Tx_readLinesL _ _ _ _ _ e1).gI (by simp) (by simp), hm2, gI_sI, if_neg (fun q => absurd q.1 (by decide)), hm1]
          rfl
        · rw [hm9, gI_sI, if_neg (fun q => absurd q.2 (by decide)), hmA, gI_sI, if_neg (fun q => absurd q.2 (by decide))]
          exact g2.1
      · rw [fM.gI (o := 0) (j := 2) (by simp) (by simp), hm6, hm9, hmA, gI_sI, if_pos ⟨rfl, rfl⟩]
        rfl
      · rw [hm9, gI_sI, if_neg (fun q => absurd q.1 (by decide)), hmA, gI_sI, if_neg (fun q => absurd q.1 (by decide)), g1 j hj]
        exact fT.gI (by simp) (by simp)
end LAWOP
