section GROUND
def cdG : Nat → Int := fun e => if e = 1 then 1 else if e = 3 then 2 else 0
/-- the reference keeps its row, and gives it back -/
def cpM (m : Mem) : Mem := (fun o j => if o = 81 ∧ j < 1135 then m.1 79 j else m.1 o j, m.2.1, m.2.2)
theorem cpM_81 {m : Mem} {j : Nat} (hj : j < 1135) : gI (cpM m) 81 j = gI m 79 j := by
  show (if (81 : Nat) = 81 ∧ j < 1135 then m.1 79 j else m.1 81 j) = m.1 79 j
  exact if_pos ⟨rfl, hj⟩
theorem cpM_o {m : Mem} {o : Nat} (ho : o ≠ 81) (j : Nat) : gI (cpM m) o j = gI m o j := by
  show (if o = 81 ∧ j < 1135 then m.1 79 j else m.1 o j) = m.1 o j
  exact if_neg (fun q => ho q.1)
theorem cpM_fr (m : Mem) : Fr rdA rdL m (cpM m) := fun o j ha _ => ⟨cpM_o (fun q => absurd (by rw [q]; decide) ha) j, rfl, rfl⟩
theorem before_ok {N : Nat} (hN : 1135 < N) (k27 : Mem → Option (Int32 × Mem)) (m : Mem) : F_M_ground_L2 k27 N (0 : Int32) m = k27 (cpM m) := by
  obtain ⟨nf, mb, c1, c2, c3, e⟩ := cpy (F_M_ground_L2 k27) 1135 79 0 81 0 (by omega) (by
    intro nf k s hk
    rw [F_M_ground_L2, if_neg (by rw [lt1135, iI_le (by omega) (by omega) (by omega) (by omega)]; omega), ckB_t (iI_inb (by omega) (by omega) (by omega)), lt_def, ckB_t (iI_inb (by omega) (by omega) (by omega)), lt_def, lt_def, iI_idx (by omega) (by omega), Int.toNat_natCast, lt1, iI_add, Nat.zero_add]) N m hN
  have em : mb = cpM m := by
    refine Prod.ext (funext (fun o => funext (fun j => ?_))) (Prod.ext (funext (fun o => funext (fun j => (c3 o j).1))) (funext (fun o => funext (fun j => (c3 o j).2))))
    show gI mb o j = gI (cpM m) o j
    by_cases ho : o = 81 ∧ j < 1135
    · have q := c1 j ho.2
      rw [Nat.zero_add] at q
      rw [ho.1, q, cpM_81 ho.2]
    · rw [c2 o j (fun q => by omega)]
      show m.1 o j = if o = 81 ∧ j < 1135 then m.1 79 j else m.1 o j
      rw [if_neg ho]
  refine (show _ = _ from e).trans ?_
  rw [F_M_ground_L2, if_pos (by decide), em]
theorem restore_ok {N : Nat} (hN : 1135 < N) (m : Mem) : ∃ m', F_M_ground_L92 N (0 : Int32) m = some (0, m') ∧ (∀ j, j < 1135 → gI m' 79 j = gI m 81 j) ∧ (∀ o j, o ≠ 79 → gI m' o j = gI m o j) ∧ Fr rdA rdL m m' := by
  obtain ⟨nf, mb, c1, c2, c3, e⟩ := cpy F_M_ground_L92 1135 81 0 79 0 (by omega) (by
    intro nf k s hk
    rw [F_M_ground_L92, if_neg (by rw [lt1135, iI_le (by omega) (by omega) (by omega) (by omega)]; omega), ckB_t (iI_inb (by omega) (by omega) (by omega)), lt_def, ckB_t (iI_inb (by omega) (by omega) (by omega)), lt_def, lt_def, iI_idx (by omega) (by omega), Int.toNat_natCast, lt1, iI_add, Nat.zero_add]) N m hN
  refine ⟨mb, ?_, fun j hj => ?_, fun o j ho => c2 o j (fun q => absurd q ho), fun o j ha _ => ⟨c2 o j (fun q => absurd (by rw [q]; decide) ha), (c3 o j).1, (c3 o j).2⟩⟩
  · refine (show _ = _ from e).trans ?_
    rw [F_M_ground_L92, if_pos (by decide)]
  · have q := c1 j hj
    rw [Nat.zero_add] at q
    exact q
theorem MtOk.n' {t : Mt} {n n' : Int} (h : MtOk t n) (h1 : 1 ≤ n') (h2 : t.fi ≠ -1 → n' = n) : MtOk t n' := by
  by_cases hf : t.fi = -1
  · have hno := h.no hf
    have := h.pl1
    exact MtOk.mk ⟨h.fi0, h.fi1, h.in0, h.in3, h.ou0, h.ou1, h.pl0, by omega, h.wi0, h.wi2, h.a0, h.a1, h.b0, h.b1, h.fo, h.no, h.on, fun q => by omega, h.fre⟩
  · rw [h2 hf]
    exact h
/-- what the class does once its tape is used -/
def KG (T : Int32) (zq5 : Bool) (mq4 : Mem) : Option ((Nat ⊕ Int32) × Mem) := bnd (F_GT_readGround T zq5 (gI mq4 12 0) mq4) fun xq8 mq6 => lt (sI mq6 0 2 xq8) fun mq9 => if (gI mq9 0 2) = (-1 : Int32) then (if (gI mq9 3 6) < (12 : Int32) then (bnd (F_GT_tell mq9) fun _ mq10 => lt (sI mq10 3 6 ((gI mq10 3 6) + (1 : Int32))) fun mq13 => bnd (F_T_startAfresh mq13) fun _ mq14 => some (.inr (gI mq14 3 6), mq14)) else (some (.inl 3, mq9))) else (some (.inl 1, mq9))
theorem ground_op {B : Nat} {law : Option (List (Int × List Int))} {n mg wd tx bc : Int} {t : Mt} {m : Mem} (h : IV B law n mg wd tx bc t m) : Both B cdG F_T_ground F_M_ground m := by
  obtain ⟨T, b, h01, h78, hB, hR⟩ := tape_b h.tp
  obtain ⟨N, hN⟩ : ∃ N : Nat, N = 1000000 := ⟨_, rfl⟩
  have hNb : 1135 < N := by omega
  have p9 : t.pl ≤ 9 := by have := h.mo.pl1; have := h.gr.n9; omega
  have b0 := h.gr.bc0
  have b9 := h.gr.bc9
  have t0 := h.gr.tx0
  have t9 := h.gr.tx9
  have f0 := h.mo.fi0
  have f1 := h.mo.fi1
  obtain ⟨bn, hbn⟩ : ∃ x : Nat, bc = x := ⟨bc.toNat, by omega⟩
  have hc0 : gI m 16 0 = iI t.fi := h.cm.1
  have hw10 : gI m 79 10 = iI t.fi := h.wm.2.1
  obtain ⟨ah, hah⟩ : ∃ x : Bool, x = decide (t.fi = -1) := ⟨_, rfl⟩
  have hah1 : ah = true ↔ t.fi = -1 := by rw [hah]; exact decide_eq_true_iff
  obtain ⟨m1, hm1⟩ : ∃ x, x = sI m 0 1 0 := ⟨_, rfl⟩
  have eu : F_T_useTape m = some (iI T, m1) := by
    unfold F_T_useTape
    rw [lt_def, lt_def, h01, hm1]
  have k1 : ∀ o j, o ≠ 0 → gI m1 o j = gI m o j := fun o j ho => by rw [hm1, gI_sI, if_neg (fun q => ho q.1)]
  have eT0 : ∀ R, KG (iI T) ah m1 = R → F_T_ground m = R := by
    intro R hR
    unfold F_T_ground
    rw [bnd_some eu, lt_def, k1 16 0 (by decide), hc0]
    by_cases hf : t.fi = -1
    · rw [if_pos (by rw [hf]; rfl)]
      rw [hah1.2 hf] at hR
      exact hR
    · rw [if_neg (by rw [ltm1, iI_eq (by omega) (by omega) (by omega) (by omega)]; exact hf)]
      have hf2 : ah = false := by
        cases hq : ah
        · rfl
        · exact absurd (hah1.1 hq) hf
      rw [hf2] at hR
      exact hR
  obtain ⟨m2, hm2⟩ : ∃ x, x = sI m1 46 8 0 := ⟨_, rfl⟩
  obtain ⟨m3, hm3⟩ : ∃ x, x = sI m2 46 9 (iI bc) := ⟨_, rfl⟩
  obtain ⟨m4, hm4⟩ : ∃ x, x = sZ m3 46 10 ah := ⟨_, rfl⟩
  have f4 : Fr rdA rdL m m4 := Fr_sZ hm4 (Fr_sI hm3 (Fr_sI hm2 (Fr_sI hm1 Fr_rf (by decide)) (by decide)) (by decide)) (by decide)
  have hB4 : BT m4 b T := hB.cg (fun j => f4.gI (by decide) (by simp [rdL]))
  have h12 : gI m1 12 0 = iI bc := by rw [k1 12 0 (by decide)]; exact h.gr.cbc
  have g8 : gI m4 46 8 = iI 0 := by rw [hm4, gI_sZ, hm3, gI_sI, if_neg (fun q => absurd q.2 (by decide)), hm2]; rfl
  have g9 : gI m4 46 9 = iI bc := by rw [hm4, gI_sZ, hm3, gI_sI, if_pos ⟨rfl, rfl⟩]
  have g10 : gZ m4 46 10 = ah := by rw [hm4]; rfl
  have hfi : gI m 79 10 < 0 ↔ ah = true := by
    rw [hw10, hah1, lt0, iI_lt (by omega) (by omega) (by omega) (by omega)]
    omega
  have w5 : gI m 79 5 = iI bn := by rw [← hbn]; exact h.gr.wbc
  obtain ⟨r, mC, v0, mR0, e1, -, c1⟩ := groundtext (ah := ah) hB4 hR h78 g8 (by rw [g9]; exact h.gr.wbc.symm) (bc := bn) (by omega) w5 g10 hfi
  have fC : Fr rdA rdL m mC := Fr_tr f4 (Fr_wk2 (A := rdA) (L := rdL) (fr_Tx_readLinesG _ _ _ _ _ e1) (by decide) (by decide)) (fun _ a => a) (fun _ a => a)
  have eL : F_GT_readGround (iI T) ah (gI m1 12 0) m1 = some (gI mC 46 6, mC) := by
    unfold F_GT_readGround
    rw [lt_def, ← hm2, lt_def, h12, ← hm3, lt_def, ← hm4, bnd_some e1]
  obtain ⟨m6, hm6⟩ : ∃ x, x = sI mC 0 2 (gI mC 46 6) := ⟨_, rfl⟩
  have f6 : Fr rdA rdL m m6 := Fr_sI hm6 fC (by decide)
  have g02 : gI m6 0 2 = gI mC 46 6 := by rw [hm6, gI_sI, if_pos ⟨rfl, rfl⟩]
  have g36 : gI m6 3 6 = iI tx := by rw [f6.gI (by decide) (by decide)]; exact h.gr.ctx
  have k6 : ∀ o, (1 ≤ o ∧ o ≤ 45) → ∀ j, gI m6 o j = gI m o j := fun o ho j => f6.gI (by simp only [rdA, List.mem_cons, List.not_mem_nil, or_false]; omega) (by simp only [rdL, List.mem_cons, Prod.mk.injEq, List.not_mem_nil, or_false]; omega)
  have g01 : gI m6 0 1 = iI 0 := by
    rw [hm6, gI_sI, if_neg (fun q => absurd q.2 (by decide)), (fr_Tx_readLinesG _ _ _ _ _ e1).gI (by simp) (by simp), hm4, gI_sZ, hm3, gI_sI, if_neg (fun q => absurd q.1 (by decide)), hm2, gI_sI, if_neg (fun q => absurd q.1 (by decide)), hm1]
    rfl
  -- the reference, behind the class
  have again : ∀ mF : Mem, (∀ j, gI mF 79 j = gI m 79 j) → (∀ j, gI mF 83 j = gI m 83 j) → gI mF 78 8 = iI T → ∃ v mR, F_M_readAll true (cpM mF) = some (v, mR) ∧ (∀ j, j < 1135 → gI mR 81 j = gI m 79 j) ∧ ((gI mC 46 6 = iI (-1) ∧ ∃ l : List GLn, l.length ≤ 14 ∧ v = iI l.length ∧ gI mC 46 8 = iI l.length ∧ RowsG mC 0 l ∧ APs ah (gI m 79) l (gI mR 79)) ∨ (v = iI (-1) ∧ ∃ f : Nat, gI mC 46 6 = iI f ∧ f ≤ 400 ∧ gI mR 78 11 = iI f)) := by
    intro mF a79 a83 a8
    have a79' : gI (cpM mF) 79 = gI m 79 := funext (fun j => (cpM_o (by decide) j).trans (a79 j))
    obtain ⟨r', mC', v, mR, e1', e2, c2⟩ := groundtext (ah := ah) (mR0 := cpM mF) hB4 (hR.cg (fun j => (cpM_o (by decide) j).trans (a83 j))) ((cpM_o (by decide) 8).trans a8) g8 (by rw [g9, a79']; exact h.gr.wbc.symm) (bc := bn) (by omega) (by rw [a79']; exact w5) g10 (by rw [a79']; exact hfi)
    obtain ⟨hr, hmC⟩ : r' = r ∧ mC' = mC := by
      rw [e1] at e1'
      have := Option.some.inj e1'
      exact ⟨(congrArg Prod.fst this).symm, (congrArg Prod.snd this).symm⟩
    rw [hmC, a79'] at c2
    refine ⟨v, mR, e2, fun j hj => ?_, c2⟩
    rw [(fr_M_readAll _ _ _ _ e2).gI (by simp) (by simp), cpM_81 hj]
    exact a79 j
  -- nothing comes of it
  have nothing : ∀ (e : Nat) (mR mz m9 : Mem) (cd : Int), 0 < cdG e → cdG e = cd → (∀ j, j < 1135 → gI mR 81 j = gI m 79 j) → F_T_ground m = some (.inl e, m6) → P8 mR → (∀ j, j < 1135 → gI mz 81 j = gI mR 81 j) → (∀ o j, o ≠ 79 → gI m9 o j = gI mz o j) → (∀ j, j < 1135 → gI m9 79 j = gI mz 81 j) → gI mz 78 0 = iI cd → gI mz 78 8 = gI mR 78 8 → gI mz 78 13 = gI mC 46 6 → Fr rdA rdL (cpM m6) m9 → F_M_ground m6 = some (0, m9) → Both B cdG F_T_ground F_M_ground m := by
    intro e mR mz m9 cd hc hcd r81 eT p8 z81 o9 w9 z0 z8 z13 f9 eM
    have fM := fr_M_ground _ _ _ eM
    have fall : Fr rdA rdL m m9 := Fr_tr f6 (Fr_tr (cpM_fr m6) f9 (fun _ a => a) (fun _ a => a)) (fun _ a => a) (fun _ a => a)
    refine ok_e eT (ok_e eM ⟨⟨hc, ?_⟩, IV.inv (h.read fall ?_ ?_ (fun j hj => ?_))⟩)
    · rw [o9 78 0 (by decide), z0, hcd]
    · refine ⟨0, by omega, ?_, ?_, fun i hi => absurd hi (by omega)⟩
      · rw [fM.gI (by simp) (by simp)]
        exact g01
      · rw [o9 78 8 (by decide), z8]
        exact p8.1
    · rw [fM.gI (o := 0) (j := 2) (by simp) (by simp), g02, o9 78 13 (by decide), z13]
    · rw [w9 j hj, z81 j hj, r81 j hj]
  have a79 : ∀ j, gI m6 79 j = gI m 79 j := by
    intro j
    rw [hm6, gI_sI, if_neg (fun q => absurd q.1 (by decide)), (fr_Tx_readLinesG _ _ _ _ _ e1).gI (by simp) (by simp), hm4, gI_sZ, hm3, gI_sI, if_neg (fun q => absurd q.1 (by decide)), hm2, gI_sI, if_neg (fun q => absurd q.1 (by decide)), hm1, gI_sI, if_neg (fun q => absurd q.1 (by decide))]
  have a83 : ∀ j, gI m6 83 j = gI m 83 j := fun j => f6.gI (by decide) (by simp [rdL])
  have a8 : gI m6 78 8 = iI T := by
    rw [hm6, gI_sI, if_neg (fun q => absurd q.1 (by decide)), (fr_Tx_readLinesG _ _ _ _ _ e1).gI (by simp) (by simp), hm4, gI_sZ, hm3, gI_sI, if_neg (fun q => absurd q.1 (by decide)), hm2, gI_sI, if_neg (fun q => absurd q.1 (by decide)), hm1, gI_sI, if_neg (fun q => absurd q.1 (by decide))]
    exact h78
  rcases c1 with ⟨w, l0, y1, -, y3, y4, y5⟩ | ⟨-, f, hf6, hf4, -⟩
  · by_cases h12t : tx < 12
    · -- told
      have hGw : GRw m6 (gI m 79) law n mg wd tx bc := by
        unfold GRw
        exact h.gr.cg2 (fun j _ => (wG_o (by decide) j).trans (k6 3 (by omega) j)) (fun j _ => (wG_o (by decide) j).trans (k6 4 (by omega) j)) (fun j _ => (wG_o (by decide) j).trans (k6 5 (by omega) j)) (fun j _ => (wG_o (by decide) j).trans (k6 6 (by omega) j)) (fun j _ => (wG_o (by decide) j).trans (k6 7 (by omega) j)) (fun j _ => (wG_o (by decide) j).trans (k6 8 (by omega) j)) (fun j _ => (wG_o (by decide) j).trans (k6 9 (by omega) j)) ((wG_o (by decide) 0).trans (k6 12 (by omega) 0)) (fun j _ => (wG_o (by decide) j).trans (k6 13 (by omega) j)) (fun j _ _ => wG_79 j)
      have c6 : ∀ j, gI m6 46 j = gI mC 46 j ∧ gI m6 51 j = gI mC 51 j := fun j => ⟨by rw [hm6, gI_sI, if_neg (fun q => absurd q.1 (by decide))], by rw [hm6, gI_sI, if_neg (fun q => absurd q.1 (by decide))]⟩
      obtain ⟨m7, e7, -⟩ := tell_ok y1 ((c6 8).1.trans y3) (RowsG_cg (fun j _ => (c6 j).2) y4) hGw y5
      have f7 := fr_GT_tell _ _ _ e7
      obtain ⟨m8, hm8⟩ : ∃ x, x = sI m7 3 6 (iI (tx + 1)) := ⟨_, rfl⟩
      obtain ⟨m9, e9, l1, l2, l3, l4, l5⟩ := afresh_ok m8
      have fa := fr_T_startAfresh _ _ _ e9
      have g37 : gI m7 3 6 = iI tx := by rw [f7.gI (by simp) (by simp)]; exact g36
      have eT : F_T_ground m = some (.inr (gI m9 3 6), m9) := by
        refine eT0 _ ?_
        unfold KG
        rw [bnd_some eL, lt_def, ← hm6, g02, w, if_pos (show iI (-1) = (-1 : Int32) from rfl), g36, if_pos (by rw [lt12, iI_lt (by omega) (by omega) (by omega) (by omega)]; exact h12t), bnd_some e7, lt_def, g37, lt1, iI_add, ← hm8, bnd_some e9]
      have fT := fr_T_ground _ _ _ eT
      obtain ⟨v, mR, e2, r81, c2⟩ := again m9 (fun j => fT.gI (by simp) (by simp)) (fun j => fT.gI (by simp) (by simp)) ((fT.gI (by simp) (by simp)).trans h78)
      rcases c2 with ⟨-, l, x1, x2, x3, x4, x5⟩ | ⟨-, f, hf6, hf4, -⟩
      · rw [x2] at e2
        have p8 := p8_read true _ _ _ e2
        obtain ⟨m7', e7', n', mg', dw', bc', k7, hn'⟩ := tell_ok x1 ((c6 8).1.trans x3) (RowsG_cg (fun j _ => (c6 j).2) x4) hGw x5
        have hm77 : m7' = m7 := by
          rw [e7] at e7'
          exact (congrArg Prod.snd (Option.some.inj e7')).symm
        rw [hm77] at k7
        obtain ⟨mA, hmA⟩ : ∃ x, x = sI mR 78 13 (-1) := ⟨_, rfl⟩
        obtain ⟨mB, hmB⟩ : ∃ x, x = sI mA 79 3 (iI (tx + 1)) := ⟨_, rfl⟩
        obtain ⟨mD, hmD⟩ : ∃ x, x = sI mB 78 6 0 := ⟨_, rfl⟩
        have hpos : (0 : Int32) ≤ iI (l.length : Int) := by rw [lt0, iI_le (by omega) (by omega) (by omega) (by omega)]; omega
        have wA : gI mA 79 3 = iI tx := by
          rw [hmA, gI_sI, if_neg (fun q => absurd q.1 (by decide)), APs_3 x5]
          exact h.gr.wtx
        have h12n : ¬ iI tx = (12 : Int32) := by rw [lt12, iI_eq (by omega) (by omega) (by omega) (by omega)]; omega
        have eM : F_M_ground m9 = some (iI (tx + 1), mD) := by
          unfold F_M_ground
          rw [← hN]
          refine lt_go (fun k27 h27 => ?_)
          rw [before_ok hNb, h27]
          dsimp only
          rw [bnd_some e2, lt_def, if_pos hpos]
          dsimp only
          rw [lt_def, ← hmA, lt_def, if_pos hpos]
          dsimp only
          rw [bnd_some throwsIf_f, lt_def, if_neg (by decide), lt_def, wA, if_neg h12n]
          dsimp only
          rw [bnd_some throwsIf_f, if_neg (by decide), wA, lt1, iI_add, lt_def, ← hmB, lt_def, ← hmD]
          rw [show gI mD 79 3 = iI (tx + 1) by rw [hmD, gI_sI, if_neg (fun q => absurd q.1 (by decide)), hmB, gI_sI, if_pos ⟨rfl, rfl⟩]]
        have fM := fr_M_ground _ _ _ eM
        have fall : Fr fshA fshL m mD := Fr_tr (Fr_wk2 fT (by decide) (by decide)) fM (by decide) (by decide)
        have ek : ∀ o, o ≠ 78 → o ≠ 79 → o ≠ 81 → ∀ j, gI mD o j = gI m9 o j ∧ gL mD o j = gL m9 o j ∧ gZ mD o j = gZ m9 o j := fun o a b c j => fM o j (by simp; omega) (by simp; omega)
        have eA : ∀ o, o ≠ 14 → o ≠ 2 → o ≠ 20 → ∀ j, gI m9 o j = gI m8 o j := fun o a b c j => fa.gI (by simp; omega) (by simp; omega)
        have eD : ∀ j, j ≠ 3 → gI mD 79 j = gI mR 79 j := by
          intro j hj
          rw [hmD, gI_sI, if_neg (fun q => absurd q.1 (by decide)), hmB, gI_sI, if_neg (fun q => hj q.2), hmA, gI_sI, if_neg (fun q => absurd q.1 (by decide))]
        have hwo : ∀ j, j = 4 ∨ (9 ≤ j ∧ j ≤ 18) ∨ 235 ≤ j → gI mD 79 j = gI m 79 j := fun j hj => (eD j (by omega)).trans (APs_o hj x5)
        have e16 : ∀ o, o = 16 ∨ o = 17 → ∀ j, gI mD o j = gI m o j ∧ gZ mD o j = gZ m o j := by
          intro o ho j
          have q1 := ek o (by omega) (by omega) (by omega) j
          have q2 := fT o j (by simp; omega) (by simp; omega)
          exact ⟨q1.1.trans q2.1, q1.2.2.trans q2.2.2⟩
        have hg : GR mD 3 4 5 6 7 8 9 12 13 79 law n' mg' dw' (tx + 1) bc' := by
          unfold GRw at k7
          refine GRw.tx k7 (fun o j ho => ?_) ?_ ?_ h12t
          · by_cases h79 : o = 79
            · subst h79
              rw [wG_79, eD j (by omega)]
            · rw [wG_o h79, (ek o (by omega) h79 (by omega) j).1]
              by_cases ho14 : o = 14 ∨ o = 2
              · omega
              · rw [eA o (by omega) (by omega) (by omega), hm8, gI_sI, if_neg (fun q => by omega)]
          · rw [(ek 3 (by decide) (by decide) (by decide) 6).1, eA 3 (by decide) (by decide) (by decide), hm8, gI_sI, if_pos ⟨rfl, rfl⟩]
          · rw [hmD, gI_sI, if_neg (fun q => absurd q.1 (by decide)), hmB, gI_sI, if_pos ⟨rfl, rfl⟩]
        refine ok_e eT (ok_e eM ⟨⟨?_, ?_⟩, IV.inv (h.afresh (law' := law) (n' := n') (mg' := mg') (wd' := dw') (tx' := tx + 1) (bc' := bc') (t' := t) fall ?_ ?_ hg ?_ ?_ ?_ ?_ ?_ ?_ ?_ ?_ ?_)⟩)
        · rw [hmD, gI_sI, if_neg (fun q => absurd q.2 (by decide)), hmB, gI_sI, if_neg (fun q => absurd q.1 (by decide)), hmA, gI_sI, if_neg (fun q => absurd q.2 (by decide))]
          exact p8.2
        · rw [eA 3 (by decide) (by decide) (by decide), hm8, gI_sI, if_pos ⟨rfl, rfl⟩]
        · refine ⟨0, by omega, ?_, ?_, fun i hi => absurd hi (by omega)⟩
          · rw [(ek 0 (by decide) (by decide) (by decide) 1).1, eA 0 (by decide) (by decide) (by decide), hm8, gI_sI, if_neg (fun q => absurd q.1 (by decide)), f7.gI (by simp) (by simp)]
            exact g01
          · rw [hmD, gI_sI, if_neg (fun q => absurd q.2 (by decide)), hmB, gI_sI, if_neg (fun q => absurd q.1 (by decide)), hmA, gI_sI, if_neg (fun q => absurd q.2 (by decide))]
            exact p8.1
        · rw [(ek 0 (by decide) (by decide) (by decide) 2).1, eA 0 (by decide) (by decide) (by decide), hm8, gI_sI, if_neg (fun q => absurd q.1 (by decide)), f7.gI (by simp) (by simp), g02, w, hmD, gI_sI, if_neg (fun q => absurd q.2 (by decide)), hmB, gI_sI, if_neg (fun q => absurd q.1 (by decide)), hmA]
          rfl
        · exact fun j hj => (ek 14 (by decide) (by decide) (by decide) j).1.trans (l1 j hj)
        · exact (ek 2 (by decide) (by decide) (by decide) 3).2.2.trans l2
        · exact (ek 2 (by decide) (by decide) (by decide) 7).2.1.trans l3
        · exact (ek 2 (by decide) (by decide) (by decide) 8).2.1.trans l4
        · exact (ek 20 (by decide) (by decide) (by decide) 0).1.trans l5
        · rw [hmD]; rfl
        · exact h.cm.cg (fun j => (e16 16 (by omega) j).1) (fun j => (e16 17 (by omega) j).1) (fun j => (e16 16 (by omega) j).2)
        · obtain ⟨w9, w10, w11, w12, w13, w14, w15, w16, w17, w18, wlg⟩ := h.wm
          refine ⟨(hwo _ (by omega)).trans w9, (hwo _ (by omega)).trans w10, (hwo _ (by omega)).trans w11, (hwo _ (by omega)).trans w12, (hwo _ (by omega)).trans w13, (hwo _ (by omega)).trans w14, (hwo _ (by omega)).trans w15, (hwo _ (by omega)).trans w16, (hwo _ (by omega)).trans w17, (hwo _ (by omega)).trans w18, fun j hj => ?_⟩
          rw [hwo _ (by omega)]
          exact wlg j hj
        · refine h.mo.n' hg.n1 (fun q => hn' ?_)
          cases hq : ah
          · rfl
          · exact absurd (hah1.1 hq) q
      · exfalso
        rw [w, iI_eq (by omega) (by omega) (by omega) (by omega)] at hf6
        omega
    · -- there are twelve
      have ht12 : tx = 12 := by omega
      have eT : F_T_ground m = some (.inl 3, m6) := by
        refine eT0 _ ?_
        unfold KG
        rw [bnd_some eL, lt_def, ← hm6, g02, w, if_pos (show iI (-1) = (-1 : Int32) from rfl), g36, if_neg (by rw [lt12, iI_lt (by omega) (by omega) (by omega) (by omega)]; exact h12t)]
      obtain ⟨v, mR, e2, r81, c2⟩ := again m6 a79 a83 a8
      rcases c2 with ⟨-, l, x1, x2, x3, x4, x5⟩ | ⟨-, f, hf6, hf4, -⟩
      · rw [x2] at e2
        have p8 := p8_read true _ _ _ e2
        obtain ⟨mA, hmA⟩ : ∃ x, x = sI mR 78 13 (-1) := ⟨_, rfl⟩
        obtain ⟨mz, hmz⟩ : ∃ x, x = sI mA 78 0 2 := ⟨_, rfl⟩
        obtain ⟨m9, e9, w9, o9, fz⟩ := restore_ok hNb mz
        have hpos : (0 : Int32) ≤ iI (l.length : Int) := by rw [lt0, iI_le (by omega) (by omega) (by omega) (by omega)]; omega
        have wA : gI mA 79 3 = iI tx := by
          rw [hmA, gI_sI, if_neg (fun q => absurd q.1 (by decide)), APs_3 x5]
          exact h.gr.wtx
        have eM : F_M_ground m6 = some (0, m9) := by
          unfold F_M_ground
          rw [← hN]
          refine lt_go (fun k27 h27 => ?_)
          rw [before_ok hNb, h27]
          dsimp only
          rw [bnd_some e2, lt_def, if_pos hpos]
          dsimp only
          rw [lt_def, ← hmA, lt_def, if_pos hpos]
          dsimp only
          rw [bnd_some throwsIf_f, lt_def, if_neg (by decide), lt_def, wA, if_pos (by rw [ht12]; rfl)]
          dsimp only
          rw [bnd_some throwsIf_t, if_pos rfl, ← hmz]
          exact e9
        refine nothing 3 mR mz m9 2 (by decide) rfl r81 eT p8 (fun j _ => ?_) o9 w9 ?_ ?_ ?_ (Fr_tr (Fr_sI hmz (Fr_sI hmA (Fr_wk2 (A := rdA) (L := rdL) (fr_M_readAll _ _ _ _ e2) (by decide) (by decide)) (by decide)) (by decide)) fz (fun _ a => a) (fun _ a => a)) eM
        · rw [hmz, gI_sI, if_neg (fun q => absurd q.1 (by decide)), hmA, gI_sI, if_neg (fun q => absurd q.1 (by decide))]
        · rw [hmz]; rfl
        · rw [hmz, gI_sI, if_neg (fun q => absurd q.2 (by decide)), hmA, gI_sI, if_neg (fun q => absurd q.2 (by decide))]
        · rw [hmz, gI_sI, if_neg (fun q => absurd q.2 (by decide)), hmA, w]
          rfl
      · exfalso
        rw [w, iI_eq (by omega) (by omega) (by omega) (by omega)] at hf6
        omega
  · have hne : ¬ iI (f : Int) = (-1 : Int32) := by
      rw [ltm1, iI_eq (by omega) (by omega) (by omega) (by omega)]
      omega
    have eT : F_T_ground m = some (.inl 1, m6) := by
      refine eT0 _ ?_
      unfold KG
      rw [bnd_some eL, lt_def, ← hm6, g02, hf6, if_neg hne]
    obtain ⟨v, mR, e2, r81, c2⟩ := again m6 a79 a83 a8
    rcases c2 with ⟨w2, -⟩ | ⟨hv, f', hf6', hf4', h11⟩
    · exfalso
      rw [w2, iI_eq (by omega) (by omega) (by omega) (by omega)] at hf6
      omega
    · rw [hv] at e2
      have p8 := p8_read true _ _ _ e2
      have hff : f' = f := by
        rw [hf6, iI_eq (by omega) (by omega) (by omega) (by omega)] at hf6'
        omega
      obtain ⟨mA, hmA⟩ : ∃ x, x = sI mR 78 13 (iI f) := ⟨_, rfl⟩
      obtain ⟨mz, hmz⟩ : ∃ x, x = sI mA 78 0 1 := ⟨_, rfl⟩
      obtain ⟨m9, e9, w9, o9, fz⟩ := restore_ok hNb mz
      have hneg : ¬ (0 : Int32) ≤ iI (-1) := by decide
      have eM : F_M_ground m6 = some (0, m9) := by
        unfold F_M_ground
        rw [← hN]
        refine lt_go (fun k27 h27 => ?_)
        rw [before_ok hNb, h27]
        dsimp only
        rw [bnd_some e2, lt_def, if_neg hneg]
        dsimp only
        rw [h11, hff, lt_def, ← hmA, lt_def, if_neg hneg]
        dsimp only
        rw [bnd_some throwsIf_t, lt_def, if_pos rfl, ← hmz]
        exact e9
      refine nothing 1 mR mz m9 1 (by decide) rfl r81 eT p8 (fun j _ => ?_) o9 w9 ?_ ?_ ?_ (Fr_tr (Fr_sI hmz (Fr_sI hmA (Fr_wk2 (A := rdA) (L := rdL) (fr_M_readAll _ _ _ _ e2) (by decide) (by decide)) (by decide)) (by decide)) fz (fun _ a => a) (fun _ a => a)) eM
      · rw [hmz, gI_sI, if_neg (fun q => absurd q.1 (by decide)), hmA, gI_sI, if_neg (fun q => absurd q.1 (by decide))]
      · rw [hmz]; rfl
      · rw [hmz, gI_sI, if_neg (fun q => absurd q.2 (by decide)), hmA, gI_sI, if_neg (fun q => absurd q.2 (by decide))]
      · rw [hmz, gI_sI, if_neg (fun q => absurd q.2 (by decide)), hmA, hf6]
        rfl
end GROUND
