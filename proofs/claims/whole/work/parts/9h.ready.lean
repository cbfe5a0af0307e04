section READY
theorem L_succ {x : Int64} {B : Nat} (h : x.toBitVec.toNat ≤ B) (hB : B ≤ 1000000) : (x + 1).toBitVec.toNat = x.toBitVec.toNat + 1 := by
  rw [Int64.toBitVec_add, BitVec.toNat_add]
  show (x.toBitVec.toNat + 1) % 2 ^ 64 = _
  rw [Nat.mod_eq_of_lt (by omega)]
theorem Same.fr {m0 m : Mem} (h : Same m0 m) : Fr [10, 11, 14, 15] [] m0 m := by
  intro o j a _
  simp only [List.mem_cons, List.not_mem_nil, or_false, not_or] at a
  exact h o j a.1 a.2.1 a.2.2.1 a.2.2.2
theorem IV.ready {B : Nat} {law : Option (List (Int × List Int))} {n mg wd tx bc : Int} {t : Mt} {m : Mem} (h : IV B law n mg wd tx bc t m) (hB : B ≤ 1000000) {f dw : Int} (bl : Bool) (f0 : 0 ≤ f) (f1 : f ≤ 1) (d0 : 0 ≤ dw) (d1 : dw ≤ 100) : ∃ m1 mk, F_Od_ready (iI f) (iI dw) bl m = some ((), m1) ∧ OB law (opOf (gI m 79) law n mg f dw bl) mg tx bc f dw mk bl wd m1 ∧ OI law (opOf (gI m 79) law n mg f dw bl) mk m1 m1 ∧ (∀ m2, OI law (opOf (gI m 79) law n mg f dw bl) mk m1 m2 → IV (B + 1) law n mg wd tx bc t m2) ∧ Fr [] [(2, 2), (2, 3), (2, 4), (2, 5), (2, 6)] m m1 := by
  obtain ⟨o1, o2, o3, o4, o5⟩ := h.od
  have key : ∃ m1 mk, F_Od_ready (iI f) (iI dw) bl m = some ((), m1) ∧ gL m1 2 2 = mk ∧ mk.toBitVec.toNat ≤ B + 1 ∧ gZ m1 2 3 = false ∧ gI m1 2 4 = iI f ∧ gI m1 2 5 = iI dw ∧ gZ m1 2 6 = bl ∧ gL m1 2 7 = gL m 2 7 ∧ gL m1 2 8 = gL m 2 8 ∧ Memo (opOf (gI m 79) law n mg f dw bl) mk.toBitVec.toNat m1 ∧ (∀ i, i < 193050 → kn m1 i / 1099511627776 ≤ mk.toBitVec.toNat) := by
    have hnew : ∃ m1 mk, (lt (sL m 2 2 ((gL m 2 2) + (1 : Int64))) fun mq2 => lt (sZ mq2 2 3 false) fun mq3 => lt (sI mq3 2 4 (iI f)) fun mq4 => lt (sI mq4 2 5 (iI dw)) fun mq5 => lt (sZ mq5 2 6 bl) fun mq6 => some ((), mq6)) = some ((), m1) ∧ gL m1 2 2 = mk ∧ mk.toBitVec.toNat ≤ B + 1 ∧ gZ m1 2 3 = false ∧ gI m1 2 4 = iI f ∧ gI m1 2 5 = iI dw ∧ gZ m1 2 6 = bl ∧ gL m1 2 7 = gL m 2 7 ∧ gL m1 2 8 = gL m 2 8 ∧ Memo (opOf (gI m 79) law n mg f dw bl) mk.toBitVec.toNat m1 ∧ (∀ i, i < 193050 → kn m1 i / 1099511627776 ≤ mk.toBitVec.toNat) := by
      obtain ⟨m1, hm1⟩ : ∃ x, x = sZ (sI (sI (sZ (sL m 2 2 ((gL m 2 2) + (1 : Int64))) 2 3 false) 2 4 (iI f)) 2 5 (iI dw)) 2 6 bl := ⟨_, rfl⟩
      have hs := L_succ o1 hB
      have hkn : ∀ i, kn m1 i = kn m i := by
        intro i
        unfold kn
        rw [hm1, gL_sZ, gL_sI, gL_sI, gL_sZ, gL_sL, if_neg (fun q => absurd q.1 (by decide))]
      refine ⟨m1, gL m 2 2 + 1, by rw [hm1]; rfl, ?_, by omega, ?_, ?_, ?_, ?_, ?_, ?_, ?_, ?_⟩
      · rw [hm1, gL_sZ, gL_sI, gL_sI, gL_sZ, gL_sL, if_pos ⟨rfl, rfl⟩]
      · rw [hm1, gZ_sZ, if_neg (fun q => absurd q.2 (by decide)), gZ_sI, gZ_sI, gZ_sZ, if_pos ⟨rfl, rfl⟩]
      · rw [hm1, gI_sZ, gI_sI, if_neg (fun q => absurd q.2 (by decide)), gI_sI, if_pos ⟨rfl, rfl⟩]
      · rw [hm1, gI_sZ, gI_sI, if_pos ⟨rfl, rfl⟩]
      · rw [hm1, gZ_sZ, if_pos ⟨rfl, rfl⟩]
      · rw [hm1, gL_sZ, gL_sI, gL_sI, gL_sZ, gL_sL, if_neg (fun q => absurd q.2 (by decide))]
      · rw [hm1, gL_sZ, gL_sI, gL_sI, gL_sZ, gL_sL, if_neg (fun q => absurd q.2 (by decide))]
      · intro p k o l a b c d e g i j hk
        have hlt := ix_lt a (by have := h.gr.n9; rw [opOf_n] at b; omega) c d e g i j
        rw [hkn, hs] at hk
        have := o2 _ hlt
        omega
      · intro i hi
        rw [hkn, hs]
        have := o2 i hi
        omega
    unfold F_Od_ready
    rw [lt_def]
    by_cases hst : gZ m 2 3 = true
    · rw [if_pos hst]
      exact hnew
    · rw [if_neg hst]
      obtain ⟨f', dw', a0, a1, b0, b1, e4, e5, eM⟩ := o3 (by simpa using hst)
      by_cases h4 : gI m 2 4 = iI f
      · rw [if_pos h4]
        by_cases h5 : gI m 2 5 = iI dw
        · rw [if_pos h5]
          by_cases h6 : b2i (gZ m 2 6) = b2i bl
          · rw [if_pos h6]
            rw [b2i_inj] at h6
            have ef : f' = f := by
              rw [e4, iI_eq (by omega) (by omega) (by omega) (by omega)] at h4
              exact h4
            have ed : dw' = dw := by
              rw [e5, iI_eq (by omega) (by omega) (by omega) (by omega)] at h5
              exact h5
            rw [ef, ed, h6] at eM
            exact ⟨m, gL m 2 2, rfl, rfl, by omega, by simpa using hst, h4, h5, h6, rfl, rfl, eM, o2⟩
          · rw [if_neg h6]
            exact hnew
        · rw [if_neg h5]
          exact hnew
      · rw [if_neg h4]
        exact hnew
  obtain ⟨m1, mk, e1, k2, kB, k3, k4, k5, k6, k7, k8, kM, kK⟩ := key
  have hfr := fr_Od_ready _ _ _ _ _ _ e1
  have hw : gI m1 79 = gI m 79 := Fr_row hfr rfl rfl
  have hg1 : GR m1 3 4 5 6 7 8 9 12 13 79 law n mg wd tx bc := GR_told h.gr (fun o ho j => hfr.gI (by simp) (by simp; omega)) (fun j _ => by rw [hw])
  have hl1 : LevOK law m1 := h.lv.cg2 (fun j => hfr.gI (by simp) (by simp)) (by rw [hw]) (by rw [hw]) (fun j _ _ => by rw [hw])
  have hOI : OI law (opOf (gI m 79) law n mg f dw bl) mk m1 m1 := ⟨fun o j _ _ _ _ => ⟨rfl, rfl, rfl⟩, hl1, kM, kK⟩
  refine ⟨m1, mk, e1, OB.mk ⟨hg1, by rw [hw, opOf_n], f0, f1, d0, d1, k4, k5, k6, k2⟩, hOI, fun m2 h2 => ?_, hfr⟩
  obtain ⟨s1, s2, s3, s4⟩ := h2
  have hw2 : gI m2 79 = gI m 79 := by
    rw [← hw]
    funext j
    exact (s1 79 j (by decide) (by decide) (by decide) (by decide)).1
  have hfr2 : Fr scrA scrL m m2 := Fr_tr (Fr_wk hfr (by simp) (by simp [scrL])) s1.fr (by simp [scrA]) (by simp)
  have g2 : ∀ j, gI m2 2 j = gI m1 2 j ∧ gL m2 2 j = gL m1 2 j ∧ gZ m2 2 j = gZ m1 2 j := fun j => s1 2 j (by decide) (by decide) (by decide) (by decide)
  refine h.keep hfr2 ?_ s2 ⟨?_, ?_, ?_, ?_, ?_⟩
  · rw [(s1 78 22 (by decide) (by decide) (by decide) (by decide)).2.2, (hfr 78 22 (by simp) (by simp)).2.2]
    exact h.bli
  · rw [(g2 2).2.1, k2]
    exact kB
  · rw [(g2 2).2.1, k2]
    exact s4
  · intro _
    refine ⟨f, dw, f0, f1, d0, d1, (g2 4).1.trans k4, (g2 5).1.trans k5, ?_⟩
    rw [(g2 2).2.1, k2, (g2 6).2.2, k6, hw2]
    exact s3
  · rw [(g2 7).2.1, k7, hw2]
    exact o4
  · rw [(g2 8).2.1, k8, hw2]
    exact o5
end READY
