set_option maxHeartbeats 4000000 in
theorem fr_Gr_setSlot (a1 : Int32) (a2 : Int32) (a3 : Int32) (a4 : Int32) (m0 : Mem) (v : Unit) (m' : Mem) (hF : F_Gr_setSlot a1 a2 a3 a4 m0 = some (v, m')) : Fr [6, 7] [] m0 m' := by
  unfold F_Gr_setSlot at hF
  have hf : Fr [6, 7] [] m0 m0 := Fr_rf
  obtain ⟨xq1, exq1, hF⟩ := lt_ex hF
  rcases if_ex hF with hF | hF
  · cases hF
    exact hf
  · rcases if_ex hF with hF | hF
    · cases hF
      exact hf
    · obtain ⟨-, hF⟩ := ckB_ex hF
      obtain ⟨mq2, emq2, hF⟩ := lt_ex hF
      have hf := Fr_sI emq2 hf (Or.inl (by decide))
      obtain ⟨-, hF⟩ := ckB_ex hF
      obtain ⟨mq4, emq4, hF⟩ := lt_ex hF
      have hf := Fr_sI emq4 hf (Or.inl (by decide))
      cases hF
      exact hf
set_option maxHeartbeats 4000000 in
theorem fr_Bk_add (a1 : Int32) (a2 : Int32) (a3 : Int32) (m0 : Mem) (v : Unit) (m' : Mem) (hF : F_Bk_add a1 a2 a3 m0 = some (v, m')) : Fr [13] [(12, 0)] m0 m' := by
  unfold F_Bk_add at hF
  have hf : Fr [13] [(12, 0)] m0 m0 := Fr_rf
  rcases if_ex hF with hF | hF
  · cases hF
    exact hf
  · rcases if_ex hF with hF | hF
    · cases hF
      exact hf
    · obtain ⟨-, hF⟩ := ckB_ex hF
      obtain ⟨mq1, emq1, hF⟩ := lt_ex hF
      have hf := Fr_sI emq1 hf (Or.inl (by decide))
      obtain ⟨-, hF⟩ := ckB_ex hF
      obtain ⟨mq3, emq3, hF⟩ := lt_ex hF
      have hf := Fr_sI emq3 hf (Or.inl (by decide))
      obtain ⟨-, hF⟩ := ckB_ex hF
      obtain ⟨mq5, emq5, hF⟩ := lt_ex hF
      have hf := Fr_sI emq5 hf (Or.inl (by decide))
      obtain ⟨mq7, emq7, hF⟩ := lt_ex hF
      have hf := Fr_sI emq7 hf (Or.inr (by decide))
      cases hF
      exact hf
set_option maxHeartbeats 4000000 in
theorem fr_GT_tellLine (a2 : Int32) (m0 : Mem) (v : Unit) (m' : Mem) (hF : F_GT_tellLine a2 m0 = some (v, m')) : Fr [4, 5, 6, 7, 13] [(3, 0), (3, 1), (3, 2), (3, 3), (3, 4), (3, 5), (12, 0)] m0 m' := by
  unfold F_GT_tellLine at hF
  have hf : Fr [4, 5, 6, 7, 13] [(3, 0), (3, 1), (3, 2), (3, 3), (3, 4), (3, 5), (12, 0)] m0 m0 := Fr_rf
  rcases if_ex hF with hF | hF
  · cases hF
    exact hf
  · rcases if_ex hF with hF | hF
    · obtain ⟨-, hF⟩ := ckB_ex hF
      obtain ⟨xq2, exq2, hF⟩ := lt_ex hF
      obtain ⟨-, hF⟩ := ckB_ex hF
      obtain ⟨xq4, exq4, hF⟩ := lt_ex hF
      obtain ⟨-, hF⟩ := ckB_ex hF
      obtain ⟨xq6, exq6, hF⟩ := lt_ex hF
      obtain ⟨-, hF⟩ := ckB_ex hF
      obtain ⟨xq8, exq8, hF⟩ := lt_ex hF
      rcases if_ex hF with hF | hF
      · obtain ⟨mq9, emq9, hF⟩ := lt_ex hF
        have hf := Fr_sI emq9 hf (Or.inr (by decide))
        cases hF
        exact hf
      · rcases if_ex hF with hF | hF
        · obtain ⟨u_, mq10, hz, hF⟩ := bnd_ex hF
          have hf := Fr_tr hf (fr_Gr_setSide xq2 xq4 xq6 m0 _ _ hz) (by decide) (by decide)
          cases hF
          exact hf
        · rcases if_ex hF with hF | hF
          · obtain ⟨-, hF⟩ := ckB_ex hF
            obtain ⟨xq14, exq14, hF⟩ := lt_ex hF
            obtain ⟨u_, mq15, hz, hF⟩ := bnd_ex hF
            have hf := Fr_tr hf (fr_Gr_setSlot xq2 xq4 xq6 xq14 m0 _ _ hz) (by decide) (by decide)
            cases hF
            exact hf
          · rcases if_ex hF with hF | hF
            · obtain ⟨mq18, emq18, hF⟩ := lt_ex hF
              have hf := Fr_sI emq18 hf (Or.inr (by decide))
              cases hF
              exact hf
            · rcases if_ex hF with hF | hF
              · obtain ⟨mq19, emq19, hF⟩ := lt_ex hF
                have hf := Fr_sI emq19 hf (Or.inr (by decide))
                cases hF
                exact hf
              · rcases if_ex hF with hF | hF
                · obtain ⟨mq20, emq20, hF⟩ := lt_ex hF
                  have hf := Fr_sI emq20 hf (Or.inr (by decide))
                  cases hF
                  exact hf
                · rcases if_ex hF with hF | hF
                  · obtain ⟨mq21, emq21, hF⟩ := lt_ex hF
                    have hf := Fr_sI emq21 hf (Or.inr (by decide))
                    cases hF
                    exact hf
                  · rcases if_ex hF with hF | hF
                    · obtain ⟨mq22, emq22, hF⟩ := lt_ex hF
                      have hf := Fr_sI emq22 hf (Or.inr (by decide))
                      cases hF
                      exact hf
                    · obtain ⟨u_, mq23, hz, hF⟩ := bnd_ex hF
                      have hf := Fr_tr hf (fr_Bk_add xq2 xq4 xq6 m0 _ _ hz) (by decide) (by decide)
                      cases hF
                      exact hf
    · cases hF
      exact hf
set_option maxHeartbeats 4000000 in
theorem fr_GT_tell_L2  (mB : Mem) (v : Unit) (m' : Mem) : ∀ (nf : Nat) (xq2 : Int32) (mq1 : Mem), Fr [4, 5, 6, 7, 13] [(3, 0), (3, 1), (3, 2), (3, 3), (3, 4), (3, 5), (12, 0)] mB mq1 → F_GT_tell_L2  nf xq2 mq1 = some (v, m') → Fr [4, 5, 6, 7, 13] [(3, 0), (3, 1), (3, 2), (3, 3), (3, 4), (3, 5), (12, 0)] mB m' := by
  intro nf
  induction nf with
  | zero =>
    intro xq2 mq1 hf hF
    rw [F_GT_tell_L2] at hF
    cases hF
  | succ nfq3 ih =>
    intro xq2 mq1 hf hF
    rw [F_GT_tell_L2] at hF
    rcases if_ex hF with hF | hF
    · cases hF
      exact hf
    · rcases if_ex hF with hF | hF
      · cases hF
        exact hf
      · obtain ⟨u_, mq5, hz, hF⟩ := bnd_ex hF
        have hf := Fr_tr hf (fr_GT_tellLine (xq2 * (5 : Int32)) mq1 _ _ hz) (by decide) (by decide)
        obtain ⟨xq8, exq8, hF⟩ := lt_ex hF
        exact ih xq8 mq5 hf hF
set_option maxHeartbeats 4000000 in
theorem fr_GT_tell (m0 : Mem) (v : Unit) (m' : Mem) (hF : F_GT_tell m0 = some (v, m')) : Fr [4, 5, 6, 7, 13] [(3, 0), (3, 1), (3, 2), (3, 3), (3, 4), (3, 5), (12, 0)] m0 m' := by
  unfold F_GT_tell at hF
  have hf : Fr [4, 5, 6, 7, 13] [(3, 0), (3, 1), (3, 2), (3, 3), (3, 4), (3, 5), (12, 0)] m0 m0 := Fr_rf
  exact fr_GT_tell_L2  m0 _ _  1000000 (0 : Int32) m0 hf hF
set_option maxHeartbeats 4000000 in
theorem fr_T_ground (m0 : Mem) (v : (Nat ⊕ Int32)) (m' : Mem) (hF : F_T_ground m0 = some (v, m')) : Fr [4, 5, 6, 7, 13, 14, 47, 48, 49, 50, 51] [(0, 1), (0, 2), (2, 3), (2, 7), (2, 8), (3, 0), (3, 1), (3, 2), (3, 3), (3, 4), (3, 5), (3, 6), (12, 0), (20, 0), (46, 4), (46, 5), (46, 6), (46, 8), (46, 9), (46, 10)] m0 m' := by
  unfold F_T_ground at hF
  have hf : Fr [4, 5, 6, 7, 13, 14, 47, 48, 49, 50, 51] [(0, 1), (0, 2), (2, 3), (2, 7), (2, 8), (3, 0), (3, 1), (3, 2), (3, 3), (3, 4), (3, 5), (3, 6), (12, 0), (20, 0), (46, 4), (46, 5), (46, 6), (46, 8), (46, 9), (46, 10)] m0 m0 := Fr_rf
  obtain ⟨xq3, mq1, hz, hF⟩ := bnd_ex hF
  have hf := Fr_tr hf (fr_T_useTape m0 _ _ hz) (by decide) (by decide)
  obtain ⟨k29_5, ek29_5, hF⟩ := lt_ex hF
  have Jk29_5 : ∀ (zq5 : Bool) (mq4 : Mem), Fr [4, 5, 6, 7, 13, 14, 47, 48, 49, 50, 51] [(0, 1), (0, 2), (2, 3), (2, 7), (2, 8), (3, 0), (3, 1), (3, 2), (3, 3), (3, 4), (3, 5), (3, 6), (12, 0), (20, 0), (46, 4), (46, 5), (46, 6), (46, 8), (46, 9), (46, 10)] m0 mq4 → k29_5 zq5 mq4 = some (v, m') → Fr [4, 5, 6, 7, 13, 14, 47, 48, 49, 50, 51] [(0, 1), (0, 2), (2, 3), (2, 7), (2, 8), (3, 0), (3, 1), (3, 2), (3, 3), (3, 4), (3, 5), (3, 6), (12, 0), (20, 0), (46, 4), (46, 5), (46, 6), (46, 8), (46, 9), (46, 10)] m0 m' := by
    intro zq5 mq4 hf hF
    rw [ek29_5] at hF
    obtain ⟨xq8, mq6, hz, hF⟩ := bnd_ex hF
    have hf := Fr_tr hf (fr_GT_readGround xq3 zq5 (gI mq4 12 0) mq4 _ _ hz) (by decide) (by decide)
    obtain ⟨mq9, emq9, hF⟩ := lt_ex hF
    have hf := Fr_sI emq9 hf (Or.inr (by decide))
    rcases if_ex hF with hF | hF
    · rcases if_ex hF with hF | hF
      · obtain ⟨u_, mq10, hz, hF⟩ := bnd_ex hF
        have hf := Fr_tr hf (fr_GT_tell mq9 _ _ hz) (by decide) (by decide)
        obtain ⟨mq13, emq13, hF⟩ := lt_ex hF
        have hf := Fr_sI emq13 hf (Or.inr (by decide))
        obtain ⟨u_, mq14, hz, hF⟩ := bnd_ex hF
        have hf := Fr_tr hf (fr_T_startAfresh mq13 _ _ hz) (by decide) (by decide)
        cases hF
        exact hf
      · cases hF
        exact hf
    · cases hF
      exact hf
  rcases if_ex hF with hF | hF
  · exact Jk29_5 true mq1 hf hF
  · exact Jk29_5 false mq1 hf hF
set_option maxHeartbeats 4000000 in
theorem fr_T_habit (a1 : Bool) (m0 : Mem) (v : Bool) (m' : Mem) (hF : F_T_habit a1 m0 = some (v, m')) : Fr [] [] m0 m' := by
  unfold F_T_habit at hF
  have hf : Fr [] [] m0 m0 := Fr_rf
  obtain ⟨xq3, mq1, hz, hF⟩ := bnd_ex hF
  have hf := Fr_tr hf (fr_Bk_tally (0 : Int32) m0 _ _ hz) (by decide) (by decide)
  rcases if_ex hF with hF | hF
  · obtain ⟨xq9, mq7, hz, hF⟩ := bnd_ex hF
    have hf := Fr_tr hf (fr_Bk_tally (3 : Int32) mq1 _ _ hz) (by decide) (by decide)
    obtain ⟨xq12, mq10, hz, hF⟩ := bnd_ex hF
    have hf := Fr_tr hf (fr_Bk_tally (5 : Int32) mq7 _ _ hz) (by decide) (by decide)
    rcases if_ex hF with hF | hF
    · cases hF
      exact hf
    · cases hF
      exact hf
  · rcases if_ex hF with hF | hF
    · cases hF
      exact hf
    · obtain ⟨xq6, mq4, hz, hF⟩ := bnd_ex hF
      have hf := Fr_tr hf (fr_Bk_tally (1 : Int32) mq1 _ _ hz) (by decide) (by decide)
      rcases if_ex hF with hF | hF
      · cases hF
        exact hf
      · cases hF
        exact hf
set_option maxHeartbeats 4000000 in
theorem fr_T_hardest_L20 (a1 : Int32) (a2 : Int32) (mB : Mem) (v : (Nat ⊕ Int32)) (m' : Mem) : ∀ (nf : Nat) (xq8 : Int32) (xq9 : Int32) (xq10 : Int32) (mq7 : Mem), Fr [10, 11, 14] [] mB mq7 → F_T_hardest_L20 a1 a2 nf xq8 xq9 xq10 mq7 = some (v, m') → Fr [10, 11, 14] [] mB m' := by
  intro nf
  induction nf with
  | zero =>
    intro xq8 xq9 xq10 mq7 hf hF
    rw [F_T_hardest_L20] at hF
    cases hF
  | succ nfq11 ih =>
    intro xq8 xq9 xq10 mq7 hf hF
    rw [F_T_hardest_L20] at hF
    rcases if_ex hF with hF | hF
    · cases hF
      exact hf
    · obtain ⟨xq15, mq13, hz, hF⟩ := bnd_ex hF
      have hf := Fr_tr hf (fr_Gr_levelOf xq10 a1 a2 mq7 _ _ hz) (by decide) (by decide)
      obtain ⟨k59_18, ek59_18, hF⟩ := lt_ex hF
      have Jk59_18 : ∀ (xq17 : Int32) (xq18 : Int32) (mq16 : Mem), Fr [10, 11, 14] [] mB mq16 → k59_18 xq17 xq18 mq16 = some (v, m') → Fr [10, 11, 14] [] mB m' := by
        intro xq17 xq18 mq16 hf hF
        rw [ek59_18] at hF
        obtain ⟨xq19, exq19, hF⟩ := lt_ex hF
        exact ih xq17 xq18 xq19 mq16 hf hF
      rcases if_ex hF with hF | hF
      · exact Jk59_18 xq8 xq9 mq13 hf hF
      · exact Jk59_18 xq10 xq15 mq13 hf hF
set_option maxHeartbeats 4000000 in
theorem fr_T_hardest (a1 : Int32) (a2 : Int32) (m0 : Mem) (v : (Nat ⊕ Int32)) (m' : Mem) (hF : F_T_hardest a1 a2 m0 = some (v, m')) : Fr [10, 11, 14] [] m0 m' := by
  unfold F_T_hardest at hF
  have hf : Fr [10, 11, 14] [] m0 m0 := Fr_rf
  rcases bndX_ex hF with ⟨ke, mq1, hz, hF⟩ | ⟨u_, mq1, hz, hF⟩
  · cases hF
    exact Fr_tr hf (fr_T_mustBeBelow a1 (4 : Int32) m0 _ _ hz) (by decide) (by decide)
  · have hf := Fr_tr hf (fr_T_mustBeBelow a1 (4 : Int32) m0 _ _ hz) (by decide) (by decide)
    rcases bndX_ex hF with ⟨ke, mq4, hz, hF⟩ | ⟨u_, mq4, hz, hF⟩
    · cases hF
      exact Fr_tr hf (fr_T_mustBeBelow a2 (2 : Int32) mq1 _ _ hz) (by decide) (by decide)
    · have hf := Fr_tr hf (fr_T_mustBeBelow a2 (2 : Int32) mq1 _ _ hz) (by decide) (by decide)
      exact fr_T_hardest_L20 a1 a2 m0 _ _  1000000 (0 : Int32) (-1 : Int32) (0 : Int32) mq4 hf hF
set_option maxHeartbeats 4000000 in
theorem fr_T_here (a1 : Int32) (m0 : Mem) (v : (Nat ⊕ Int64)) (m' : Mem) (hF : F_T_here a1 m0 = some (v, m')) : Fr [10, 11, 14, 15] [(2, 2), (2, 3), (2, 4), (2, 5), (2, 6)] m0 m' := by
  unfold F_T_here at hF
  have hf : Fr [10, 11, 14, 15] [(2, 2), (2, 3), (2, 4), (2, 5), (2, 6)] m0 m0 := Fr_rf
  rcases bndX_ex hF with ⟨ke, mq1, hz, hF⟩ | ⟨yq3, mq1, hz, hF⟩
  · cases hF
    exact Fr_tr hf (fr_T_oddsFromHere a1 false m0 _ _ hz) (by decide) (by decide)
  · have hf := Fr_tr hf (fr_T_oddsFromHere a1 false m0 _ _ hz) (by decide) (by decide)
    cases hF
    exact hf
set_option maxHeartbeats 4000000 in
theorem fr_T_mustBeChase (m0 : Mem) (v : (Nat ⊕ Unit)) (m' : Mem) (hF : F_T_mustBeChase m0 = some (v, m')) : Fr [] [] m0 m' := by
  unfold F_T_mustBeChase at hF
  have hf : Fr [] [] m0 m0 := Fr_rf
  obtain ⟨zq3, mq1, hz, hF⟩ := bnd_ex hF
  have hf := Fr_tr hf (fr_Ma_isOn m0 _ _ hz) (by decide) (by decide)
  obtain ⟨k21_4, ek21_4, hF⟩ := lt_ex hF
  have Jk21_4 : ∀ (mq4 : Mem), Fr [] [] m0 mq4 → k21_4 mq4 = some (v, m') → Fr [] [] m0 m' := by
    intro mq4 hf hF
    rw [ek21_4] at hF
    cases hF
    exact hf
  rcases if_ex hF with hF | hF
  · rcases if_ex hF with hF | hF
    · cases hF
      exact hf
    · exact Jk21_4 mq1 hf hF
  · exact Jk21_4 mq1 hf hF
set_option maxHeartbeats 4000000 in
theorem fr_T_holds (a1 : Int32) (a2 : Bool) (a3 : Int32) (a4 : Int32) (m0 : Mem) (v : (Nat ⊕ Bool)) (m' : Mem) (hF : F_T_holds a1 a2 a3 a4 m0 = some (v, m')) : Fr [10, 11, 14, 15] [(2, 2), (2, 3), (2, 4), (2, 5), (2, 6)] m0 m' := by
  unfold F_T_holds at hF
  have hf : Fr [10, 11, 14, 15] [(2, 2), (2, 3), (2, 4), (2, 5), (2, 6)] m0 m0 := Fr_rf
  rcases bndX_ex hF with ⟨ke, mq1, hz, hF⟩ | ⟨u_, mq1, hz, hF⟩
  · cases hF
    exact Fr_tr hf (fr_T_mustBeState a1 (3 : Int32) a3 a4 m0 _ _ hz) (by decide) (by decide)
  · have hf := Fr_tr hf (fr_T_mustBeState a1 (3 : Int32) a3 a4 m0 _ _ hz) (by decide) (by decide)
    obtain ⟨u_, mq4, hz, hF⟩ := bnd_ex hF
    have hf := Fr_tr hf (fr_Od_ready (0 : Int32) (gI mq1 3 5) false mq1 _ _ hz) (by decide) (by decide)
    obtain ⟨xq9, mq7, hz, hF⟩ := bnd_ex hF
    have hf := Fr_tr hf (fr_Od_kindOf (3 : Int32) a2 mq4 _ _ hz) (by decide) (by decide)
    obtain ⟨zq12, mq10, hz, hF⟩ := bnd_ex hF
    have hf := Fr_tr hf (fr_Od_choosesTold a1 xq9 a3 a4 mq7 _ _ hz) (by decide) (by decide)
    cases hF
    exact hf
set_option maxHeartbeats 4000000 in
theorem fr_Lw_copyFrom_2_L18  (mB : Mem) (v : Unit) (m' : Mem) : ∀ (nf : Nat) (xq4 : Int32) (mq3 : Mem), Fr [70] [(69, 0), (69, 1)] mB mq3 → F_Lw_copyFrom_2_L18  nf xq4 mq3 = some (v, m') → Fr [70] [(69, 0), (69, 1)] mB m' := by
  intro nf
  induction nf with
  | zero =>
    intro xq4 mq3 hf hF
    rw [F_Lw_copyFrom_2_L18] at hF
    cases hF
  | succ nfq5 ih =>
    intro xq4 mq3 hf hF
    rw [F_Lw_copyFrom_2_L18] at hF
    rcases if_ex hF with hF | hF
    · cases hF
      exact hf
    · obtain ⟨-, hF⟩ := ckB_ex hF
      obtain ⟨xq8, exq8, hF⟩ := lt_ex hF
      obtain ⟨-, hF⟩ := ckB_ex hF
      obtain ⟨mq9, emq9, hF⟩ := lt_ex hF
      have hf := Fr_sI emq9 hf (Or.inl (by decide))
      obtain ⟨xq11, exq11, hF⟩ := lt_ex hF
      exact ih xq11 mq9 hf hF
set_option maxHeartbeats 4000000 in
theorem fr_Lw_copyFrom_2 (m0 : Mem) (v : Unit) (m' : Mem) (hF : F_Lw_copyFrom_2 m0 = some (v, m')) : Fr [70] [(69, 0), (69, 1)] m0 m' := by
  unfold F_Lw_copyFrom_2 at hF
  have hf : Fr [70] [(69, 0), (69, 1)] m0 m0 := Fr_rf
  obtain ⟨mq1, emq1, hF⟩ := lt_ex hF
  have hf := Fr_sI emq1 hf (Or.inr (by decide))
  obtain ⟨mq2, emq2, hF⟩ := lt_ex hF
  have hf := Fr_sI emq2 hf (Or.inr (by decide))
  exact fr_Lw_copyFrom_2_L18  m0 _ _  1000000 (0 : Int32) mq2 hf hF
set_option maxHeartbeats 4000000 in
theorem fr_Bk_copyFrom_2_L10  (mB : Mem) (v : Unit) (m' : Mem) : ∀ (nf : Nat) (xq3 : Int32) (mq2 : Mem), Fr [74] [(73, 0)] mB mq2 → F_Bk_copyFrom_2_L10  nf xq3 mq2 = some (v, m') → Fr [74] [(73, 0)] mB m' := by
  intro nf
  induction nf with
  | zero =>
    intro xq3 mq2 hf hF
    rw [F_Bk_copyFrom_2_L10] at hF
    cases hF
  | succ nfq4 ih =>
    intro xq3 mq2 hf hF
    rw [F_Bk_copyFrom_2_L10] at hF
    rcases if_ex hF with hF | hF
    · cases hF
      exact hf
    · obtain ⟨-, hF⟩ := ckB_ex hF
      obtain ⟨xq7, exq7, hF⟩ := lt_ex hF
      obtain ⟨-, hF⟩ := ckB_ex hF
      obtain ⟨mq8, emq8, hF⟩ := lt_ex hF
      have hf := Fr_sI emq8 hf (Or.inl (by decide))
      obtain ⟨xq10, exq10, hF⟩ := lt_ex hF
      exact ih xq10 mq8 hf hF
set_option maxHeartbeats 4000000 in
theorem fr_Bk_copyFrom_2 (m0 : Mem) (v : Unit) (m' : Mem) (hF : F_Bk_copyFrom_2 m0 = some (v, m')) : Fr [74] [(73, 0)] m0 m' := by
  unfold F_Bk_copyFrom_2 at hF
  have hf : Fr [74] [(73, 0)] m0 m0 := Fr_rf
  obtain ⟨mq1, emq1, hF⟩ := lt_ex hF
  have hf := Fr_sI emq1 hf (Or.inr (by decide))
  exact fr_Bk_copyFrom_2_L10  m0 _ _  1000000 (0 : Int32) mq1 hf hF
set_option maxHeartbeats 4000000 in
theorem fr_Gr_copyFrom_2_L95 (k131_9 : Mem → Option (Unit × Mem)) (mB : Mem) (v : Unit) (m' : Mem) (Jk131_9 : ∀ (b0 : Mem), Fr [65, 66, 67, 68, 70, 74] [(64, 0), (64, 1), (64, 2), (64, 3), (64, 4), (64, 5), (64, 6), (69, 0), (69, 1), (73, 0)] mB b0 → k131_9 b0 = some (v, m') → Fr [65, 66, 67, 68, 70, 74] [(64, 0), (64, 1), (64, 2), (64, 3), (64, 4), (64, 5), (64, 6), (69, 0), (69, 1), (73, 0)] mB m') : ∀ (nf : Nat) (xq17 : Int32) (mq16 : Mem), Fr [65, 66, 67, 68, 70, 74] [(64, 0), (64, 1), (64, 2), (64, 3), (64, 4), (64, 5), (64, 6), (69, 0), (69, 1), (73, 0)] mB mq16 → F_Gr_copyFrom_2_L95 k131_9 nf xq17 mq16 = some (v, m') → Fr [65, 66, 67, 68, 70, 74] [(64, 0), (64, 1), (64, 2), (64, 3), (64, 4), (64, 5), (64, 6), (69, 0), (69, 1), (73, 0)] mB m' := by
  intro nf
  induction nf with
  | zero =>
    intro xq17 mq16 hf hF
    rw [F_Gr_copyFrom_2_L95] at hF
    cases hF
  | succ nfq18 ih =>
    intro xq17 mq16 hf hF
    rw [F_Gr_copyFrom_2_L95] at hF
    rcases if_ex hF with hF | hF
    · exact Jk131_9 mq16 hf hF
    · obtain ⟨-, hF⟩ := ckB_ex hF
      obtain ⟨xq21, exq21, hF⟩ := lt_ex hF
      obtain ⟨-, hF⟩ := ckB_ex hF
      obtain ⟨mq22, emq22, hF⟩ := lt_ex hF
      have hf := Fr_sI emq22 hf (Or.inl (by decide))
      obtain ⟨-, hF⟩ := ckB_ex hF
      obtain ⟨xq25, exq25, hF⟩ := lt_ex hF
      obtain ⟨-, hF⟩ := ckB_ex hF
      obtain ⟨mq26, emq26, hF⟩ := lt_ex hF
      have hf := Fr_sI emq26 hf (Or.inl (by decide))
      obtain ⟨xq28, exq28, hF⟩ := lt_ex hF
      exact ih xq28 mq26 hf hF
set_option maxHeartbeats 4000000 in
theorem fr_Gr_copyFrom_2_L58 (k93_8 : Mem → Option (Unit × Mem)) (mB : Mem) (v : Unit) (m' : Mem) (Jk93_8 : ∀ (b0 : Mem), Fr [65, 66, 67, 68, 70, 74] [(64, 0), (64, 1), (64, 2), (64, 3), (64, 4), (64, 5), (64, 6), (69, 0), (69, 1), (73, 0)] mB b0 → k93_8 b0 = some (v, m') → Fr [65, 66, 67, 68, 70, 74] [(64, 0), (64, 1), (64, 2), (64, 3), (64, 4), (64, 5), (64, 6), (69, 0), (69, 1), (73, 0)] mB m') : ∀ (nf : Nat) (xq30 : Int32) (mq29 : Mem), Fr [65, 66, 67, 68, 70, 74] [(64, 0), (64, 1), (64, 2), (64, 3), (64, 4), (64, 5), (64, 6), (69, 0), (69, 1), (73, 0)] mB mq29 → F_Gr_copyFrom_2_L58 k93_8 nf xq30 mq29 = some (v, m') → Fr [65, 66, 67, 68, 70, 74] [(64, 0), (64, 1), (64, 2), (64, 3), (64, 4), (64, 5), (64, 6), (69, 0), (69, 1), (73, 0)] mB m' := by
  intro nf
  induction nf with
  | zero =>
    intro xq30 mq29 hf hF
    rw [F_Gr_copyFrom_2_L58] at hF
    cases hF
  | succ nfq31 ih =>
    intro xq30 mq29 hf hF
    rw [F_Gr_copyFrom_2_L58] at hF
    rcases if_ex hF with hF | hF
    · exact Jk93_8 mq29 hf hF
    · obtain ⟨-, hF⟩ := ckB_ex hF
      obtain ⟨xq34, exq34, hF⟩ := lt_ex hF
      obtain ⟨-, hF⟩ := ckB_ex hF
      obtain ⟨mq35, emq35, hF⟩ := lt_ex hF
      have hf := Fr_sI emq35 hf (Or.inl (by decide))
      obtain ⟨-, hF⟩ := ckB_ex hF
      obtain ⟨xq38, exq38, hF⟩ := lt_ex hF
      obtain ⟨-, hF⟩ := ckB_ex hF
      obtain ⟨mq39, emq39, hF⟩ := lt_ex hF
      have hf := Fr_sI emq39 hf (Or.inl (by decide))
      obtain ⟨xq41, exq41, hF⟩ := lt_ex hF
      exact ih xq41 mq39 hf hF
set_option maxHeartbeats 4000000 in
theorem fr_Gr_copyFrom_2 (m0 : Mem) (v : Unit) (m' : Mem) (hF : F_Gr_copyFrom_2 m0 = some (v, m')) : Fr [65, 66, 67, 68, 70, 74] [(64, 0), (64, 1), (64, 2), (64, 3), (64, 4), (64, 5), (64, 6), (69, 0), (69, 1), (73, 0)] m0 m' := by
  unfold F_Gr_copyFrom_2 at hF
  have hf : Fr [65, 66, 67, 68, 70, 74] [(64, 0), (64, 1), (64, 2), (64, 3), (64, 4), (64, 5), (64, 6), (69, 0), (69, 1), (73, 0)] m0 m0 := Fr_rf
  obtain ⟨mq1, emq1, hF⟩ := lt_ex hF
  have hf := Fr_sI emq1 hf (Or.inr (by decide))
  obtain ⟨mq2, emq2, hF⟩ := lt_ex hF
  have hf := Fr_sI emq2 hf (Or.inr (by decide))
  obtain ⟨mq3, emq3, hF⟩ := lt_ex hF
  have hf := Fr_sI emq3 hf (Or.inr (by decide))
  obtain ⟨mq4, emq4, hF⟩ := lt_ex hF
  have hf := Fr_sI emq4 hf (Or.inr (by decide))
  obtain ⟨mq5, emq5, hF⟩ := lt_ex hF
  have hf := Fr_sI emq5 hf (Or.inr (by decide))
  obtain ⟨mq6, emq6, hF⟩ := lt_ex hF
  have hf := Fr_sI emq6 hf (Or.inr (by decide))
  obtain ⟨mq7, emq7, hF⟩ := lt_ex hF
  have hf := Fr_sI emq7 hf (Or.inr (by decide))
  obtain ⟨k93_8, ek93_8, hF⟩ := lt_ex hF
  have Jk93_8 : ∀ (mq8 : Mem), Fr [65, 66, 67, 68, 70, 74] [(64, 0), (64, 1), (64, 2), (64, 3), (64, 4), (64, 5), (64, 6), (69, 0), (69, 1), (73, 0)] m0 mq8 → k93_8 mq8 = some (v, m') → Fr [65, 66, 67, 68, 70, 74] [(64, 0), (64, 1), (64, 2), (64, 3), (64, 4), (64, 5), (64, 6), (69, 0), (69, 1), (73, 0)] m0 m' := by
    intro mq8 hf hF
    rw [ek93_8] at hF
    obtain ⟨k131_9, ek131_9, hF⟩ := lt_ex hF
    have Jk131_9 : ∀ (mq9 : Mem), Fr [65, 66, 67, 68, 70, 74] [(64, 0), (64, 1), (64, 2), (64, 3), (64, 4), (64, 5), (64, 6), (69, 0), (69, 1), (73, 0)] m0 mq9 → k131_9 mq9 = some (v, m') → Fr [65, 66, 67, 68, 70, 74] [(64, 0), (64, 1), (64, 2), (64, 3), (64, 4), (64, 5), (64, 6), (69, 0), (69, 1), (73, 0)] m0 m' := by
      intro mq9 hf hF
      rw [ek131_9] at hF
      obtain ⟨u_, mq10, hz, hF⟩ := bnd_ex hF
      have hf := Fr_tr hf (fr_Lw_copyFrom_2 mq9 _ _ hz) (by decide) (by decide)
      obtain ⟨u_, mq13, hz, hF⟩ := bnd_ex hF
      have hf := Fr_tr hf (fr_Bk_copyFrom_2 mq10 _ _ hz) (by decide) (by decide)
      cases hF
      exact hf
    exact fr_Gr_copyFrom_2_L95 k131_9 m0 _ _ Jk131_9 1000000 (0 : Int32) mq8 hf hF
  exact fr_Gr_copyFrom_2_L58 k93_8 m0 _ _ Jk93_8 1000000 (0 : Int32) mq7 hf hF
set_option maxHeartbeats 4000000 in
theorem fr_Ma_copyFrom_3_L82  (mB : Mem) (v : Unit) (m' : Mem) : ∀ (nf : Nat) (xq12 : Int32) (mq11 : Mem), Fr [77] [(76, 0), (76, 1), (76, 2), (76, 3), (76, 4), (76, 5), (76, 6), (76, 7), (76, 8), (76, 9)] mB mq11 → F_Ma_copyFrom_3_L82  nf xq12 mq11 = some (v, m') → Fr [77] [(76, 0), (76, 1), (76, 2), (76, 3), (76, 4), (76, 5), (76, 6), (76, 7), (76, 8), (76, 9)] mB m' := by
  intro nf
  induction nf with
  | zero =>
    intro xq12 mq11 hf hF
    rw [F_Ma_copyFrom_3_L82] at hF
    cases hF
  | succ nfq13 ih =>
    intro xq12 mq11 hf hF
    rw [F_Ma_copyFrom_3_L82] at hF
    rcases if_ex hF with hF | hF
    · cases hF
      exact hf
    · obtain ⟨-, hF⟩ := ckB_ex hF
      obtain ⟨xq16, exq16, hF⟩ := lt_ex hF
      obtain ⟨-, hF⟩ := ckB_ex hF
      obtain ⟨mq17, emq17, hF⟩ := lt_ex hF
      have hf := Fr_sI emq17 hf (Or.inl (by decide))
      obtain ⟨xq19, exq19, hF⟩ := lt_ex hF
      exact ih xq19 mq17 hf hF
set_option maxHeartbeats 4000000 in
theorem fr_Ma_copyFrom_3 (m0 : Mem) (v : Unit) (m' : Mem) (hF : F_Ma_copyFrom_3 m0 = some (v, m')) : Fr [77] [(76, 0), (76, 1), (76, 2), (76, 3), (76, 4), (76, 5), (76, 6), (76, 7), (76, 8), (76, 9)] m0 m' := by
  unfold F_Ma_copyFrom_3 at hF
  have hf : Fr [77] [(76, 0), (76, 1), (76, 2), (76, 3), (76, 4), (76, 5), (76, 6), (76, 7), (76, 8), (76, 9)] m0 m0 := Fr_rf
  obtain ⟨mq1, emq1, hF⟩ := lt_ex hF
  have hf := Fr_sI emq1 hf (Or.inr (by decide))
  obtain ⟨mq2, emq2, hF⟩ := lt_ex hF
  have hf := Fr_sI emq2 hf (Or.inr (by decide))
  obtain ⟨mq3, emq3, hF⟩ := lt_ex hF
  have hf := Fr_sI emq3 hf (Or.inr (by decide))
  obtain ⟨mq4, emq4, hF⟩ := lt_ex hF
  have hf := Fr_sI emq4 hf (Or.inr (by decide))
  obtain ⟨mq5, emq5, hF⟩ := lt_ex hF
  have hf := Fr_sI emq5 hf (Or.inr (by decide))
  obtain ⟨mq6, emq6, hF⟩ := lt_ex hF
  have hf := Fr_sZ emq6 hf (Or.inr (by decide))
  obtain ⟨mq7, emq7, hF⟩ := lt_ex hF
  have hf := Fr_sZ emq7 hf (Or.inr (by decide))
  obtain ⟨mq8, emq8, hF⟩ := lt_ex hF
  have hf := Fr_sI emq8 hf (Or.inr (by decide))
  obtain ⟨mq9, emq9, hF⟩ := lt_ex hF
  have hf := Fr_sI emq9 hf (Or.inr (by decide))
  obtain ⟨mq10, emq10, hF⟩ := lt_ex hF
  have hf := Fr_sI emq10 hf (Or.inr (by decide))
  exact fr_Ma_copyFrom_3_L82  m0 _ _  1000000 (0 : Int32) mq10 hf hF
set_option maxHeartbeats 4000000 in
theorem fr_T_image (m0 : Mem) (v : Unit) (m' : Mem) (hF : F_T_image m0 = some (v, m')) : Fr [65, 66, 67, 68, 70, 74, 77] [(0, 13), (64, 0), (64, 1), (64, 2), (64, 3), (64, 4), (64, 5), (64, 6), (69, 0), (69, 1), (73, 0), (76, 0), (76, 1), (76, 2), (76, 3), (76, 4), (76, 5), (76, 6), (76, 7), (76, 8), (76, 9)] m0 m' := by
  unfold F_T_image at hF
  have hf : Fr [65, 66, 67, 68, 70, 74, 77] [(0, 13), (64, 0), (64, 1), (64, 2), (64, 3), (64, 4), (64, 5), (64, 6), (69, 0), (69, 1), (73, 0), (76, 0), (76, 1), (76, 2), (76, 3), (76, 4), (76, 5), (76, 6), (76, 7), (76, 8), (76, 9)] m0 m0 := Fr_rf
  obtain ⟨u_, mq1, hz, hF⟩ := bnd_ex hF
  have hf := Fr_tr hf (fr_Gr_copyFrom_2 m0 _ _ hz) (by decide) (by decide)
  obtain ⟨u_, mq4, hz, hF⟩ := bnd_ex hF
  have hf := Fr_tr hf (fr_Ma_copyFrom_3 mq1 _ _ hz) (by decide) (by decide)
  obtain ⟨mq7, emq7, hF⟩ := lt_ex hF
  have hf := Fr_sZ emq7 hf (Or.inr (by decide))
  cases hF
  exact hf
set_option maxHeartbeats 4000000 in
theorem fr_Tx_addThingL (a1 : Int32) (a2 : Int32) (a3 : Int32) (m0 : Mem) (v : Unit) (m' : Mem) (hF : F_Tx_addThingL a1 a2 a3 m0 = some (v, m')) : Fr [54, 55, 56] [(52, 4)] m0 m' := by
  unfold F_Tx_addThingL at hF
  have hf : Fr [54, 55, 56] [(52, 4)] m0 m0 := Fr_rf
  rcases if_ex hF with hF | hF
  · cases hF
    exact hf
  · rcases if_ex hF with hF | hF
    · cases hF
      exact hf
    · obtain ⟨-, hF⟩ := ckB_ex hF
      obtain ⟨mq1, emq1, hF⟩ := lt_ex hF
      have hf := Fr_sI emq1 hf (Or.inl (by decide))
      obtain ⟨-, hF⟩ := ckB_ex hF
      obtain ⟨mq3, emq3, hF⟩ := lt_ex hF
      have hf := Fr_sI emq3 hf (Or.inl (by decide))
      obtain ⟨-, hF⟩ := ckB_ex hF
      obtain ⟨mq5, emq5, hF⟩ := lt_ex hF
      have hf := Fr_sI emq5 hf (Or.inl (by decide))
      obtain ⟨mq7, emq7, hF⟩ := lt_ex hF
      have hf := Fr_sI emq7 hf (Or.inr (by decide))
      cases hF
      exact hf
set_option maxHeartbeats 4000000 in
theorem fr_Tx_cutL_L34 (a2 : Int32) (xq19 : Int32) (k75_21 : Int32 → Mem → Option (Unit × Mem)) (mB : Mem) (v : Unit) (m' : Mem) (Jk75_21 : ∀ (b0 : Int32) (b1 : Mem), Fr [53, 54, 55, 56] [(52, 4)] mB b1 → k75_21 b0 b1 = some (v, m') → Fr [53, 54, 55, 56] [(52, 4)] mB m') : ∀ (nf : Nat) (xq29 : Int32) (mq28 : Mem), Fr [53, 54, 55, 56] [(52, 4)] mB mq28 → F_Tx_cutL_L34 a2 xq19 k75_21 nf xq29 mq28 = some (v, m') → Fr [53, 54, 55, 56] [(52, 4)] mB m' := by
  intro nf
  induction nf with
  | zero =>
    intro xq29 mq28 hf hF
    rw [F_Tx_cutL_L34] at hF
    cases hF
  | succ nfq30 ih =>
    intro xq29 mq28 hf hF
    rw [F_Tx_cutL_L34] at hF
    rcases if_ex hF with hF | hF
    · exact Jk75_21 xq29 mq28 hf hF
    · rcases if_ex hF with hF | hF
      · exact Jk75_21 xq29 mq28 hf hF
      · obtain ⟨-, hF⟩ := ckB_ex hF
        obtain ⟨xq33, exq33, hF⟩ := lt_ex hF
        obtain ⟨xq36, mq34, hz, hF⟩ := bnd_ex hF
        have hf := Fr_tr hf (fr_Tx_kindOf xq33 mq28 _ _ hz) (by decide) (by decide)
        rcases if_ex hF with hF | hF
        · obtain ⟨-, hF⟩ := ckB_ex hF
          obtain ⟨xq38, exq38, hF⟩ := lt_ex hF
          obtain ⟨-, hF⟩ := ckB_ex hF
          obtain ⟨mq39, emq39, hF⟩ := lt_ex hF
          have hf := Fr_sI emq39 hf (Or.inl (by decide))
          obtain ⟨xq41, exq41, hF⟩ := lt_ex hF
          exact ih xq41 mq39 hf hF
        · exact Jk75_21 xq29 mq34 hf hF
set_option maxHeartbeats 4000000 in
theorem fr_Tx_cutL_L7 (a2 : Int32) (k98_2 : Mem → Option (Unit × Mem)) (mB : Mem) (v : Unit) (m' : Mem) (Jk98_2 : ∀ (b0 : Mem), Fr [53, 54, 55, 56] [(52, 4)] mB b0 → k98_2 b0 = some (v, m') → Fr [53, 54, 55, 56] [(52, 4)] mB m') : ∀ (nf : Nat) (xq7 : Int32) (mq6 : Mem), Fr [53, 54, 55, 56] [(52, 4)] mB mq6 → F_Tx_cutL_L7 a2 k98_2 nf xq7 mq6 = some (v, m') → Fr [53, 54, 55, 56] [(52, 4)] mB m' := by
  intro nf
  induction nf with
  | zero =>
    intro xq7 mq6 hf hF
    rw [F_Tx_cutL_L7] at hF
    cases hF
  | succ nfq8 ih =>
    intro xq7 mq6 hf hF
    rw [F_Tx_cutL_L7] at hF
    rcases if_ex hF with hF | hF
    · exact Jk98_2 mq6 hf hF
    · obtain ⟨-, hF⟩ := ckB_ex hF
      obtain ⟨xq11, exq11, hF⟩ := lt_ex hF
      obtain ⟨-, hF⟩ := ckB_ex hF
      obtain ⟨mq12, emq12, hF⟩ := lt_ex hF
      have hf := Fr_sI emq12 hf (Or.inl (by decide))
      obtain ⟨xq14, exq14, hF⟩ := lt_ex hF
      obtain ⟨-, hF⟩ := ckB_ex hF
      obtain ⟨xq16, exq16, hF⟩ := lt_ex hF
      obtain ⟨xq19, mq17, hz, hF⟩ := bnd_ex hF
      have hf := Fr_tr hf (fr_Tx_kindOf xq16 mq12 _ _ hz) (by decide) (by decide)
      obtain ⟨k75_21, ek75_21, hF⟩ := lt_ex hF
      have Jk75_21 : ∀ (xq21 : Int32) (mq20 : Mem), Fr [53, 54, 55, 56] [(52, 4)] mB mq20 → k75_21 xq21 mq20 = some (v, m') → Fr [53, 54, 55, 56] [(52, 4)] mB m' := by
        intro xq21 mq20 hf hF
        rw [ek75_21] at hF
        obtain ⟨-, hF⟩ := ckB_ex hF
        obtain ⟨xq23, exq23, hF⟩ := lt_ex hF
        obtain ⟨k92_24, ek92_24, hF⟩ := lt_ex hF
        have Jk92_24 : ∀ (mq24 : Mem), Fr [53, 54, 55, 56] [(52, 4)] mB mq24 → k92_24 mq24 = some (v, m') → Fr [53, 54, 55, 56] [(52, 4)] mB m' := by
          intro mq24 hf hF
          rw [ek92_24] at hF
          exact ih xq21 mq24 hf hF
        rcases if_ex hF with hF | hF
        · exact Jk92_24 mq20 hf hF
        · obtain ⟨u_, mq25, hz, hF⟩ := bnd_ex hF
          have hf := Fr_tr hf (fr_Tx_addThingL xq19 xq7 xq21 mq20 _ _ hz) (by decide) (by decide)
          exact Jk92_24 mq25 hf hF
      exact fr_Tx_cutL_L34 a2 xq19 k75_21 mB _ _ Jk75_21 1000000 xq14 mq17 hf hF
set_option maxHeartbeats 4000000 in
theorem fr_Tx_cutL (a2 : Int32) (m0 : Mem) (v : Unit) (m' : Mem) (hF : F_Tx_cutL a2 m0 = some (v, m')) : Fr [53, 54, 55, 56] [(52, 4)] m0 m' := by
  unfold F_Tx_cutL at hF
  have hf : Fr [53, 54, 55, 56] [(52, 4)] m0 m0 := Fr_rf
  obtain ⟨mq1, emq1, hF⟩ := lt_ex hF
  have hf := Fr_sI emq1 hf (Or.inr (by decide))
  obtain ⟨k98_2, ek98_2, hF⟩ := lt_ex hF
  have Jk98_2 : ∀ (mq2 : Mem), Fr [53, 54, 55, 56] [(52, 4)] m0 mq2 → k98_2 mq2 = some (v, m') → Fr [53, 54, 55, 56] [(52, 4)] m0 m' := by
    intro mq2 hf hF
    rw [ek98_2] at hF
    obtain ⟨u_, mq3, hz, hF⟩ := bnd_ex hF
    have hf := Fr_tr hf (fr_Tx_addThingL (3 : Int32) (mxI (0 : Int32) a2) (mxI (0 : Int32) a2) mq2 _ _ hz) (by decide) (by decide)
    cases hF
    exact hf
  exact fr_Tx_cutL_L7 a2 k98_2 m0 _ _ Jk98_2 1000000 (0 : Int32) mq1 hf hF
set_option maxHeartbeats 4000000 in
theorem fr_Tx_isAtL (a1 : Int32) (m0 : Mem) (v : Bool) (m' : Mem) (hF : F_Tx_isAtL a1 m0 = some (v, m')) : Fr [] [] m0 m' := by
  unfold F_Tx_isAtL at hF
  have hf : Fr [] [] m0 m0 := Fr_rf
  rcases if_ex hF with hF | hF
  · rcases if_ex hF with hF | hF
    · cases hF
      exact hf
    · rcases if_ex hF with hF | hF
      · cases hF
        exact hf
      · rcases if_ex hF with hF | hF
        · cases hF
          exact hf
        · obtain ⟨-, hF⟩ := ckB_ex hF
          obtain ⟨xq2, exq2, hF⟩ := lt_ex hF
          rcases if_ex hF with hF | hF
          · cases hF
            exact hf
          · cases hF
            exact hf
  · cases hF
    exact hf
set_option maxHeartbeats 4000000 in
theorem fr_Tx_setWrongL (m0 : Mem) (v : Unit) (m' : Mem) (hF : F_Tx_setWrongL m0 = some (v, m')) : Fr [] [(52, 6)] m0 m' := by
  unfold F_Tx_setWrongL at hF
  have hf : Fr [] [(52, 6)] m0 m0 := Fr_rf
  rcases if_ex hF with hF | hF
  · rcases if_ex hF with hF | hF
    · cases hF
      exact hf
    · rcases if_ex hF with hF | hF
      · cases hF
        exact hf
      · obtain ⟨-, hF⟩ := ckB_ex hF
        obtain ⟨xq2, exq2, hF⟩ := lt_ex hF
        obtain ⟨mq3, emq3, hF⟩ := lt_ex hF
        have hf := Fr_sI emq3 hf (Or.inr (by decide))
        cases hF
        exact hf
  · cases hF
    exact hf
set_option maxHeartbeats 4000000 in
theorem fr_Tx_byteAtL (a1 : Int32) (m0 : Mem) (v : Int32) (m' : Mem) (hF : F_Tx_byteAtL a1 m0 = some (v, m')) : Fr [] [] m0 m' := by
  unfold F_Tx_byteAtL at hF
  have hf : Fr [] [] m0 m0 := Fr_rf
  rcases if_ex hF with hF | hF
  · cases hF
    exact hf
  · rcases if_ex hF with hF | hF
    · obtain ⟨-, hF⟩ := ckB_ex hF
      obtain ⟨xq2, exq2, hF⟩ := lt_ex hF
      cases hF
      exact hf
    · cases hF
      exact hf
set_option maxHeartbeats 4000000 in
theorem fr_Tx_takesWordL_L38 (tx1 : String) (k77_8 : Mem → Option (Bool × Mem)) (mB : Mem) (v : Bool) (m' : Mem) (Jk77_8 : ∀ (b0 : Mem), Fr [] [(52, 5)] mB b0 → k77_8 b0 = some (v, m') → Fr [] [(52, 5)] mB m') : ∀ (nf : Nat) (xq11 : Int32) (mq10 : Mem), Fr [] [(52, 5)] mB mq10 → F_Tx_takesWordL_L38 tx1 k77_8 nf xq11 mq10 = some (v, m') → Fr [] [(52, 5)] mB m' := by
  intro nf
  induction nf with
  | zero =>
    intro xq11 mq10 hf hF
    rw [F_Tx_takesWordL_L38] at hF
    cases hF
  | succ nfq12 ih =>
    intro xq11 mq10 hf hF
    rw [F_Tx_takesWordL_L38] at hF
    rcases if_ex hF with hF | hF
    · exact Jk77_8 mq10 hf hF
    · obtain ⟨-, hF⟩ := ckB_ex hF
      obtain ⟨xq15, exq15, hF⟩ := lt_ex hF
      obtain ⟨xq18, mq16, hz, hF⟩ := bnd_ex hF
      have hf := Fr_tr hf (fr_Tx_byteAtL (xq15 + xq11) mq10 _ _ hz) (by decide) (by decide)
      obtain ⟨-, hF⟩ := ckB_ex hF
      rcases if_ex hF with hF | hF
      · obtain ⟨xq20, exq20, hF⟩ := lt_ex hF
        exact ih xq20 mq16 hf hF
      · cases hF
        exact hf
set_option maxHeartbeats 4000000 in
theorem fr_Tx_takesWordL (tx1 : String) (m0 : Mem) (v : Bool) (m' : Mem) (hF : F_Tx_takesWordL tx1 m0 = some (v, m')) : Fr [] [(52, 5)] m0 m' := by
  unfold F_Tx_takesWordL at hF
  have hf : Fr [] [(52, 5)] m0 m0 := Fr_rf
  obtain ⟨zq3, mq1, hz, hF⟩ := bnd_ex hF
  have hf := Fr_tr hf (fr_Tx_isAtL (0 : Int32) m0 _ _ hz) (by decide) (by decide)
  rcases if_ex hF with hF | hF
  · obtain ⟨-, hF⟩ := ckB_ex hF
    obtain ⟨xq5, exq5, hF⟩ := lt_ex hF
    obtain ⟨-, hF⟩ := ckB_ex hF
    obtain ⟨xq7, exq7, hF⟩ := lt_ex hF
    rcases if_ex hF with hF | hF
    · obtain ⟨k77_8, ek77_8, hF⟩ := lt_ex hF
      have Jk77_8 : ∀ (mq8 : Mem), Fr [] [(52, 5)] m0 mq8 → k77_8 mq8 = some (v, m') → Fr [] [(52, 5)] m0 m' := by
        intro mq8 hf hF
        rw [ek77_8] at hF
        obtain ⟨mq9, emq9, hF⟩ := lt_ex hF
        have hf := Fr_sI emq9 hf (Or.inr (by decide))
        cases hF
        exact hf
      exact fr_Tx_takesWordL_L38 tx1 k77_8 m0 _ _ Jk77_8 1000000 (0 : Int32) mq1 hf hF
    · cases hF
      exact hf
  · cases hF
    exact hf
set_option maxHeartbeats 4000000 in
theorem fr_Tx_mustTakeL (tx1 : String) (m0 : Mem) (v : Unit) (m' : Mem) (hF : F_Tx_mustTakeL tx1 m0 = some (v, m')) : Fr [] [(52, 5), (52, 6)] m0 m' := by
  unfold F_Tx_mustTakeL at hF
  have hf : Fr [] [(52, 5), (52, 6)] m0 m0 := Fr_rf
  obtain ⟨zq3, mq1, hz, hF⟩ := bnd_ex hF
  have hf := Fr_tr hf (fr_Tx_takesWordL tx1 m0 _ _ hz) (by decide) (by decide)
  rcases if_ex hF with hF | hF
  · cases hF
    exact hf
  · obtain ⟨u_, mq4, hz, hF⟩ := bnd_ex hF
    have hf := Fr_tr hf (fr_Tx_setWrongL mq1 _ _ hz) (by decide) (by decide)
    cases hF
    exact hf
set_option maxHeartbeats 4000000 in
theorem fr_Tx_numberL_L27 (k78_7 : Int32 → Mem → Option (Int32 × Mem)) (mB : Mem) (v : Int32) (m' : Mem) (Jk78_7 : ∀ (b0 : Int32) (b1 : Mem), Fr [] [(52, 5), (52, 6)] mB b1 → k78_7 b0 b1 = some (v, m') → Fr [] [(52, 5), (52, 6)] mB m') : ∀ (nf : Nat) (xq18 : Int32) (xq19 : Int32) (mq17 : Mem), Fr [] [(52, 5), (52, 6)] mB mq17 → F_Tx_numberL_L27 k78_7 nf xq18 xq19 mq17 = some (v, m') → Fr [] [(52, 5), (52, 6)] mB m' := by
  intro nf
  induction nf with
  | zero =>
    intro xq18 xq19 mq17 hf hF
    rw [F_Tx_numberL_L27] at hF
    cases hF
  | succ nfq20 ih =>
    intro xq18 xq19 mq17 hf hF
    rw [F_Tx_numberL_L27] at hF
    obtain ⟨-, hF⟩ := ckB_ex hF
    obtain ⟨xq23, exq23, hF⟩ := lt_ex hF
    rcases if_ex hF with hF | hF
    · exact Jk78_7 xq18 mq17 hf hF
    · obtain ⟨-, hF⟩ := ckB_ex hF
      obtain ⟨xq25, exq25, hF⟩ := lt_ex hF
      rcases if_ex hF with hF | hF
      · exact Jk78_7 xq18 mq17 hf hF
      · obtain ⟨xq28, mq26, hz, hF⟩ := bnd_ex hF
        have hf := Fr_tr hf (fr_Tx_byteAtL xq19 mq17 _ _ hz) (by decide) (by decide)
        obtain ⟨xq29, exq29, hF⟩ := lt_ex hF
        obtain ⟨xq30, exq30, hF⟩ := lt_ex hF
        exact ih xq29 xq30 mq26 hf hF
set_option maxHeartbeats 4000000 in
theorem fr_Tx_numberL (a1 : Int32) (a2 : Int32) (m0 : Mem) (v : Int32) (m' : Mem) (hF : F_Tx_numberL a1 a2 m0 = some (v, m')) : Fr [] [(52, 5), (52, 6)] m0 m' := by
  unfold F_Tx_numberL at hF
  have hf : Fr [] [(52, 5), (52, 6)] m0 m0 := Fr_rf
  obtain ⟨zq3, mq1, hz, hF⟩ := bnd_ex hF
  have hf := Fr_tr hf (fr_Tx_isAtL (1 : Int32) m0 _ _ hz) (by decide) (by decide)
  rcases if_ex hF with hF | hF
  · obtain ⟨-, hF⟩ := ckB_ex hF
    obtain ⟨xq5, exq5, hF⟩ := lt_ex hF
    obtain ⟨k78_7, ek78_7, hF⟩ := lt_ex hF
    have Jk78_7 : ∀ (xq7 : Int32) (mq6 : Mem), Fr [] [(52, 5), (52, 6)] m0 mq6 → k78_7 xq7 mq6 = some (v, m') → Fr [] [(52, 5), (52, 6)] m0 m' := by
      intro xq7 mq6 hf hF
      rw [ek78_7] at hF
      obtain ⟨-, hF⟩ := ckB_ex hF
      obtain ⟨xq9, exq9, hF⟩ := lt_ex hF
      obtain ⟨-, hF⟩ := ckB_ex hF
      obtain ⟨xq11, exq11, hF⟩ := lt_ex hF
      obtain ⟨k111_12, ek111_12, hF⟩ := lt_ex hF
      have Jk111_12 : ∀ (mq12 : Mem), Fr [] [(52, 5), (52, 6)] m0 mq12 → k111_12 mq12 = some (v, m') → Fr [] [(52, 5), (52, 6)] m0 m' := by
        intro mq12 hf hF
        rw [ek111_12] at hF
        obtain ⟨u_, mq13, hz, hF⟩ := bnd_ex hF
        have hf := Fr_tr hf (fr_Tx_setWrongL mq12 _ _ hz) (by decide) (by decide)
        cases hF
        exact hf
      rcases if_ex hF with hF | hF
      · exact Jk111_12 mq6 hf hF
      · rcases if_ex hF with hF | hF
        · exact Jk111_12 mq6 hf hF
        · rcases if_ex hF with hF | hF
          · obtain ⟨mq16, emq16, hF⟩ := lt_ex hF
            have hf := Fr_sI emq16 hf (Or.inr (by decide))
            cases hF
            exact hf
          · exact Jk111_12 mq6 hf hF
    exact fr_Tx_numberL_L27 k78_7 m0 _ _ Jk78_7 1000000 (0 : Int32) xq5 mq1 hf hF
  · obtain ⟨u_, mq31, hz, hF⟩ := bnd_ex hF
    have hf := Fr_tr hf (fr_Tx_setWrongL mq1 _ _ hz) (by decide) (by decide)
    cases hF
    exact hf
set_option maxHeartbeats 4000000 in
theorem fr_Lw_add (a1 : Int32) (m0 : Mem) (v : Unit) (m' : Mem) (hF : F_Lw_add a1 m0 = some (v, m')) : Fr [58] [(57, 1)] m0 m' := by
  unfold F_Lw_add at hF
  have hf : Fr [58] [(57, 1)] m0 m0 := Fr_rf
  rcases if_ex hF with hF | hF
  · cases hF
    exact hf
  · rcases if_ex hF with hF | hF
    · cases hF
      exact hf
    · obtain ⟨-, hF⟩ := ckB_ex hF
      obtain ⟨mq1, emq1, hF⟩ := lt_ex hF
      have hf := Fr_sI emq1 hf (Or.inl (by decide))
      obtain ⟨mq3, emq3, hF⟩ := lt_ex hF
      have hf := Fr_sI emq3 hf (Or.inr (by decide))
      cases hF
      exact hf
set_option maxHeartbeats 4000000 in
theorem fr_LT_readAll_L7 (rc : Int32 → Mem → Option (Unit × Mem)) (a1 : Int32) (mB : Mem) (v : Unit) (m' : Mem) (hrc : ∀ (b0 : Int32) (m : Mem) (v : Unit) (m' : Mem), rc b0 m = some (v, m') → Fr [58] [(52, 5), (52, 6), (57, 1)] m m') : ∀ (nf : Nat) (xq5 : Int32) (mq4 : Mem), Fr [58] [(52, 5), (52, 6), (57, 1)] mB mq4 → F_LT_readAll_L7 rc a1 nf xq5 mq4 = some (v, m') → Fr [58] [(52, 5), (52, 6), (57, 1)] mB m' := by
  intro nf
  induction nf with
  | zero =>
    intro xq5 mq4 hf hF
    rw [F_LT_readAll_L7] at hF
    cases hF
  | succ nfq6 ih =>
    intro xq5 mq4 hf hF
    rw [F_LT_readAll_L7] at hF
    rcases if_ex hF with hF | hF
    · cases hF
      exact hf
    · obtain ⟨zq10, mq8, hz, hF⟩ := bnd_ex hF
      have hf := Fr_tr hf (fr_Tx_takesWordL ("and") mq4 _ _ hz) (by decide) (by decide)
      rcases if_ex hF with hF | hF
      · obtain ⟨u_, mq11, hz, hF⟩ := bnd_ex hF
        have hf := Fr_tr hf (hrc a1 mq8 _ _ hz) (by decide) (by decide)
        obtain ⟨u_, mq14, hz, hF⟩ := bnd_ex hF
        have hf := Fr_tr hf (fr_Lw_add (1101 : Int32) mq11 _ _ hz) (by decide) (by decide)
        obtain ⟨xq17, exq17, hF⟩ := lt_ex hF
        exact ih xq17 mq14 hf hF
      · cases hF
        exact hf
set_option maxHeartbeats 4000000 in
theorem fr_LT_readAll (rc : Int32 → Mem → Option (Unit × Mem)) (hrc : ∀ (b0 : Int32) (m : Mem) (v : Unit) (m' : Mem), rc b0 m = some (v, m') → Fr [58] [(52, 5), (52, 6), (57, 1)] m m') (a1 : Int32) (m0 : Mem) (v : Unit) (m' : Mem) (hF : F_LT_readAll rc a1 m0 = some (v, m')) : Fr [58] [(52, 5), (52, 6), (57, 1)] m0 m' := by
  unfold F_LT_readAll at hF
  have hf : Fr [58] [(52, 5), (52, 6), (57, 1)] m0 m0 := Fr_rf
  obtain ⟨u_, mq1, hz, hF⟩ := bnd_ex hF
  have hf := Fr_tr hf (hrc a1 m0 _ _ hz) (by decide) (by decide)
  exact fr_LT_readAll_L7 rc a1 m0 _ _ hrc  1000000 (0 : Int32) mq1 hf hF
set_option maxHeartbeats 4000000 in
theorem fr_LT_readAny_L7 (rc : Int32 → Mem → Option (Unit × Mem)) (a1 : Int32) (mB : Mem) (v : Unit) (m' : Mem) (hrc : ∀ (b0 : Int32) (m : Mem) (v : Unit) (m' : Mem), rc b0 m = some (v, m') → Fr [58] [(52, 5), (52, 6), (57, 1)] m m') : ∀ (nf : Nat) (xq5 : Int32) (mq4 : Mem), Fr [58] [(52, 5), (52, 6), (57, 1)] mB mq4 → F_LT_readAny_L7 rc a1 nf xq5 mq4 = some (v, m') → Fr [58] [(52, 5), (52, 6), (57, 1)] mB m' := by
  intro nf
  induction nf with
  | zero =>
    intro xq5 mq4 hf hF
    rw [F_LT_readAny_L7] at hF
    cases hF
  | succ nfq6 ih =>
    intro xq5 mq4 hf hF
    rw [F_LT_readAny_L7] at hF
    rcases if_ex hF with hF | hF
    · cases hF
      exact hf
    · obtain ⟨zq10, mq8, hz, hF⟩ := bnd_ex hF
      have hf := Fr_tr hf (fr_Tx_takesWordL ("or") mq4 _ _ hz) (by decide) (by decide)
      rcases if_ex hF with hF | hF
      · obtain ⟨u_, mq11, hz, hF⟩ := bnd_ex hF
        have hf := Fr_tr hf (fr_LT_readAll rc hrc a1 mq8 _ _ hz) (by decide) (by decide)
        obtain ⟨u_, mq14, hz, hF⟩ := bnd_ex hF
        have hf := Fr_tr hf (fr_Lw_add (1102 : Int32) mq11 _ _ hz) (by decide) (by decide)
        obtain ⟨xq17, exq17, hF⟩ := lt_ex hF
        exact ih xq17 mq14 hf hF
      · cases hF
        exact hf
set_option maxHeartbeats 4000000 in
theorem fr_LT_readAny (rc : Int32 → Mem → Option (Unit × Mem)) (hrc : ∀ (b0 : Int32) (m : Mem) (v : Unit) (m' : Mem), rc b0 m = some (v, m') → Fr [58] [(52, 5), (52, 6), (57, 1)] m m') (a1 : Int32) (m0 : Mem) (v : Unit) (m' : Mem) (hF : F_LT_readAny rc a1 m0 = some (v, m')) : Fr [58] [(52, 5), (52, 6), (57, 1)] m0 m' := by
  unfold F_LT_readAny at hF
  have hf : Fr [58] [(52, 5), (52, 6), (57, 1)] m0 m0 := Fr_rf
  obtain ⟨u_, mq1, hz, hF⟩ := bnd_ex hF
  have hf := Fr_tr hf (fr_LT_readAll rc hrc a1 m0 _ _ hz) (by decide) (by decide)
  exact fr_LT_readAny_L7 rc a1 m0 _ _ hrc  1000000 (0 : Int32) mq1 hf hF
set_option maxHeartbeats 4000000 in
theorem fr_Tx_isAtNumberL (m0 : Mem) (v : Bool) (m' : Mem) (hF : F_Tx_isAtNumberL m0 = some (v, m')) : Fr [] [] m0 m' := by
  unfold F_Tx_isAtNumberL at hF
  have hf : Fr [] [] m0 m0 := Fr_rf
  obtain ⟨zq3, mq1, hz, hF⟩ := bnd_ex hF
  have hf := Fr_tr hf (fr_Tx_isAtL (1 : Int32) m0 _ _ hz) (by decide) (by decide)
  cases hF
  exact hf
set_option maxHeartbeats 4000000 in
theorem fr_Tx_takesSignL (a1 : Int32) (m0 : Mem) (v : Bool) (m' : Mem) (hF : F_Tx_takesSignL a1 m0 = some (v, m')) : Fr [] [(52, 5)] m0 m' := by
  unfold F_Tx_takesSignL at hF
  have hf : Fr [] [(52, 5)] m0 m0 := Fr_rf
  obtain ⟨zq3, mq1, hz, hF⟩ := bnd_ex hF
  have hf := Fr_tr hf (fr_Tx_isAtL (2 : Int32) m0 _ _ hz) (by decide) (by decide)
  rcases if_ex hF with hF | hF
  · obtain ⟨-, hF⟩ := ckB_ex hF
    obtain ⟨xq5, exq5, hF⟩ := lt_ex hF
    obtain ⟨xq8, mq6, hz, hF⟩ := bnd_ex hF
    have hf := Fr_tr hf (fr_Tx_byteAtL xq5 mq1 _ _ hz) (by decide) (by decide)
    rcases if_ex hF with hF | hF
    · obtain ⟨mq9, emq9, hF⟩ := lt_ex hF
      have hf := Fr_sI emq9 hf (Or.inr (by decide))
      cases hF
      exact hf
    · cases hF
      exact hf
  · cases hF
    exact hf
set_option maxHeartbeats 4000000 in
theorem fr_LT_readSum_L4  (mB : Mem) (v : Unit) (m' : Mem) : ∀ (nf : Nat) (zq2 : Bool) (xq3 : Int32) (mq1 : Mem), Fr [58] [(52, 5), (52, 6), (57, 1)] mB mq1 → F_LT_readSum_L4  nf zq2 xq3 mq1 = some (v, m') → Fr [58] [(52, 5), (52, 6), (57, 1)] mB m' := by
  intro nf
  induction nf with
  | zero =>
    intro zq2 xq3 mq1 hf hF
    rw [F_LT_readSum_L4] at hF
    cases hF
  | succ nfq4 ih =>
    intro zq2 xq3 mq1 hf hF
    rw [F_LT_readSum_L4] at hF
    rcases if_ex hF with hF | hF
    · cases hF
      exact hf
    · rcases if_ex hF with hF | hF
      · obtain ⟨zq8, mq6, hz, hF⟩ := bnd_ex hF
        have hf := Fr_tr hf (fr_Tx_isAtNumberL mq1 _ _ hz) (by decide) (by decide)
        obtain ⟨k176_9, ek176_9, hF⟩ := lt_ex hF
        have Jk176_9 : ∀ (mq9 : Mem), Fr [58] [(52, 5), (52, 6), (57, 1)] mB mq9 → k176_9 mq9 = some (v, m') → Fr [58] [(52, 5), (52, 6), (57, 1)] mB m' := by
          intro mq9 hf hF
          rw [ek176_9] at hF
          obtain ⟨k190_10, ek190_10, hF⟩ := lt_ex hF
          have Jk190_10 : ∀ (mq10 : Mem), Fr [58] [(52, 5), (52, 6), (57, 1)] mB mq10 → k190_10 mq10 = some (v, m') → Fr [58] [(52, 5), (52, 6), (57, 1)] mB m' := by
            intro mq10 hf hF
            rw [ek190_10] at hF
            obtain ⟨zq13, mq11, hz, hF⟩ := bnd_ex hF
            have hf := Fr_tr hf (fr_Tx_takesSignL (43 : Int32) mq10 _ _ hz) (by decide) (by decide)
            obtain ⟨xq14, exq14, hF⟩ := lt_ex hF
            exact ih zq13 xq14 mq11 hf hF
          rcases if_ex hF with hF | hF
          · exact Jk190_10 mq9 hf hF
          · obtain ⟨u_, mq15, hz, hF⟩ := bnd_ex hF
            have hf := Fr_tr hf (fr_Lw_add (1105 : Int32) mq9 _ _ hz) (by decide) (by decide)
            exact Jk190_10 mq15 hf hF
        rcases if_ex hF with hF | hF
        · obtain ⟨xq59, mq57, hz, hF⟩ := bnd_ex hF
          have hf := Fr_tr hf (fr_Tx_numberL (0 : Int32) (999 : Int32) mq6 _ _ hz) (by decide) (by decide)
          obtain ⟨u_, mq60, hz, hF⟩ := bnd_ex hF
          have hf := Fr_tr hf (fr_Lw_add xq59 mq57 _ _ hz) (by decide) (by decide)
          exact Jk176_9 mq60 hf hF
        · obtain ⟨zq20, mq18, hz, hF⟩ := bnd_ex hF
          have hf := Fr_tr hf (fr_Tx_takesWordL ("session") mq6 _ _ hz) (by decide) (by decide)
          rcases if_ex hF with hF | hF
          · obtain ⟨u_, mq54, hz, hF⟩ := bnd_ex hF
            have hf := Fr_tr hf (fr_Lw_add (1000 : Int32) mq18 _ _ hz) (by decide) (by decide)
            exact Jk176_9 mq54 hf hF
          · obtain ⟨zq23, mq21, hz, hF⟩ := bnd_ex hF
            have hf := Fr_tr hf (fr_Tx_takesWordL ("day") mq18 _ _ hz) (by decide) (by decide)
            rcases if_ex hF with hF | hF
            · obtain ⟨u_, mq51, hz, hF⟩ := bnd_ex hF
              have hf := Fr_tr hf (fr_Lw_add (1001 : Int32) mq21 _ _ hz) (by decide) (by decide)
              exact Jk176_9 mq51 hf hF
            · obtain ⟨zq26, mq24, hz, hF⟩ := bnd_ex hF
              have hf := Fr_tr hf (fr_Tx_takesWordL ("innings") mq21 _ _ hz) (by decide) (by decide)
              rcases if_ex hF with hF | hF
              · obtain ⟨u_, mq48, hz, hF⟩ := bnd_ex hF
                have hf := Fr_tr hf (fr_Lw_add (1002 : Int32) mq24 _ _ hz) (by decide) (by decide)
                exact Jk176_9 mq48 hf hF
              · obtain ⟨zq29, mq27, hz, hF⟩ := bnd_ex hF
                have hf := Fr_tr hf (fr_Tx_takesWordL ("side") mq24 _ _ hz) (by decide) (by decide)
                rcases if_ex hF with hF | hF
                · obtain ⟨u_, mq45, hz, hF⟩ := bnd_ex hF
                  have hf := Fr_tr hf (fr_Lw_add (1003 : Int32) mq27 _ _ hz) (by decide) (by decide)
                  exact Jk176_9 mq45 hf hF
                · obtain ⟨zq32, mq30, hz, hF⟩ := bnd_ex hF
                  have hf := Fr_tr hf (fr_Tx_takesWordL ("bat") mq27 _ _ hz) (by decide) (by decide)
                  rcases if_ex hF with hF | hF
                  · obtain ⟨u_, mq42, hz, hF⟩ := bnd_ex hF
                    have hf := Fr_tr hf (fr_Lw_add (1004 : Int32) mq30 _ _ hz) (by decide) (by decide)
                    exact Jk176_9 mq42 hf hF
                  · obtain ⟨zq35, mq33, hz, hF⟩ := bnd_ex hF
                    have hf := Fr_tr hf (fr_Tx_takesWordL ("bowl") mq30 _ _ hz) (by decide) (by decide)
                    rcases if_ex hF with hF | hF
                    · obtain ⟨u_, mq39, hz, hF⟩ := bnd_ex hF
                      have hf := Fr_tr hf (fr_Lw_add (1005 : Int32) mq33 _ _ hz) (by decide) (by decide)
                      exact Jk176_9 mq39 hf hF
                    · obtain ⟨u_, mq36, hz, hF⟩ := bnd_ex hF
                      have hf := Fr_tr hf (fr_Tx_setWrongL mq33 _ _ hz) (by decide) (by decide)
                      exact Jk176_9 mq36 hf hF
      · cases hF
        exact hf
set_option maxHeartbeats 4000000 in
theorem fr_LT_readSum (m0 : Mem) (v : Unit) (m' : Mem) (hF : F_LT_readSum m0 = some (v, m')) : Fr [58] [(52, 5), (52, 6), (57, 1)] m0 m' := by
  unfold F_LT_readSum at hF
  have hf : Fr [58] [(52, 5), (52, 6), (57, 1)] m0 m0 := Fr_rf
  exact fr_LT_readSum_L4  m0 _ _  1000000 true (0 : Int32) m0 hf hF
set_option maxHeartbeats 4000000 in
theorem fr_LT_readAtom_b (rc : Int32 → Mem → Option (Unit × Mem)) (hrc : ∀ (b0 : Int32) (m : Mem) (v : Unit) (m' : Mem), rc b0 m = some (v, m') → Fr [58] [(52, 5), (52, 6), (57, 1)] m m') (a1 : Int32) (m0 : Mem) (v : Unit) (m' : Mem) (hF : F_LT_readAtom_b rc a1 m0 = some (v, m')) : Fr [58] [(52, 5), (52, 6), (57, 1)] m0 m' := by
  unfold F_LT_readAtom_b at hF
  have hf : Fr [58] [(52, 5), (52, 6), (57, 1)] m0 m0 := Fr_rf
  obtain ⟨k35_1, ek35_1, hF⟩ := lt_ex hF
  have Jk35_1 : ∀ (mq1 : Mem), Fr [58] [(52, 5), (52, 6), (57, 1)] m0 mq1 → k35_1 mq1 = some (v, m') → Fr [58] [(52, 5), (52, 6), (57, 1)] m0 m' := by
    intro mq1 hf hF
    rw [ek35_1] at hF
    obtain ⟨k73_2, ek73_2, hF⟩ := lt_ex hF
    have Jk73_2 : ∀ (mq2 : Mem), Fr [58] [(52, 5), (52, 6), (57, 1)] m0 mq2 → k73_2 mq2 = some (v, m') → Fr [58] [(52, 5), (52, 6), (57, 1)] m0 m' := by
      intro mq2 hf hF
      rw [ek73_2] at hF
      obtain ⟨zq5, mq3, hz, hF⟩ := bnd_ex hF
      have hf := Fr_tr hf (fr_Tx_takesWordL ("cloud") mq2 _ _ hz) (by decide) (by decide)
      rcases if_ex hF with hF | hF
      · obtain ⟨u_, mq33, hz, hF⟩ := bnd_ex hF
        have hf := Fr_tr hf (fr_Lw_add (1006 : Int32) mq3 _ _ hz) (by decide) (by decide)
        cases hF
        exact hf
      · obtain ⟨zq8, mq6, hz, hF⟩ := bnd_ex hF
        have hf := Fr_tr hf (fr_Tx_takesWordL ("tide") mq3 _ _ hz) (by decide) (by decide)
        rcases if_ex hF with hF | hF
        · obtain ⟨u_, mq30, hz, hF⟩ := bnd_ex hF
          have hf := Fr_tr hf (fr_Lw_add (1007 : Int32) mq6 _ _ hz) (by decide) (by decide)
          cases hF
          exact hf
        · obtain ⟨u_, mq9, hz, hF⟩ := bnd_ex hF
          have hf := Fr_tr hf (fr_LT_readSum mq6 _ _ hz) (by decide) (by decide)
          obtain ⟨zq14, mq12, hz, hF⟩ := bnd_ex hF
          have hf := Fr_tr hf (fr_Tx_takesSignL (60 : Int32) mq9 _ _ hz) (by decide) (by decide)
          obtain ⟨k145_15, ek145_15, hF⟩ := lt_ex hF
          have Jk145_15 : ∀ (mq15 : Mem), Fr [58] [(52, 5), (52, 6), (57, 1)] m0 mq15 → k145_15 mq15 = some (v, m') → Fr [58] [(52, 5), (52, 6), (57, 1)] m0 m' := by
            intro mq15 hf hF
            rw [ek145_15] at hF
            obtain ⟨u_, mq16, hz, hF⟩ := bnd_ex hF
            have hf := Fr_tr hf (fr_LT_readSum mq15 _ _ hz) (by decide) (by decide)
            obtain ⟨k166_20, ek166_20, hF⟩ := lt_ex hF
            have Jk166_20 : ∀ (xq20 : Int32) (mq19 : Mem), Fr [58] [(52, 5), (52, 6), (57, 1)] m0 mq19 → k166_20 xq20 mq19 = some (v, m') → Fr [58] [(52, 5), (52, 6), (57, 1)] m0 m' := by
              intro xq20 mq19 hf hF
              rw [ek166_20] at hF
              obtain ⟨u_, mq21, hz, hF⟩ := bnd_ex hF
              have hf := Fr_tr hf (fr_Lw_add xq20 mq19 _ _ hz) (by decide) (by decide)
              cases hF
              exact hf
            rcases if_ex hF with hF | hF
            · exact Jk166_20 (1103 : Int32) mq16 hf hF
            · exact Jk166_20 (1104 : Int32) mq16 hf hF
          rcases if_ex hF with hF | hF
          · exact Jk145_15 mq12 hf hF
          · obtain ⟨zq26, mq24, hz, hF⟩ := bnd_ex hF
            have hf := Fr_tr hf (fr_Tx_takesSignL (62 : Int32) mq12 _ _ hz) (by decide) (by decide)
            rcases if_ex hF with hF | hF
            · exact Jk145_15 mq24 hf hF
            · obtain ⟨u_, mq27, hz, hF⟩ := bnd_ex hF
              have hf := Fr_tr hf (fr_Tx_setWrongL mq24 _ _ hz) (by decide) (by decide)
              exact Jk145_15 mq27 hf hF
    rcases if_ex hF with hF | hF
    · exact Jk73_2 mq1 hf hF
    · obtain ⟨zq38, mq36, hz, hF⟩ := bnd_ex hF
      have hf := Fr_tr hf (fr_Tx_takesSignL (40 : Int32) mq1 _ _ hz) (by decide) (by decide)
      rcases if_ex hF with hF | hF
      · obtain ⟨u_, mq39, hz, hF⟩ := bnd_ex hF
        have hf := Fr_tr hf (fr_LT_readAny rc hrc (a1 + (1 : Int32)) mq36 _ _ hz) (by decide) (by decide)
        obtain ⟨zq44, mq42, hz, hF⟩ := bnd_ex hF
        have hf := Fr_tr hf (fr_Tx_takesSignL (41 : Int32) mq39 _ _ hz) (by decide) (by decide)
        rcases if_ex hF with hF | hF
        · cases hF
          exact hf
        · obtain ⟨u_, mq45, hz, hF⟩ := bnd_ex hF
          have hf := Fr_tr hf (fr_Tx_setWrongL mq42 _ _ hz) (by decide) (by decide)
          cases hF
          exact hf
      · exact Jk73_2 mq36 hf hF
  rcases if_ex hF with hF | hF
  · exact Jk35_1 m0 hf hF
  · obtain ⟨zq50, mq48, hz, hF⟩ := bnd_ex hF
    have hf := Fr_tr hf (fr_Tx_takesWordL ("not") m0 _ _ hz) (by decide) (by decide)
    rcases if_ex hF with hF | hF
    · obtain ⟨u_, mq51, hz, hF⟩ := bnd_ex hF
      have hf := Fr_tr hf (hrc (a1 + (1 : Int32)) mq48 _ _ hz) (by decide) (by decide)
      obtain ⟨u_, mq54, hz, hF⟩ := bnd_ex hF
      have hf := Fr_tr hf (fr_Lw_add (1100 : Int32) mq51 _ _ hz) (by decide) (by decide)
      cases hF
      exact hf
    · exact Jk35_1 mq48 hf hF
set_option maxHeartbeats 4000000 in
theorem fr_LT_readAtom : ∀ (k : Nat) (b0 : Int32) (b1 : Mem) (v : Unit) (m' : Mem), F_LT_readAtom k b0 b1 = some (v, m') → Fr [58] [(52, 5), (52, 6), (57, 1)] b1 m' := by
  intro k
  induction k with
  | zero =>
    intro b0 b1 v m' h
    rw [F_LT_readAtom] at h
    cases h
  | succ k ih =>
    intro b0 b1 v m' h
    rw [F_LT_readAtom] at h
    exact fr_LT_readAtom_b (F_LT_readAtom k) ih b0 b1 v m' h
set_option maxHeartbeats 4000000 in
theorem fr_LT_readLine (m0 : Mem) (v : Unit) (m' : Mem) (hF : F_LT_readLine m0 = some (v, m')) : Fr [58] [(52, 5), (52, 6), (57, 1)] m0 m' := by
  unfold F_LT_readLine at hF
  have hf : Fr [58] [(52, 5), (52, 6), (57, 1)] m0 m0 := Fr_rf
  obtain ⟨u_, mq1, hz, hF⟩ := bnd_ex hF
  have hf := Fr_tr hf (fr_Tx_mustTakeL ("hard") m0 _ _ hz) (by decide) (by decide)
  obtain ⟨xq6, mq4, hz, hF⟩ := bnd_ex hF
  have hf := Fr_tr hf (fr_Tx_numberL (0 : Int32) (9 : Int32) mq1 _ _ hz) (by decide) (by decide)
  obtain ⟨zq9, mq7, hz, hF⟩ := bnd_ex hF
  have hf := Fr_tr hf (fr_Tx_takesWordL ("if") mq4 _ _ hz) (by decide) (by decide)
  obtain ⟨k39_10, ek39_10, hF⟩ := lt_ex hF
  have Jk39_10 : ∀ (mq10 : Mem), Fr [58] [(52, 5), (52, 6), (57, 1)] m0 mq10 → k39_10 mq10 = some (v, m') → Fr [58] [(52, 5), (52, 6), (57, 1)] m0 m' := by
    intro mq10 hf hF
    rw [ek39_10] at hF
    obtain ⟨u_, mq11, hz, hF⟩ := bnd_ex hF
    have hf := Fr_tr hf (fr_Lw_add ((2000 : Int32) + xq6) mq10 _ _ hz) (by decide) (by decide)
    cases hF
    exact hf
  rcases if_ex hF with hF | hF
  · obtain ⟨u_, mq17, hz, hF⟩ := bnd_ex hF
    have hf := Fr_tr hf (fr_LT_readAny (F_LT_readAtom 8) (fr_LT_readAtom 8) (0 : Int32) mq7 _ _ hz) (by decide) (by decide)
    exact Jk39_10 mq17 hf hF
  · obtain ⟨u_, mq14, hz, hF⟩ := bnd_ex hF
    have hf := Fr_tr hf (fr_Lw_add (1 : Int32) mq7 _ _ hz) (by decide) (by decide)
    exact Jk39_10 mq14 hf hF
set_option maxHeartbeats 4000000 in
theorem fr_Tx_readLinesL_L40 (a3 : Int32) (k78_10 : Int32 → Mem → Option (Int32 × Mem)) (k91_14 : Mem → Option (Int32 × Mem)) (mB : Mem) (v : Int32) (m' : Mem) (Jk78_10 : ∀ (b0 : Int32) (b1 : Mem), Fr [53, 54, 55, 56, 58] [(52, 4), (52, 5), (52, 6), (57, 1)] mB b1 → k78_10 b0 b1 = some (v, m') → Fr [53, 54, 55, 56, 58] [(52, 4), (52, 5), (52, 6), (57, 1)] mB m') (Jk91_14 : ∀ (b0 : Mem), Fr [53, 54, 55, 56, 58] [(52, 4), (52, 5), (52, 6), (57, 1)] mB b0 → k91_14 b0 = some (v, m') → Fr [53, 54, 55, 56, 58] [(52, 4), (52, 5), (52, 6), (57, 1)] mB m') : ∀ (nf : Nat) (xq19 : Int32) (mq18 : Mem), Fr [53, 54, 55, 56, 58] [(52, 4), (52, 5), (52, 6), (57, 1)] mB mq18 → F_Tx_readLinesL_L40 a3 k78_10 k91_14 nf xq19 mq18 = some (v, m') → Fr [53, 54, 55, 56, 58] [(52, 4), (52, 5), (52, 6), (57, 1)] mB m' := by
  intro nf
  induction nf with
  | zero =>
    intro xq19 mq18 hf hF
    rw [F_Tx_readLinesL_L40] at hF
    cases hF
  | succ nfq20 ih =>
    intro xq19 mq18 hf hF
    rw [F_Tx_readLinesL_L40] at hF
    rcases if_ex hF with hF | hF
    · exact Jk91_14 mq18 hf hF
    · obtain ⟨u_, mq22, hz, hF⟩ := bnd_ex hF
      have hf := Fr_tr hf (fr_LT_readLine mq18 _ _ hz) (by decide) (by decide)
      rcases if_ex hF with hF | hF
      · obtain ⟨zq27, mq25, hz, hF⟩ := bnd_ex hF
        have hf := Fr_tr hf (fr_Tx_isAtL (3 : Int32) mq22 _ _ hz) (by decide) (by decide)
        rcases if_ex hF with hF | hF
        · cases hF
          exact hf
        · obtain ⟨zq30, mq28, hz, hF⟩ := bnd_ex hF
          have hf := Fr_tr hf (fr_Tx_takesSignL (59 : Int32) mq25 _ _ hz) (by decide) (by decide)
          rcases if_ex hF with hF | hF
          · obtain ⟨xq31, exq31, hF⟩ := lt_ex hF
            exact ih xq31 mq28 hf hF
          · exact Jk78_10 xq19 mq28 hf hF
      · cases hF
        exact hf
set_option maxHeartbeats 4000000 in
theorem fr_Tx_readLinesL (a2 : Int32) (a3 : Int32) (m0 : Mem) (v : Int32) (m' : Mem) (hF : F_Tx_readLinesL a2 a3 m0 = some (v, m')) : Fr [53, 54, 55, 56, 58] [(52, 4), (52, 5), (52, 6), (57, 1)] m0 m' := by
  unfold F_Tx_readLinesL at hF
  have hf : Fr [53, 54, 55, 56, 58] [(52, 4), (52, 5), (52, 6), (57, 1)] m0 m0 := Fr_rf
  obtain ⟨u_, mq1, hz, hF⟩ := bnd_ex hF
  have hf := Fr_tr hf (fr_Tx_cutL (mnI a2 (mnI (400 : Int32) (400 : Int32))) m0 _ _ hz) (by decide) (by decide)
  obtain ⟨mq4, emq4, hF⟩ := lt_ex hF
  have hf := Fr_sI emq4 hf (Or.inr (by decide))
  obtain ⟨mq5, emq5, hF⟩ := lt_ex hF
  have hf := Fr_sI emq5 hf (Or.inr (by decide))
  obtain ⟨zq8, mq6, hz, hF⟩ := bnd_ex hF
  have hf := Fr_tr hf (fr_Tx_isAtL (3 : Int32) mq5 _ _ hz) (by decide) (by decide)
  rcases if_ex hF with hF | hF
  · cases hF
    exact hf
  · obtain ⟨k78_10, ek78_10, hF⟩ := lt_ex hF
    have Jk78_10 : ∀ (xq10 : Int32) (mq9 : Mem), Fr [53, 54, 55, 56, 58] [(52, 4), (52, 5), (52, 6), (57, 1)] m0 mq9 → k78_10 xq10 mq9 = some (v, m') → Fr [53, 54, 55, 56, 58] [(52, 4), (52, 5), (52, 6), (57, 1)] m0 m' := by
      intro xq10 mq9 hf hF
      rw [ek78_10] at hF
      obtain ⟨u_, mq11, hz, hF⟩ := bnd_ex hF
      have hf := Fr_tr hf (fr_Tx_setWrongL mq9 _ _ hz) (by decide) (by decide)
      cases hF
      exact hf
    obtain ⟨k91_14, ek91_14, hF⟩ := lt_ex hF
    have Jk91_14 : ∀ (mq14 : Mem), Fr [53, 54, 55, 56, 58] [(52, 4), (52, 5), (52, 6), (57, 1)] m0 mq14 → k91_14 mq14 = some (v, m') → Fr [53, 54, 55, 56, 58] [(52, 4), (52, 5), (52, 6), (57, 1)] m0 m' := by
      intro mq14 hf hF
      rw [ek91_14] at hF
      obtain ⟨u_, mq15, hz, hF⟩ := bnd_ex hF
      have hf := Fr_tr hf (fr_Tx_setWrongL mq14 _ _ hz) (by decide) (by decide)
      cases hF
      exact hf
    exact fr_Tx_readLinesL_L40 a3 k78_10 k91_14 m0 _ _ Jk78_10 Jk91_14 1000000 (1 : Int32) mq6 hf hF
set_option maxHeartbeats 4000000 in
theorem fr_LT_readLaw (a2 : Int32) (m0 : Mem) (v : Int32) (m' : Mem) (hF : F_LT_readLaw a2 m0 = some (v, m')) : Fr [53, 54, 55, 56, 58] [(52, 4), (52, 5), (52, 6), (57, 0), (57, 1)] m0 m' := by
  unfold F_LT_readLaw at hF
  have hf : Fr [53, 54, 55, 56, 58] [(52, 4), (52, 5), (52, 6), (57, 0), (57, 1)] m0 m0 := Fr_rf
  obtain ⟨mq1, emq1, hF⟩ := lt_ex hF
  have hf := Fr_sI emq1 hf (Or.inr (by decide))
  obtain ⟨xq4, mq2, hz, hF⟩ := bnd_ex hF
  have hf := Fr_tr hf (fr_Tx_readLinesL a2 (12 : Int32) mq1 _ _ hz) (by decide) (by decide)
  obtain ⟨mq5, emq5, hF⟩ := lt_ex hF
  have hf := Fr_sI emq5 hf (Or.inr (by decide))
  cases hF
  exact hf
set_option maxHeartbeats 4000000 in
theorem fr_Lw_copyFrom_3_L18  (mB : Mem) (v : Unit) (m' : Mem) : ∀ (nf : Nat) (xq4 : Int32) (mq3 : Mem), Fr [9] [(8, 0), (8, 1)] mB mq3 → F_Lw_copyFrom_3_L18  nf xq4 mq3 = some (v, m') → Fr [9] [(8, 0), (8, 1)] mB m' := by
  intro nf
  induction nf with
  | zero =>
    intro xq4 mq3 hf hF
    rw [F_Lw_copyFrom_3_L18] at hF
    cases hF
  | succ nfq5 ih =>
    intro xq4 mq3 hf hF
    rw [F_Lw_copyFrom_3_L18] at hF
    rcases if_ex hF with hF | hF
    · cases hF
      exact hf
    · obtain ⟨-, hF⟩ := ckB_ex hF
      obtain ⟨xq8, exq8, hF⟩ := lt_ex hF
      obtain ⟨-, hF⟩ := ckB_ex hF
      obtain ⟨mq9, emq9, hF⟩ := lt_ex hF
      have hf := Fr_sI emq9 hf (Or.inl (by decide))
      obtain ⟨xq11, exq11, hF⟩ := lt_ex hF
      exact ih xq11 mq9 hf hF
set_option maxHeartbeats 4000000 in
theorem fr_Lw_copyFrom_3 (m0 : Mem) (v : Unit) (m' : Mem) (hF : F_Lw_copyFrom_3 m0 = some (v, m')) : Fr [9] [(8, 0), (8, 1)] m0 m' := by
  unfold F_Lw_copyFrom_3 at hF
  have hf : Fr [9] [(8, 0), (8, 1)] m0 m0 := Fr_rf
  obtain ⟨mq1, emq1, hF⟩ := lt_ex hF
  have hf := Fr_sI emq1 hf (Or.inr (by decide))
  obtain ⟨mq2, emq2, hF⟩ := lt_ex hF
  have hf := Fr_sI emq2 hf (Or.inr (by decide))
  exact fr_Lw_copyFrom_3_L18  m0 _ _  1000000 (0 : Int32) mq2 hf hF
set_option maxHeartbeats 4000000 in
theorem fr_T_law (m0 : Mem) (v : (Nat ⊕ Int32)) (m' : Mem) (hF : F_T_law m0 = some (v, m')) : Fr [9, 14, 53, 54, 55, 56, 58] [(0, 1), (0, 2), (2, 3), (2, 7), (2, 8), (8, 0), (8, 1), (20, 0), (52, 4), (52, 5), (52, 6), (57, 0), (57, 1)] m0 m' := by
  unfold F_T_law at hF
  have hf : Fr [9, 14, 53, 54, 55, 56, 58] [(0, 1), (0, 2), (2, 3), (2, 7), (2, 8), (8, 0), (8, 1), (20, 0), (52, 4), (52, 5), (52, 6), (57, 0), (57, 1)] m0 m0 := Fr_rf
  obtain ⟨xq3, mq1, hz, hF⟩ := bnd_ex hF
  have hf := Fr_tr hf (fr_T_useTape m0 _ _ hz) (by decide) (by decide)
  obtain ⟨xq6, mq4, hz, hF⟩ := bnd_ex hF
  have hf := Fr_tr hf (fr_LT_readLaw xq3 mq1 _ _ hz) (by decide) (by decide)
  obtain ⟨mq7, emq7, hF⟩ := lt_ex hF
  have hf := Fr_sI emq7 hf (Or.inr (by decide))
  rcases if_ex hF with hF | hF
  · obtain ⟨u_, mq8, hz, hF⟩ := bnd_ex hF
    have hf := Fr_tr hf (fr_Lw_copyFrom_3 mq7 _ _ hz) (by decide) (by decide)
    obtain ⟨u_, mq11, hz, hF⟩ := bnd_ex hF
    have hf := Fr_tr hf (fr_T_startAfresh mq8 _ _ hz) (by decide) (by decide)
    cases hF
    exact hf
  · cases hF
    exact hf
set_option maxHeartbeats 4000000 in
theorem fr_T_level (a1 : Int32) (a2 : Int32) (a3 : Int32) (m0 : Mem) (v : (Nat ⊕ Int32)) (m' : Mem) (hF : F_T_level a1 a2 a3 m0 = some (v, m')) : Fr [10, 11, 14] [] m0 m' := by
  unfold F_T_level at hF
  have hf : Fr [10, 11, 14] [] m0 m0 := Fr_rf
  rcases bndX_ex hF with ⟨ke, mq1, hz, hF⟩ | ⟨u_, mq1, hz, hF⟩
  · cases hF
    exact Fr_tr hf (fr_T_mustBeBelow a1 (gI m0 3 0) m0 _ _ hz) (by decide) (by decide)
  · have hf := Fr_tr hf (fr_T_mustBeBelow a1 (gI m0 3 0) m0 _ _ hz) (by decide) (by decide)
    rcases bndX_ex hF with ⟨ke, mq4, hz, hF⟩ | ⟨u_, mq4, hz, hF⟩
    · cases hF
      exact Fr_tr hf (fr_T_mustBeBelow a2 (4 : Int32) mq1 _ _ hz) (by decide) (by decide)
    · have hf := Fr_tr hf (fr_T_mustBeBelow a2 (4 : Int32) mq1 _ _ hz) (by decide) (by decide)
      rcases bndX_ex hF with ⟨ke, mq7, hz, hF⟩ | ⟨u_, mq7, hz, hF⟩
      · cases hF
        exact Fr_tr hf (fr_T_mustBeBelow a3 (2 : Int32) mq4 _ _ hz) (by decide) (by decide)
      · have hf := Fr_tr hf (fr_T_mustBeBelow a3 (2 : Int32) mq4 _ _ hz) (by decide) (by decide)
        obtain ⟨xq12, mq10, hz, hF⟩ := bnd_ex hF
        have hf := Fr_tr hf (fr_Gr_levelOf a1 a2 a3 mq7 _ _ hz) (by decide) (by decide)
        cases hF
        exact hf
set_option maxHeartbeats 4000000 in
theorem fr_T_line_L27 (a1 : Int32) (a4 : Int32) (a5 : Int32) (xq6 : Int32) (k62_8 : Int32 → Mem → Option ((Nat ⊕ Int32) × Mem)) (mB : Mem) (v : (Nat ⊕ Int32)) (m' : Mem) (Jk62_8 : ∀ (b0 : Int32) (b1 : Mem), Fr [10, 11, 14, 15] [(2, 2), (2, 3), (2, 4), (2, 5), (2, 6)] mB b1 → k62_8 b0 b1 = some (v, m') → Fr [10, 11, 14, 15] [(2, 2), (2, 3), (2, 4), (2, 5), (2, 6)] mB m') : ∀ (nf : Nat) (xq10 : Int32) (mq9 : Mem), Fr [10, 11, 14, 15] [(2, 2), (2, 3), (2, 4), (2, 5), (2, 6)] mB mq9 → F_T_line_L27 a1 a4 a5 xq6 k62_8 nf xq10 mq9 = some (v, m') → Fr [10, 11, 14, 15] [(2, 2), (2, 3), (2, 4), (2, 5), (2, 6)] mB m' := by
  intro nf
  induction nf with
  | zero =>
    intro xq10 mq9 hf hF
    rw [F_T_line_L27] at hF
    cases hF
  | succ nfq11 ih =>
    intro xq10 mq9 hf hF
    rw [F_T_line_L27] at hF
    rcases if_ex hF with hF | hF
    · cases hF
      exact hf
    · obtain ⟨u_, mq13, hz, hF⟩ := bnd_ex hF
      have hf := Fr_tr hf (fr_Od_ready (0 : Int32) xq10 false mq9 _ _ hz) (by decide) (by decide)
      obtain ⟨zq18, mq16, hz, hF⟩ := bnd_ex hF
      have hf := Fr_tr hf (fr_Od_choosesTold a1 xq6 a4 a5 mq13 _ _ hz) (by decide) (by decide)
      rcases if_ex hF with hF | hF
      · obtain ⟨xq19, exq19, hF⟩ := lt_ex hF
        exact ih xq19 mq16 hf hF
      · exact Jk62_8 xq10 mq16 hf hF
set_option maxHeartbeats 4000000 in
theorem fr_T_line (a1 : Int32) (a2 : Int32) (a3 : Bool) (a4 : Int32) (a5 : Int32) (m0 : Mem) (v : (Nat ⊕ Int32)) (m' : Mem) (hF : F_T_line a1 a2 a3 a4 a5 m0 = some (v, m')) : Fr [10, 11, 14, 15] [(2, 2), (2, 3), (2, 4), (2, 5), (2, 6)] m0 m' := by
  unfold F_T_line at hF
  have hf : Fr [10, 11, 14, 15] [(2, 2), (2, 3), (2, 4), (2, 5), (2, 6)] m0 m0 := Fr_rf
  rcases bndX_ex hF with ⟨ke, mq1, hz, hF⟩ | ⟨u_, mq1, hz, hF⟩
  · cases hF
    exact Fr_tr hf (fr_T_mustBeState a1 a2 a4 a5 m0 _ _ hz) (by decide) (by decide)
  · have hf := Fr_tr hf (fr_T_mustBeState a1 a2 a4 a5 m0 _ _ hz) (by decide) (by decide)
    rcases if_ex hF with hF | hF
    · cases hF
      exact hf
    · obtain ⟨xq6, mq4, hz, hF⟩ := bnd_ex hF
      have hf := Fr_tr hf (fr_Od_kindOf a2 a3 mq1 _ _ hz) (by decide) (by decide)
      obtain ⟨k62_8, ek62_8, hF⟩ := lt_ex hF
      have Jk62_8 : ∀ (xq8 : Int32) (mq7 : Mem), Fr [10, 11, 14, 15] [(2, 2), (2, 3), (2, 4), (2, 5), (2, 6)] m0 mq7 → k62_8 xq8 mq7 = some (v, m') → Fr [10, 11, 14, 15] [(2, 2), (2, 3), (2, 4), (2, 5), (2, 6)] m0 m' := by
        intro xq8 mq7 hf hF
        rw [ek62_8] at hF
        rcases if_ex hF with hF | hF
        · cases hF
          exact hf
        · cases hF
          exact hf
      exact fr_T_line_L27 a1 a4 a5 xq6 k62_8 m0 _ _ Jk62_8 1000000 (0 : Int32) mq4 hf hF
set_option maxHeartbeats 4000000 in
theorem fr_T_log (a1 : Int32) (a2 : Int32) (m0 : Mem) (v : (Nat ⊕ Int32)) (m' : Mem) (hF : F_T_log a1 a2 m0 = some (v, m')) : Fr [] [] m0 m' := by
  unfold F_T_log at hF
  have hf : Fr [] [] m0 m0 := Fr_rf
  obtain ⟨k10_1, ek10_1, hF⟩ := lt_ex hF
  have Jk10_1 : ∀ (mq1 : Mem), Fr [] [] m0 mq1 → k10_1 mq1 = some (v, m') → Fr [] [] m0 m' := by
    intro mq1 hf hF
    rw [ek10_1] at hF
    cases hF
    exact hf
  rcases if_ex hF with hF | hF
  · exact Jk10_1 m0 hf hF
  · rcases if_ex hF with hF | hF
    · obtain ⟨xq4, mq2, hz, hF⟩ := bnd_ex hF
      have hf := Fr_tr hf (fr_Ma_logged a1 a2 m0 _ _ hz) (by decide) (by decide)
      cases hF
      exact hf
    · exact Jk10_1 m0 hf hF
set_option maxHeartbeats 4000000 in
theorem fr_Ma_runsOf (a1 : Int32) (m0 : Mem) (v : Int32) (m' : Mem) (hF : F_Ma_runsOf a1 m0 = some (v, m')) : Fr [] [] m0 m' := by
  unfold F_Ma_runsOf at hF
  have hf : Fr [] [] m0 m0 := Fr_rf
  rcases if_ex hF with hF | hF
  · cases hF
    exact hf
  · cases hF
    exact hf
set_option maxHeartbeats 4000000 in
theorem fr_T_match (a1 : Int32) (m0 : Mem) (v : (Nat ⊕ Int32)) (m' : Mem) (hF : F_T_match a1 m0 = some (v, m')) : Fr [] [] m0 m' := by
  unfold F_T_match at hF
  have hf : Fr [] [] m0 m0 := Fr_rf
  rcases if_ex hF with hF | hF
  · cases hF
    exact hf
  · rcases if_ex hF with hF | hF
    · cases hF
      exact hf
    · rcases if_ex hF with hF | hF
      · cases hF
        exact hf
      · rcases if_ex hF with hF | hF
        · obtain ⟨xq3, mq1, hz, hF⟩ := bnd_ex hF
          have hf := Fr_tr hf (fr_Ma_runsOf (0 : Int32) m0 _ _ hz) (by decide) (by decide)
          cases hF
          exact hf
        · rcases if_ex hF with hF | hF
          · obtain ⟨xq6, mq4, hz, hF⟩ := bnd_ex hF
            have hf := Fr_tr hf (fr_Ma_runsOf (1 : Int32) m0 _ _ hz) (by decide) (by decide)
            cases hF
            exact hf
          · rcases if_ex hF with hF | hF
            · obtain ⟨zq9, mq7, hz, hF⟩ := bnd_ex hF
              have hf := Fr_tr hf (fr_Ma_isOn m0 _ _ hz) (by decide) (by decide)
              rcases if_ex hF with hF | hF
              · obtain ⟨xq12, mq10, hz, hF⟩ := bnd_ex hF
                have hf := Fr_tr hf (fr_Ma_batting mq7 _ _ hz) (by decide) (by decide)
                cases hF
                exact hf
              · cases hF
                exact hf
            · rcases if_ex hF with hF | hF
              · cases hF
                exact hf
              · rcases if_ex hF with hF | hF
                · rcases if_ex hF with hF | hF
                  · cases hF
                    exact hf
                  · cases hF
                    exact hf
                · rcases if_ex hF with hF | hF
                  · cases hF
                    exact hf
                  · rcases if_ex hF with hF | hF
                    · obtain ⟨zq15, mq13, hz, hF⟩ := bnd_ex hF
                      have hf := Fr_tr hf (fr_Ma_mayFollow (gI m0 3 4) m0 _ _ hz) (by decide) (by decide)
                      rcases if_ex hF with hF | hF
                      · cases hF
                        exact hf
                      · cases hF
                        exact hf
                    · rcases if_ex hF with hF | hF
                      · rcases if_ex hF with hF | hF
                        · cases hF
                          exact hf
                        · cases hF
                          exact hf
                      · cases hF
                        exact hf
set_option maxHeartbeats 4000000 in
theorem fr_Ma_drawSlot (m0 : Mem) (v : Int32) (m' : Mem) (hF : F_Ma_drawSlot m0 = some (v, m')) : Fr [] [(16, 7)] m0 m' := by
  unfold F_Ma_drawSlot at hF
  have hf : Fr [] [(16, 7)] m0 m0 := Fr_rf
  obtain ⟨xq1, exq1, hF⟩ := lt_ex hF
  obtain ⟨mq2, emq2, hF⟩ := lt_ex hF
  have hf := Fr_sI emq2 hf (Or.inr (by decide))
  obtain ⟨xq3, exq3, hF⟩ := lt_ex hF
  obtain ⟨xq4, exq4, hF⟩ := lt_ex hF
  cases hF
  exact hf
set_option maxHeartbeats 4000000 in
theorem fr_T_seed (a1 : Int32) (m0 : Mem) (v : Int32) (m' : Mem) (hF : F_T_seed a1 m0 = some (v, m')) : Fr [] [(16, 7)] m0 m' := by
  unfold F_T_seed at hF
  have hf : Fr [] [(16, 7)] m0 m0 := Fr_rf
  obtain ⟨xq1, exq1, hF⟩ := lt_ex hF
  obtain ⟨mq2, emq2, hF⟩ := lt_ex hF
  have hf := Fr_sI emq2 hf (Or.inr (by decide))
  cases hF
  exact hf
set_option maxHeartbeats 4000000 in
theorem fr_T_session (a1 : Int32) (a2 : Int32) (m0 : Mem) (v : (Nat ⊕ Int32)) (m' : Mem) (hF : F_T_session a1 a2 m0 = some (v, m')) : Fr [] [] m0 m' := by
  unfold F_T_session at hF
  have hf : Fr [] [] m0 m0 := Fr_rf
  rcases bndX_ex hF with ⟨ke, mq1, hz, hF⟩ | ⟨u_, mq1, hz, hF⟩
  · cases hF
    exact Fr_tr hf (fr_T_mustBeBelow a1 (gI m0 3 0) m0 _ _ hz) (by decide) (by decide)
  · have hf := Fr_tr hf (fr_T_mustBeBelow a1 (gI m0 3 0) m0 _ _ hz) (by decide) (by decide)
    rcases if_ex hF with hF | hF
    · cases hF
      exact hf
    · rcases if_ex hF with hF | hF
      · obtain ⟨xq6, mq4, hz, hF⟩ := bnd_ex hF
        have hf := Fr_tr hf (fr_T_bitOf (gI mq1 3 1) a1 mq1 _ _ hz) (by decide) (by decide)
        cases hF
        exact hf
      · rcases if_ex hF with hF | hF
        · obtain ⟨xq9, mq7, hz, hF⟩ := bnd_ex hF
          have hf := Fr_tr hf (fr_T_bitOf (gI mq1 3 2) a1 mq1 _ _ hz) (by decide) (by decide)
          cases hF
          exact hf
        · rcases if_ex hF with hF | hF
          · obtain ⟨xq12, mq10, hz, hF⟩ := bnd_ex hF
            have hf := Fr_tr hf (fr_T_bitOf (gI mq1 3 3) a1 mq1 _ _ hz) (by decide) (by decide)
            cases hF
            exact hf
          · cases hF
            exact hf
set_option maxHeartbeats 4000000 in
theorem fr_T_share (a1 : Int32) (a2 : Int32) (m0 : Mem) (v : (Nat ⊕ Int32)) (m' : Mem) (hF : F_T_share a1 a2 m0 = some (v, m')) : Fr [] [] m0 m' := by
  unfold F_T_share at hF
  have hf : Fr [] [] m0 m0 := Fr_rf
  obtain ⟨k18_1, ek18_1, hF⟩ := lt_ex hF
  have Jk18_1 : ∀ (mq1 : Mem), Fr [] [] m0 mq1 → k18_1 mq1 = some (v, m') → Fr [] [] m0 m' := by
    intro mq1 hf hF
    rw [ek18_1] at hF
    cases hF
    exact hf
  rcases if_ex hF with hF | hF
  · exact Jk18_1 m0 hf hF
  · rcases if_ex hF with hF | hF
    · exact Jk18_1 m0 hf hF
    · rcases if_ex hF with hF | hF
      · exact Jk18_1 m0 hf hF
      · rcases if_ex hF with hF | hF
        · obtain ⟨xq4, mq2, hz, hF⟩ := bnd_ex hF
          have hf := Fr_tr hf (fr_Bk_tally a2 m0 _ _ hz) (by decide) (by decide)
          rcases if_ex hF with hF | hF
          · obtain ⟨xq7, mq5, hz, hF⟩ := bnd_ex hF
            have hf := Fr_tr hf (fr_Bk_tally a1 mq2 _ _ hz) (by decide) (by decide)
            obtain ⟨-, hF⟩ := ckB_ex hF
            cases hF
            exact hf
          · cases hF
            exact hf
        · exact Jk18_1 m0 hf hF
set_option maxHeartbeats 4000000 in
theorem fr_T_side (a1 : Int32) (a2 : Bool) (m0 : Mem) (v : (Nat ⊕ Int32)) (m' : Mem) (hF : F_T_side a1 a2 m0 = some (v, m')) : Fr [] [] m0 m' := by
  unfold F_T_side at hF
  have hf : Fr [] [] m0 m0 := Fr_rf
  rcases bndX_ex hF with ⟨ke, mq1, hz, hF⟩ | ⟨u_, mq1, hz, hF⟩
  · cases hF
    exact Fr_tr hf (fr_T_mustBeBelow a1 (2 : Int32) m0 _ _ hz) (by decide) (by decide)
  · have hf := Fr_tr hf (fr_T_mustBeBelow a1 (2 : Int32) m0 _ _ hz) (by decide) (by decide)
    rcases if_ex hF with hF | hF
    · obtain ⟨xq9, mq7, hz, hF⟩ := bnd_ex hF
      have hf := Fr_tr hf (fr_Gr_bowlOf a1 mq1 _ _ hz) (by decide) (by decide)
      cases hF
      exact hf
    · obtain ⟨xq6, mq4, hz, hF⟩ := bnd_ex hF
      have hf := Fr_tr hf (fr_Gr_batOf a1 mq1 _ _ hz) (by decide) (by decide)
      cases hF
      exact hf
set_option maxHeartbeats 4000000 in
theorem fr_Mo_swungWith (a1 : Int32) (m0 : Mem) (v : Int32) (m' : Mem) (hF : F_Mo_swungWith a1 m0 = some (v, m')) : Fr [] [] m0 m' := by
  unfold F_Mo_swungWith at hF
  have hf : Fr [] [] m0 m0 := Fr_rf
  rcases if_ex hF with hF | hF
  · cases hF
    exact hf
  · rcases if_ex hF with hF | hF
    · obtain ⟨-, hF⟩ := ckB_ex hF
      obtain ⟨xq2, exq2, hF⟩ := lt_ex hF
      cases hF
      exact hf
    · cases hF
      exact hf
set_option maxHeartbeats 4000000 in
theorem fr_Mo_stillWith (a1 : Int32) (m0 : Mem) (v : Int32) (m' : Mem) (hF : F_Mo_stillWith a1 m0 = some (v, m')) : Fr [] [] m0 m' := by
  unfold F_Mo_stillWith at hF
  have hf : Fr [] [] m0 m0 := Fr_rf
  rcases if_ex hF with hF | hF
  · cases hF
    exact hf
  · rcases if_ex hF with hF | hF
    · obtain ⟨-, hF⟩ := ckB_ex hF
      obtain ⟨xq2, exq2, hF⟩ := lt_ex hF
      cases hF
      exact hf
    · cases hF
      exact hf
set_option maxHeartbeats 4000000 in
theorem fr_T_signs (a1 : Int32) (a2 : Int32) (a3 : Bool) (m0 : Mem) (v : (Nat ⊕ Int32)) (m' : Mem) (hF : F_T_signs a1 a2 a3 m0 = some (v, m')) : Fr [62, 63] [(0, 1)] m0 m' := by
  unfold F_T_signs at hF
  have hf : Fr [62, 63] [(0, 1)] m0 m0 := Fr_rf
  obtain ⟨xq3, mq1, hz, hF⟩ := bnd_ex hF
  have hf := Fr_tr hf (fr_T_useTape m0 _ _ hz) (by decide) (by decide)
  obtain ⟨zq6, mq4, hz, hF⟩ := bnd_ex hF
  have hf := Fr_tr hf (fr_T_tapeIsMornings xq3 mq1 _ _ hz) (by decide) (by decide)
  obtain ⟨k33_7, ek33_7, hF⟩ := lt_ex hF
  have Jk33_7 : ∀ (mq7 : Mem), Fr [62, 63] [(0, 1)] m0 mq7 → k33_7 mq7 = some (v, m') → Fr [62, 63] [(0, 1)] m0 m' := by
    intro mq7 hf hF
    rw [ek33_7] at hF
    cases hF
    exact hf
  rcases if_ex hF with hF | hF
  · rcases if_ex hF with hF | hF
    · exact Jk33_7 mq4 hf hF
    · rcases if_ex hF with hF | hF
      · exact Jk33_7 mq4 hf hF
      · rcases if_ex hF with hF | hF
        · exact Jk33_7 mq4 hf hF
        · rcases if_ex hF with hF | hF
          · obtain ⟨u_, mq8, hz, hF⟩ := bnd_ex hF
            have hf := Fr_tr hf (fr_Mo_sort xq3 a1 a1 mq4 _ _ hz) (by decide) (by decide)
            obtain ⟨xq13, mq11, hz, hF⟩ := bnd_ex hF
            have hf := Fr_tr hf (fr_Mo_swungWith a2 mq8 _ _ hz) (by decide) (by decide)
            obtain ⟨k83_15, ek83_15, hF⟩ := lt_ex hF
            have Jk83_15 : ∀ (xq15 : Int32) (mq14 : Mem), Fr [62, 63] [(0, 1)] m0 mq14 → k83_15 xq15 mq14 = some (v, m') → Fr [62, 63] [(0, 1)] m0 m' := by
              intro xq15 mq14 hf hF
              rw [ek83_15] at hF
              cases hF
              exact hf
            rcases if_ex hF with hF | hF
            · exact Jk83_15 (0 : Int32) mq11 hf hF
            · obtain ⟨xq18, mq16, hz, hF⟩ := bnd_ex hF
              have hf := Fr_tr hf (fr_Mo_stillWith a2 mq11 _ _ hz) (by decide) (by decide)
              exact Jk83_15 xq18 mq16 hf hF
          · exact Jk33_7 mq4 hf hF
  · exact Jk33_7 mq4 hf hF
set_option maxHeartbeats 4000000 in
theorem fr_T_slot (a1 : Int32) (a2 : Int32) (a3 : Bool) (m0 : Mem) (v : (Nat ⊕ Int32)) (m' : Mem) (hF : F_T_slot a1 a2 a3 m0 = some (v, m')) : Fr [] [] m0 m' := by
  unfold F_T_slot at hF
  have hf : Fr [] [] m0 m0 := Fr_rf
  rcases bndX_ex hF with ⟨ke, mq1, hz, hF⟩ | ⟨u_, mq1, hz, hF⟩
  · cases hF
    exact Fr_tr hf (fr_T_mustBeBelow a1 (4 : Int32) m0 _ _ hz) (by decide) (by decide)
  · have hf := Fr_tr hf (fr_T_mustBeBelow a1 (4 : Int32) m0 _ _ hz) (by decide) (by decide)
    rcases bndX_ex hF with ⟨ke, mq4, hz, hF⟩ | ⟨u_, mq4, hz, hF⟩
    · cases hF
      exact Fr_tr hf (fr_T_mustBeBelow a2 (4 : Int32) mq1 _ _ hz) (by decide) (by decide)
    · have hf := Fr_tr hf (fr_T_mustBeBelow a2 (4 : Int32) mq1 _ _ hz) (by decide) (by decide)
      rcases if_ex hF with hF | hF
      · obtain ⟨xq12, mq10, hz, hF⟩ := bnd_ex hF
        have hf := Fr_tr hf (fr_Gr_outsOf a1 a2 mq4 _ _ hz) (by decide) (by decide)
        cases hF
        exact hf
      · obtain ⟨xq9, mq7, hz, hF⟩ := bnd_ex hF
        have hf := Fr_tr hf (fr_Gr_runsOf a1 a2 mq4 _ _ hz) (by decide) (by decide)
        cases hF
        exact hf
set_option maxHeartbeats 4000000 in
theorem fr_Bk_longestRun_L7 (a1 : Int32) (mB : Mem) (v : Int32) (m' : Mem) : ∀ (nf : Nat) (xq2 : Int32) (xq3 : Int32) (xq4 : Int32) (mq1 : Mem), Fr [] [] mB mq1 → F_Bk_longestRun_L7 a1 nf xq2 xq3 xq4 mq1 = some (v, m') → Fr [] [] mB m' := by
  intro nf
  induction nf with
  | zero =>
    intro xq2 xq3 xq4 mq1 hf hF
    rw [F_Bk_longestRun_L7] at hF
    cases hF
  | succ nfq5 ih =>
    intro xq2 xq3 xq4 mq1 hf hF
    rw [F_Bk_longestRun_L7] at hF
    rcases if_ex hF with hF | hF
    · cases hF
      exact hf
    · obtain ⟨zq9, mq7, hz, hF⟩ := bnd_ex hF
      have hf := Fr_tr hf (fr_Bk_isSo xq4 a1 mq1 _ _ hz) (by decide) (by decide)
      obtain ⟨k33_11, ek33_11, hF⟩ := lt_ex hF
      have Jk33_11 : ∀ (xq11 : Int32) (mq10 : Mem), Fr [] [] mB mq10 → k33_11 xq11 mq10 = some (v, m') → Fr [] [] mB m' := by
        intro xq11 mq10 hf hF
        rw [ek33_11] at hF
        obtain ⟨xq12, exq12, hF⟩ := lt_ex hF
        obtain ⟨xq13, exq13, hF⟩ := lt_ex hF
        exact ih xq12 xq11 xq13 mq10 hf hF
      rcases if_ex hF with hF | hF
      · exact Jk33_11 (xq3 + (1 : Int32)) mq7 hf hF
      · exact Jk33_11 (0 : Int32) mq7 hf hF
set_option maxHeartbeats 4000000 in
theorem fr_Bk_longestRun (a1 : Int32) (m0 : Mem) (v : Int32) (m' : Mem) (hF : F_Bk_longestRun a1 m0 = some (v, m')) : Fr [] [] m0 m' := by
  unfold F_Bk_longestRun at hF
  have hf : Fr [] [] m0 m0 := Fr_rf
  exact fr_Bk_longestRun_L7 a1 m0 _ _  1000000 (0 : Int32) (0 : Int32) (0 : Int32) m0 hf hF
set_option maxHeartbeats 4000000 in
theorem fr_T_streak (a1 : Int32) (m0 : Mem) (v : (Nat ⊕ Int32)) (m' : Mem) (hF : F_T_streak a1 m0 = some (v, m')) : Fr [] [] m0 m' := by
  unfold F_T_streak at hF
  have hf : Fr [] [] m0 m0 := Fr_rf
  obtain ⟨k9_1, ek9_1, hF⟩ := lt_ex hF
  have Jk9_1 : ∀ (mq1 : Mem), Fr [] [] m0 mq1 → k9_1 mq1 = some (v, m') → Fr [] [] m0 m' := by
    intro mq1 hf hF
    rw [ek9_1] at hF
    cases hF
    exact hf
  rcases if_ex hF with hF | hF
  · exact Jk9_1 m0 hf hF
  · rcases if_ex hF with hF | hF
    · obtain ⟨xq4, mq2, hz, hF⟩ := bnd_ex hF
      have hf := Fr_tr hf (fr_Bk_longestRun (a1 + (3 : Int32)) m0 _ _ hz) (by decide) (by decide)
      cases hF
      exact hf
    · exact Jk9_1 m0 hf hF
set_option maxHeartbeats 4000000 in
theorem fr_Ma_copyFrom_4_L82  (mB : Mem) (v : Unit) (m' : Mem) : ∀ (nf : Nat) (xq12 : Int32) (mq11 : Mem), Fr [19] [(18, 0), (18, 1), (18, 2), (18, 3), (18, 4), (18, 5), (18, 6), (18, 7), (18, 8), (18, 9)] mB mq11 → F_Ma_copyFrom_4_L82  nf xq12 mq11 = some (v, m') → Fr [19] [(18, 0), (18, 1), (18, 2), (18, 3), (18, 4), (18, 5), (18, 6), (18, 7), (18, 8), (18, 9)] mB m' := by
  intro nf
  induction nf with
  | zero =>
    intro xq12 mq11 hf hF
    rw [F_Ma_copyFrom_4_L82] at hF
    cases hF
  | succ nfq13 ih =>
    intro xq12 mq11 hf hF
    rw [F_Ma_copyFrom_4_L82] at hF
    rcases if_ex hF with hF | hF
    · cases hF
      exact hf
    · obtain ⟨-, hF⟩ := ckB_ex hF
      obtain ⟨xq16, exq16, hF⟩ := lt_ex hF
      obtain ⟨-, hF⟩ := ckB_ex hF
      obtain ⟨mq17, emq17, hF⟩ := lt_ex hF
      have hf := Fr_sI emq17 hf (Or.inl (by decide))
      obtain ⟨xq19, exq19, hF⟩ := lt_ex hF
      exact ih xq19 mq17 hf hF
set_option maxHeartbeats 4000000 in
theorem fr_Ma_copyFrom_4 (m0 : Mem) (v : Unit) (m' : Mem) (hF : F_Ma_copyFrom_4 m0 = some (v, m')) : Fr [19] [(18, 0), (18, 1), (18, 2), (18, 3), (18, 4), (18, 5), (18, 6), (18, 7), (18, 8), (18, 9)] m0 m' := by
  unfold F_Ma_copyFrom_4 at hF
  have hf : Fr [19] [(18, 0), (18, 1), (18, 2), (18, 3), (18, 4), (18, 5), (18, 6), (18, 7), (18, 8), (18, 9)] m0 m0 := Fr_rf
  obtain ⟨mq1, emq1, hF⟩ := lt_ex hF
  have hf := Fr_sI emq1 hf (Or.inr (by decide))
  obtain ⟨mq2, emq2, hF⟩ := lt_ex hF
  have hf := Fr_sI emq2 hf (Or.inr (by decide))
  obtain ⟨mq3, emq3, hF⟩ := lt_ex hF
  have hf := Fr_sI emq3 hf (Or.inr (by decide))
  obtain ⟨mq4, emq4, hF⟩ := lt_ex hF
  have hf := Fr_sI emq4 hf (Or.inr (by decide))
  obtain ⟨mq5, emq5, hF⟩ := lt_ex hF
  have hf := Fr_sI emq5 hf (Or.inr (by decide))
  obtain ⟨mq6, emq6, hF⟩ := lt_ex hF
  have hf := Fr_sZ emq6 hf (Or.inr (by decide))
  obtain ⟨mq7, emq7, hF⟩ := lt_ex hF
  have hf := Fr_sZ emq7 hf (Or.inr (by decide))
  obtain ⟨mq8, emq8, hF⟩ := lt_ex hF
  have hf := Fr_sI emq8 hf (Or.inr (by decide))
  obtain ⟨mq9, emq9, hF⟩ := lt_ex hF
  have hf := Fr_sI emq9 hf (Or.inr (by decide))
  obtain ⟨mq10, emq10, hF⟩ := lt_ex hF
  have hf := Fr_sI emq10 hf (Or.inr (by decide))
  exact fr_Ma_copyFrom_4_L82  m0 _ _  1000000 (0 : Int32) mq10 hf hF
set_option maxHeartbeats 4000000 in
theorem fr_Ma_isOn_2 (m0 : Mem) (v : Bool) (m' : Mem) (hF : F_Ma_isOn_2 m0 = some (v, m')) : Fr [] [] m0 m' := by
  unfold F_Ma_isOn_2 at hF
  have hf : Fr [] [] m0 m0 := Fr_rf
  rcases if_ex hF with hF | hF
  · cases hF
    exact hf
  · rcases if_ex hF with hF | hF
    · cases hF
      exact hf
    · cases hF
      exact hf
set_option maxHeartbeats 4000000 in
theorem fr_Ma_kind_2 (m0 : Mem) (v : Int32) (m' : Mem) (hF : F_Ma_kind_2 m0 = some (v, m')) : Fr [] [] m0 m' := by
  unfold F_Ma_kind_2 at hF
  have hf : Fr [] [] m0 m0 := Fr_rf
  obtain ⟨xq3, mq1, hz, hF⟩ := bnd_ex hF
  have hf := Fr_tr hf (fr_Od_kindOf (gI m0 18 1) (gZ m0 18 5) m0 _ _ hz) (by decide) (by decide)
  cases hF
  exact hf
set_option maxHeartbeats 4000000 in
theorem fr_Ma_batting_2 (m0 : Mem) (v : Int32) (m' : Mem) (hF : F_Ma_batting_2 m0 = some (v, m')) : Fr [] [] m0 m' := by
  unfold F_Ma_batting_2 at hF
  have hf : Fr [] [] m0 m0 := Fr_rf
  obtain ⟨xq3, mq1, hz, hF⟩ := bnd_ex hF
  have hf := Fr_tr hf (fr_Ma_kind_2 m0 _ _ hz) (by decide) (by decide)
  obtain ⟨zq6, mq4, hz, hF⟩ := bnd_ex hF
  have hf := Fr_tr hf (fr_Od_firstBats xq3 mq1 _ _ hz) (by decide) (by decide)
  rcases if_ex hF with hF | hF
  · cases hF
    exact hf
  · cases hF
    exact hf
set_option maxHeartbeats 4000000 in
theorem fr_Ma_setLog_2 (a1 : Int32) (a2 : Int32) (m0 : Mem) (v : Unit) (m' : Mem) (hF : F_Ma_setLog_2 a1 a2 m0 = some (v, m')) : Fr [19] [] m0 m' := by
  unfold F_Ma_setLog_2 at hF
  have hf : Fr [19] [] m0 m0 := Fr_rf
  obtain ⟨xq1, exq1, hF⟩ := lt_ex hF
  rcases if_ex hF with hF | hF
  · cases hF
    exact hf
  · rcases if_ex hF with hF | hF
    · cases hF
      exact hf
    · obtain ⟨-, hF⟩ := ckB_ex hF
      obtain ⟨mq2, emq2, hF⟩ := lt_ex hF
      have hf := Fr_sI emq2 hf (Or.inl (by decide))
      cases hF
      exact hf
set_option maxHeartbeats 4000000 in
theorem fr_Ma_leadOf_2 (a1 : Int32) (m0 : Mem) (v : Int32) (m' : Mem) (hF : F_Ma_leadOf_2 a1 m0 = some (v, m')) : Fr [] [] m0 m' := by
  unfold F_Ma_leadOf_2 at hF
  have hf : Fr [] [] m0 m0 := Fr_rf
  rcases if_ex hF with hF | hF
  · cases hF
    exact hf
  · cases hF
    exact hf
set_option maxHeartbeats 4000000 in
theorem fr_Ma_judge_2 (a1 : Int32) (m0 : Mem) (v : Unit) (m' : Mem) (hF : F_Ma_judge_2 a1 m0 = some (v, m')) : Fr [] [(18, 4)] m0 m' := by
  unfold F_Ma_judge_2 at hF
  have hf : Fr [] [(18, 4)] m0 m0 := Fr_rf
  obtain ⟨xq3, mq1, hz, hF⟩ := bnd_ex hF
  have hf := Fr_tr hf (fr_Ma_batting_2 m0 _ _ hz) (by decide) (by decide)
  obtain ⟨k29_4, ek29_4, hF⟩ := lt_ex hF
  have Jk29_4 : ∀ (mq4 : Mem), Fr [] [(18, 4)] m0 mq4 → k29_4 mq4 = some (v, m') → Fr [] [(18, 4)] m0 m' := by
    intro mq4 hf hF
    rw [ek29_4] at hF
    obtain ⟨k68_5, ek68_5, hF⟩ := lt_ex hF
    have Jk68_5 : ∀ (mq5 : Mem), Fr [] [(18, 4)] m0 mq5 → k68_5 mq5 = some (v, m') → Fr [] [(18, 4)] m0 m' := by
      intro mq5 hf hF
      rw [ek68_5] at hF
      rcases if_ex hF with hF | hF
      · cases hF
        exact hf
      · obtain ⟨mq6, emq6, hF⟩ := lt_ex hF
        have hf := Fr_sI emq6 hf (Or.inr (by decide))
        cases hF
        exact hf
    rcases if_ex hF with hF | hF
    · rcases if_ex hF with hF | hF
      · obtain ⟨xq9, mq7, hz, hF⟩ := bnd_ex hF
        have hf := Fr_tr hf (fr_Ma_leadOf_2 xq3 mq4 _ _ hz) (by decide) (by decide)
        obtain ⟨k62_11, ek62_11, hF⟩ := lt_ex hF
        have Jk62_11 : ∀ (xq11 : Int32) (mq10 : Mem), Fr [] [(18, 4)] m0 mq10 → k62_11 xq11 mq10 = some (v, m') → Fr [] [(18, 4)] m0 m' := by
          intro xq11 mq10 hf hF
          rw [ek62_11] at hF
          obtain ⟨mq12, emq12, hF⟩ := lt_ex hF
          have hf := Fr_sI emq12 hf (Or.inr (by decide))
          cases hF
          exact hf
        rcases if_ex hF with hF | hF
        · exact Jk62_11 (2 : Int32) mq7 hf hF
        · exact Jk62_11 ((1 : Int32) - xq3) mq7 hf hF
      · exact Jk68_5 mq4 hf hF
    · exact Jk68_5 mq4 hf hF
  rcases if_ex hF with hF | hF
  · obtain ⟨xq15, mq13, hz, hF⟩ := bnd_ex hF
    have hf := Fr_tr hf (fr_Ma_leadOf_2 xq3 mq1 _ _ hz) (by decide) (by decide)
    rcases if_ex hF with hF | hF
    · exact Jk29_4 mq13 hf hF
    · obtain ⟨mq16, emq16, hF⟩ := lt_ex hF
      have hf := Fr_sI emq16 hf (Or.inr (by decide))
      cases hF
      exact hf
  · exact Jk29_4 mq1 hf hF
set_option maxHeartbeats 4000000 in
theorem fr_Ma_beginNext_2 (m0 : Mem) (v : Unit) (m' : Mem) (hF : F_Ma_beginNext_2 m0 = some (v, m')) : Fr [] [(18, 1), (18, 2), (18, 6)] m0 m' := by
  unfold F_Ma_beginNext_2 at hF
  have hf : Fr [] [(18, 1), (18, 2), (18, 6)] m0 m0 := Fr_rf
  obtain ⟨mq1, emq1, hF⟩ := lt_ex hF
  have hf := Fr_sI emq1 hf (Or.inr (by decide))
  obtain ⟨mq2, emq2, hF⟩ := lt_ex hF
  have hf := Fr_sI emq2 hf (Or.inr (by decide))
  obtain ⟨mq3, emq3, hF⟩ := lt_ex hF
  have hf := Fr_sZ emq3 hf (Or.inr (by decide))
  cases hF
  exact hf
set_option maxHeartbeats 4000000 in
theorem fr_Ma_playSession_2 (a2 : Int32) (a3 : Bool) (m0 : Mem) (v : Unit) (m' : Mem) (hF : F_Ma_playSession_2 a2 a3 m0 = some (v, m')) : Fr [10, 11, 14, 19] [(18, 1), (18, 2), (18, 3), (18, 4), (18, 6), (18, 8), (18, 9)] m0 m' := by
  unfold F_Ma_playSession_2 at hF
  have hf : Fr [10, 11, 14, 19] [(18, 1), (18, 2), (18, 3), (18, 4), (18, 6), (18, 8), (18, 9)] m0 m0 := Fr_rf
  obtain ⟨xq3, mq1, hz, hF⟩ := bnd_ex hF
  have hf := Fr_tr hf (fr_Ma_batting_2 m0 _ _ hz) (by decide) (by decide)
  obtain ⟨xq6, mq4, hz, hF⟩ := bnd_ex hF
  have hf := Fr_tr hf (fr_Gr_levelOf (gI mq1 18 3) (gI mq1 18 1) xq3 mq1 _ _ hz) (by decide) (by decide)
  obtain ⟨k41_8, ek41_8, hF⟩ := lt_ex hF
  have Jk41_8 : ∀ (xq8 : Int32) (mq7 : Mem), Fr [10, 11, 14, 19] [(18, 1), (18, 2), (18, 3), (18, 4), (18, 6), (18, 8), (18, 9)] m0 mq7 → k41_8 xq8 mq7 = some (v, m') → Fr [10, 11, 14, 19] [(18, 1), (18, 2), (18, 3), (18, 4), (18, 6), (18, 8), (18, 9)] m0 m' := by
    intro xq8 mq7 hf hF
    rw [ek41_8] at hF
    obtain ⟨xq11, mq9, hz, hF⟩ := bnd_ex hF
    have hf := Fr_tr hf (fr_Gr_outsIn (gI mq7 18 3) xq6 a2 mq7 _ _ hz) (by decide) (by decide)
    obtain ⟨k70_13, ek70_13, hF⟩ := lt_ex hF
    have Jk70_13 : ∀ (xq13 : Int32) (mq12 : Mem), Fr [10, 11, 14, 19] [(18, 1), (18, 2), (18, 3), (18, 4), (18, 6), (18, 8), (18, 9)] m0 mq12 → k70_13 xq13 mq12 = some (v, m') → Fr [10, 11, 14, 19] [(18, 1), (18, 2), (18, 3), (18, 4), (18, 6), (18, 8), (18, 9)] m0 m' := by
      intro xq13 mq12 hf hF
      rw [ek70_13] at hF
      obtain ⟨k100_14, ek100_14, hF⟩ := lt_ex hF
      have Jk100_14 : ∀ (mq14 : Mem), Fr [10, 11, 14, 19] [(18, 1), (18, 2), (18, 3), (18, 4), (18, 6), (18, 8), (18, 9)] m0 mq14 → k100_14 mq14 = some (v, m') → Fr [10, 11, 14, 19] [(18, 1), (18, 2), (18, 3), (18, 4), (18, 6), (18, 8), (18, 9)] m0 m' := by
        intro mq14 hf hF
        rw [ek100_14] at hF
        obtain ⟨mq15, emq15, hF⟩ := lt_ex hF
        have hf := Fr_sI emq15 hf (Or.inr (by decide))
        obtain ⟨mq16, emq16, hF⟩ := lt_ex hF
        have hf := Fr_sZ emq16 hf (Or.inr (by decide))
        obtain ⟨u_, mq17, hz, hF⟩ := bnd_ex hF
        have hf := Fr_tr hf (fr_Ma_setLog_2 (0 : Int32) (gI mq16 18 1) mq16 _ _ hz) (by decide) (by decide)
        obtain ⟨u_, mq20, hz, hF⟩ := bnd_ex hF
        have hf := Fr_tr hf (fr_Ma_setLog_2 (1 : Int32) xq3 mq17 _ _ hz) (by decide) (by decide)
        obtain ⟨u_, mq23, hz, hF⟩ := bnd_ex hF
        have hf := Fr_tr hf (fr_Ma_setLog_2 (2 : Int32) xq6 mq20 _ _ hz) (by decide) (by decide)
        obtain ⟨u_, mq26, hz, hF⟩ := bnd_ex hF
        have hf := Fr_tr hf (fr_Ma_setLog_2 (3 : Int32) a2 mq23 _ _ hz) (by decide) (by decide)
        obtain ⟨xq31, mq29, hz, hF⟩ := bnd_ex hF
        have hf := Fr_tr hf (fr_Ma_leadOf_2 xq3 mq26 _ _ hz) (by decide) (by decide)
        obtain ⟨u_, mq32, hz, hF⟩ := bnd_ex hF
        have hf := Fr_tr hf (fr_Ma_setLog_2 (4 : Int32) xq31 mq29 _ _ hz) (by decide) (by decide)
        obtain ⟨u_, mq35, hz, hF⟩ := bnd_ex hF
        have hf := Fr_tr hf (fr_Ma_setLog_2 (5 : Int32) (gI mq32 18 2) mq32 _ _ hz) (by decide) (by decide)
        obtain ⟨u_, mq38, hz, hF⟩ := bnd_ex hF
        have hf := Fr_tr hf (fr_Ma_setLog_2 (6 : Int32) xq8 mq35 _ _ hz) (by decide) (by decide)
        obtain ⟨mq41, emq41, hF⟩ := lt_ex hF
        have hf := Fr_sI emq41 hf (Or.inr (by decide))
        obtain ⟨k209_42, ek209_42, hF⟩ := lt_ex hF
        have Jk209_42 : ∀ (mq42 : Mem), Fr [10, 11, 14, 19] [(18, 1), (18, 2), (18, 3), (18, 4), (18, 6), (18, 8), (18, 9)] m0 mq42 → k209_42 mq42 = some (v, m') → Fr [10, 11, 14, 19] [(18, 1), (18, 2), (18, 3), (18, 4), (18, 6), (18, 8), (18, 9)] m0 m' := by
          intro mq42 hf hF
          rw [ek209_42] at hF
          obtain ⟨u_, mq43, hz, hF⟩ := bnd_ex hF
          have hf := Fr_tr hf (fr_Ma_judge_2 (gI mq42 3 0) mq42 _ _ hz) (by decide) (by decide)
          cases hF
          exact hf
        rcases if_ex hF with hF | hF
        · rcases if_ex hF with hF | hF
          · exact Jk209_42 mq41 hf hF
          · obtain ⟨u_, mq46, hz, hF⟩ := bnd_ex hF
            have hf := Fr_tr hf (fr_Ma_beginNext_2 mq41 _ _ hz) (by decide) (by decide)
            exact Jk209_42 mq46 hf hF
        · exact Jk209_42 mq41 hf hF
      rcases if_ex hF with hF | hF
      · obtain ⟨mq50, emq50, hF⟩ := lt_ex hF
        have hf := Fr_sI emq50 hf (Or.inr (by decide))
        exact Jk100_14 mq50 hf hF
      · obtain ⟨mq49, emq49, hF⟩ := lt_ex hF
        have hf := Fr_sI emq49 hf (Or.inr (by decide))
        exact Jk100_14 mq49 hf hF
    rcases if_ex hF with hF | hF
    · obtain ⟨xq51, exq51, hF⟩ := lt_ex hF
      exact Jk70_13 xq51 mq9 hf hF
    · exact Jk70_13 xq11 mq9 hf hF
  rcases if_ex hF with hF | hF
  · exact Jk41_8 (0 : Int32) mq4 hf hF
  · obtain ⟨xq54, mq52, hz, hF⟩ := bnd_ex hF
    have hf := Fr_tr hf (fr_Gr_runsIn (gI mq4 18 3) xq6 a2 mq4 _ _ hz) (by decide) (by decide)
    exact Jk41_8 xq54 mq52 hf hF
set_option maxHeartbeats 4000000 in
theorem fr_T_swing_L61 (xq3 : Int32) (k107_14 : Mem → Option ((Nat ⊕ Int32) × Mem)) (mB : Mem) (v : (Nat ⊕ Int32)) (m' : Mem) (Jk107_14 : ∀ (b0 : Mem), Fr [10, 11, 14, 19] [(0, 1), (18, 0), (18, 1), (18, 2), (18, 3), (18, 4), (18, 5), (18, 6), (18, 7), (18, 8), (18, 9)] mB b0 → k107_14 b0 = some (v, m') → Fr [10, 11, 14, 19] [(0, 1), (18, 0), (18, 1), (18, 2), (18, 3), (18, 4), (18, 5), (18, 6), (18, 7), (18, 8), (18, 9)] mB m') : ∀ (nf : Nat) (xq16 : Int32) (mq15 : Mem), Fr [10, 11, 14, 19] [(0, 1), (18, 0), (18, 1), (18, 2), (18, 3), (18, 4), (18, 5), (18, 6), (18, 7), (18, 8), (18, 9)] mB mq15 → F_T_swing_L61 xq3 k107_14 nf xq16 mq15 = some (v, m') → Fr [10, 11, 14, 19] [(0, 1), (18, 0), (18, 1), (18, 2), (18, 3), (18, 4), (18, 5), (18, 6), (18, 7), (18, 8), (18, 9)] mB m' := by
  intro nf
  induction nf with
  | zero =>
    intro xq16 mq15 hf hF
    rw [F_T_swing_L61] at hF
    cases hF
  | succ nfq17 ih =>
    intro xq16 mq15 hf hF
    rw [F_T_swing_L61] at hF
    rcases if_ex hF with hF | hF
    · exact Jk107_14 mq15 hf hF
    · rcases if_ex hF with hF | hF
      · exact Jk107_14 mq15 hf hF
      · obtain ⟨zq21, mq19, hz, hF⟩ := bnd_ex hF
        have hf := Fr_tr hf (fr_Ma_isOn_2 mq15 _ _ hz) (by decide) (by decide)
        obtain ⟨k101_22, ek101_22, hF⟩ := lt_ex hF
        have Jk101_22 : ∀ (mq22 : Mem), Fr [10, 11, 14, 19] [(0, 1), (18, 0), (18, 1), (18, 2), (18, 3), (18, 4), (18, 5), (18, 6), (18, 7), (18, 8), (18, 9)] mB mq22 → k101_22 mq22 = some (v, m') → Fr [10, 11, 14, 19] [(0, 1), (18, 0), (18, 1), (18, 2), (18, 3), (18, 4), (18, 5), (18, 6), (18, 7), (18, 8), (18, 9)] mB m' := by
          intro mq22 hf hF
          rw [ek101_22] at hF
          obtain ⟨xq23, exq23, hF⟩ := lt_ex hF
          exact ih xq23 mq22 hf hF
        rcases if_ex hF with hF | hF
        · obtain ⟨-, hF⟩ := ckB_ex hF
          obtain ⟨xq25, exq25, hF⟩ := lt_ex hF
          obtain ⟨u_, mq26, hz, hF⟩ := bnd_ex hF
          have hf := Fr_tr hf (fr_Ma_playSession_2 xq25 false mq19 _ _ hz) (by decide) (by decide)
          exact Jk101_22 mq26 hf hF
        · exact Jk101_22 mq19 hf hF
set_option maxHeartbeats 4000000 in
theorem fr_T_swing (m0 : Mem) (v : (Nat ⊕ Int32)) (m' : Mem) (hF : F_T_swing m0 = some (v, m')) : Fr [10, 11, 14, 19] [(0, 1), (18, 0), (18, 1), (18, 2), (18, 3), (18, 4), (18, 5), (18, 6), (18, 7), (18, 8), (18, 9)] m0 m' := by
  unfold F_T_swing at hF
  have hf : Fr [10, 11, 14, 19] [(0, 1), (18, 0), (18, 1), (18, 2), (18, 3), (18, 4), (18, 5), (18, 6), (18, 7), (18, 8), (18, 9)] m0 m0 := Fr_rf
  obtain ⟨xq3, mq1, hz, hF⟩ := bnd_ex hF
  have hf := Fr_tr hf (fr_T_useTape m0 _ _ hz) (by decide) (by decide)
  rcases bndX_ex hF with ⟨ke, mq4, hz, hF⟩ | ⟨u_, mq4, hz, hF⟩
  · cases hF
    exact Fr_tr hf (fr_T_mustBeOn mq1 _ _ hz) (by decide) (by decide)
  · have hf := Fr_tr hf (fr_T_mustBeOn mq1 _ _ hz) (by decide) (by decide)
    obtain ⟨k37_7, ek37_7, hF⟩ := lt_ex hF
    have Jk37_7 : ∀ (mq7 : Mem), Fr [10, 11, 14, 19] [(0, 1), (18, 0), (18, 1), (18, 2), (18, 3), (18, 4), (18, 5), (18, 6), (18, 7), (18, 8), (18, 9)] m0 mq7 → k37_7 mq7 = some (v, m') → Fr [10, 11, 14, 19] [(0, 1), (18, 0), (18, 1), (18, 2), (18, 3), (18, 4), (18, 5), (18, 6), (18, 7), (18, 8), (18, 9)] m0 m' := by
      intro mq7 hf hF
      rw [ek37_7] at hF
      cases hF
      exact hf
    rcases if_ex hF with hF | hF
    · obtain ⟨zq10, mq8, hz, hF⟩ := bnd_ex hF
      have hf := Fr_tr hf (fr_T_tapeIsBelow xq3 (4 : Int32) mq4 _ _ hz) (by decide) (by decide)
      rcases if_ex hF with hF | hF
      · obtain ⟨u_, mq11, hz, hF⟩ := bnd_ex hF
        have hf := Fr_tr hf (fr_Ma_copyFrom_4 mq8 _ _ hz) (by decide) (by decide)
        obtain ⟨k107_14, ek107_14, hF⟩ := lt_ex hF
        have Jk107_14 : ∀ (mq14 : Mem), Fr [10, 11, 14, 19] [(0, 1), (18, 0), (18, 1), (18, 2), (18, 3), (18, 4), (18, 5), (18, 6), (18, 7), (18, 8), (18, 9)] m0 mq14 → k107_14 mq14 = some (v, m') → Fr [10, 11, 14, 19] [(0, 1), (18, 0), (18, 1), (18, 2), (18, 3), (18, 4), (18, 5), (18, 6), (18, 7), (18, 8), (18, 9)] m0 m' := by
          intro mq14 hf hF
          rw [ek107_14] at hF
          cases hF
          exact hf
        exact fr_T_swing_L61 xq3 k107_14 m0 _ _ Jk107_14 1000000 (0 : Int32) mq11 hf hF
      · exact Jk37_7 mq8 hf hF
    · exact Jk37_7 mq4 hf hF
set_option maxHeartbeats 4000000 in
theorem fr_T_table_L42 (a1 : Int32) (a4 : Bool) (xq12 : Int32) (mB : Mem) (v : (Nat ⊕ Int32)) (m' : Mem) : ∀ (nf : Nat) (xq14 : Int32) (xq15 : Int32) (mq13 : Mem), Fr [10, 11, 14] [] mB mq13 → F_T_table_L42 a1 a4 xq12 nf xq14 xq15 mq13 = some (v, m') → Fr [10, 11, 14] [] mB m' := by
  intro nf
  induction nf with
  | zero =>
    intro xq14 xq15 mq13 hf hF
    rw [F_T_table_L42] at hF
    cases hF
  | succ nfq16 ih =>
    intro xq14 xq15 mq13 hf hF
    rw [F_T_table_L42] at hF
    rcases if_ex hF with hF | hF
    · cases hF
      exact hf
    · obtain ⟨k82_19, ek82_19, hF⟩ := lt_ex hF
      have Jk82_19 : ∀ (xq19 : Int32) (mq18 : Mem), Fr [10, 11, 14] [] mB mq18 → k82_19 xq19 mq18 = some (v, m') → Fr [10, 11, 14] [] mB m' := by
        intro xq19 mq18 hf hF
        rw [ek82_19] at hF
        obtain ⟨xq20, exq20, hF⟩ := lt_ex hF
        obtain ⟨xq21, exq21, hF⟩ := lt_ex hF
        exact ih xq20 xq21 mq18 hf hF
      rcases if_ex hF with hF | hF
      · obtain ⟨xq27, mq25, hz, hF⟩ := bnd_ex hF
        have hf := Fr_tr hf (fr_Gr_outsIn a1 xq12 xq15 mq13 _ _ hz) (by decide) (by decide)
        exact Jk82_19 xq27 mq25 hf hF
      · obtain ⟨xq24, mq22, hz, hF⟩ := bnd_ex hF
        have hf := Fr_tr hf (fr_Gr_runsIn a1 xq12 xq15 mq13 _ _ hz) (by decide) (by decide)
        exact Jk82_19 xq24 mq22 hf hF
set_option maxHeartbeats 4000000 in
theorem fr_T_table (a1 : Int32) (a2 : Int32) (a3 : Int32) (a4 : Bool) (m0 : Mem) (v : (Nat ⊕ Int32)) (m' : Mem) (hF : F_T_table a1 a2 a3 a4 m0 = some (v, m')) : Fr [10, 11, 14] [] m0 m' := by
  unfold F_T_table at hF
  have hf : Fr [10, 11, 14] [] m0 m0 := Fr_rf
  rcases bndX_ex hF with ⟨ke, mq1, hz, hF⟩ | ⟨u_, mq1, hz, hF⟩
  · cases hF
    exact Fr_tr hf (fr_T_mustBeBelow a1 (gI m0 3 0) m0 _ _ hz) (by decide) (by decide)
  · have hf := Fr_tr hf (fr_T_mustBeBelow a1 (gI m0 3 0) m0 _ _ hz) (by decide) (by decide)
    rcases bndX_ex hF with ⟨ke, mq4, hz, hF⟩ | ⟨u_, mq4, hz, hF⟩
    · cases hF
      exact Fr_tr hf (fr_T_mustBeBelow a2 (4 : Int32) mq1 _ _ hz) (by decide) (by decide)
    · have hf := Fr_tr hf (fr_T_mustBeBelow a2 (4 : Int32) mq1 _ _ hz) (by decide) (by decide)
      rcases bndX_ex hF with ⟨ke, mq7, hz, hF⟩ | ⟨u_, mq7, hz, hF⟩
      · cases hF
        exact Fr_tr hf (fr_T_mustBeBelow a3 (2 : Int32) mq4 _ _ hz) (by decide) (by decide)
      · have hf := Fr_tr hf (fr_T_mustBeBelow a3 (2 : Int32) mq4 _ _ hz) (by decide) (by decide)
        obtain ⟨xq12, mq10, hz, hF⟩ := bnd_ex hF
        have hf := Fr_tr hf (fr_Gr_levelOf a1 a2 a3 mq7 _ _ hz) (by decide) (by decide)
        exact fr_T_table_L42 a1 a4 xq12 m0 _ _  1000000 (0 : Int32) (0 : Int32) mq10 hf hF
set_option maxHeartbeats 4000000 in
theorem fr_T_target (a1 : Bool) (m0 : Mem) (v : (Nat ⊕ Int32)) (m' : Mem) (hF : F_T_target a1 m0 = some (v, m')) : Fr [] [] m0 m' := by
  unfold F_T_target at hF
  have hf : Fr [] [] m0 m0 := Fr_rf
  rcases bndX_ex hF with ⟨ke, mq1, hz, hF⟩ | ⟨u_, mq1, hz, hF⟩
  · cases hF
    exact Fr_tr hf (fr_T_mustBeChase m0 _ _ hz) (by decide) (by decide)
  · have hf := Fr_tr hf (fr_T_mustBeChase m0 _ _ hz) (by decide) (by decide)
    obtain ⟨xq6, mq4, hz, hF⟩ := bnd_ex hF
    have hf := Fr_tr hf (fr_Ma_batting mq1 _ _ hz) (by decide) (by decide)
    obtain ⟨xq9, mq7, hz, hF⟩ := bnd_ex hF
    have hf := Fr_tr hf (fr_Ma_leadOf xq6 mq4 _ _ hz) (by decide) (by decide)
    obtain ⟨xq10, exq10, hF⟩ := lt_ex hF
    obtain ⟨xq11, exq11, hF⟩ := lt_ex hF
    rcases if_ex hF with hF | hF
    · rcases if_ex hF with hF | hF
      · obtain ⟨-, hF⟩ := ckB_ex hF
        cases hF
        exact hf
      · cases hF
        exact hf
    · cases hF
      exact hf
set_option maxHeartbeats 4000000 in
theorem fr_Ma_begin (a1 : Int32) (m0 : Mem) (v : Unit) (m' : Mem) (hF : F_Ma_begin a1 m0 = some (v, m')) : Fr [] [(16, 0), (16, 6)] m0 m' := by
  unfold F_Ma_begin at hF
  have hf : Fr [] [(16, 0), (16, 6)] m0 m0 := Fr_rf
  obtain ⟨mq1, emq1, hF⟩ := lt_ex hF
  have hf := Fr_sI emq1 hf (Or.inr (by decide))
  obtain ⟨mq2, emq2, hF⟩ := lt_ex hF
  have hf := Fr_sZ emq2 hf (Or.inr (by decide))
  cases hF
  exact hf
set_option maxHeartbeats 4000000 in
theorem fr_T_turning_L35 (a1 : Bool) (zq8 : Bool) (mB : Mem) (v : (Nat ⊕ Int32)) (m' : Mem) : ∀ (nf : Nat) (xq10 : Int32) (yq11 : Int64) (xq12 : Int32) (mq9 : Mem), Fr [10, 11, 14, 15] [(2, 2), (2, 3), (2, 4), (2, 5), (2, 6)] mB mq9 → F_T_turning_L35 a1 zq8 nf xq10 yq11 xq12 mq9 = some (v, m') → Fr [10, 11, 14, 15] [(2, 2), (2, 3), (2, 4), (2, 5), (2, 6)] mB m' := by
  intro nf
  induction nf with
  | zero =>
    intro xq10 yq11 xq12 mq9 hf hF
    rw [F_T_turning_L35] at hF
    cases hF
  | succ nfq13 ih =>
    intro xq10 yq11 xq12 mq9 hf hF
    rw [F_T_turning_L35] at hF
    rcases if_ex hF with hF | hF
    · cases hF
      exact hf
    · obtain ⟨yq17, mq15, hz, hF⟩ := bnd_ex hF
      have hf := Fr_tr hf (fr_T_waysAfter xq12 mq9 _ _ hz) (by decide) (by decide)
      obtain ⟨yq20, mq18, hz, hF⟩ := bnd_ex hF
      have hf := Fr_tr hf (fr_Od_valueOf yq17 ((gI mq15 16 3) + (1 : Int32)) zq8 (gI mq15 3 5) mq15 _ _ hz) (by decide) (by decide)
      obtain ⟨k112_23, ek112_23, hF⟩ := lt_ex hF
      have Jk112_23 : ∀ (xq22 : Int32) (yq23 : Int64) (mq21 : Mem), Fr [10, 11, 14, 15] [(2, 2), (2, 3), (2, 4), (2, 5), (2, 6)] mB mq21 → k112_23 xq22 yq23 mq21 = some (v, m') → Fr [10, 11, 14, 15] [(2, 2), (2, 3), (2, 4), (2, 5), (2, 6)] mB m' := by
        intro xq22 yq23 mq21 hf hF
        rw [ek112_23] at hF
        obtain ⟨xq24, exq24, hF⟩ := lt_ex hF
        exact ih xq22 yq23 xq24 mq21 hf hF
      obtain ⟨k105_25, ek105_25, hF⟩ := lt_ex hF
      have Jk105_25 : ∀ (mq25 : Mem), Fr [10, 11, 14, 15] [(2, 2), (2, 3), (2, 4), (2, 5), (2, 6)] mB mq25 → k105_25 mq25 = some (v, m') → Fr [10, 11, 14, 15] [(2, 2), (2, 3), (2, 4), (2, 5), (2, 6)] mB m' := by
        intro mq25 hf hF
        rw [ek105_25] at hF
        exact Jk112_23 xq12 yq20 mq25 hf hF
      rcases if_ex hF with hF | hF
      · exact Jk105_25 mq18 hf hF
      · rcases if_ex hF with hF | hF
        · rcases if_ex hF with hF | hF
          · exact Jk112_23 xq10 yq11 mq18 hf hF
          · exact Jk105_25 mq18 hf hF
        · rcases if_ex hF with hF | hF
          · exact Jk112_23 xq10 yq11 mq18 hf hF
          · exact Jk105_25 mq18 hf hF
set_option maxHeartbeats 4000000 in
theorem fr_T_turning (a1 : Bool) (m0 : Mem) (v : (Nat ⊕ Int32)) (m' : Mem) (hF : F_T_turning a1 m0 = some (v, m')) : Fr [10, 11, 14, 15] [(2, 2), (2, 3), (2, 4), (2, 5), (2, 6)] m0 m' := by
  unfold F_T_turning at hF
  have hf : Fr [10, 11, 14, 15] [(2, 2), (2, 3), (2, 4), (2, 5), (2, 6)] m0 m0 := Fr_rf
  rcases bndX_ex hF with ⟨ke, mq1, hz, hF⟩ | ⟨u_, mq1, hz, hF⟩
  · cases hF
    exact Fr_tr hf (fr_T_mustBeOn m0 _ _ hz) (by decide) (by decide)
  · have hf := Fr_tr hf (fr_T_mustBeOn m0 _ _ hz) (by decide) (by decide)
    obtain ⟨xq6, mq4, hz, hF⟩ := bnd_ex hF
    have hf := Fr_tr hf (fr_Ma_batting mq1 _ _ hz) (by decide) (by decide)
    obtain ⟨k26_8, ek26_8, hF⟩ := lt_ex hF
    have Jk26_8 : ∀ (zq8 : Bool) (mq7 : Mem), Fr [10, 11, 14, 15] [(2, 2), (2, 3), (2, 4), (2, 5), (2, 6)] m0 mq7 → k26_8 zq8 mq7 = some (v, m') → Fr [10, 11, 14, 15] [(2, 2), (2, 3), (2, 4), (2, 5), (2, 6)] m0 m' := by
      intro zq8 mq7 hf hF
      rw [ek26_8] at hF
      exact fr_T_turning_L35 a1 zq8 m0 _ _  1000000 (0 : Int32) (0 : Int64) (0 : Int32) mq7 hf hF
    rcases if_ex hF with hF | hF
    · exact Jk26_8 true mq4 hf hF
    · exact Jk26_8 false mq4 hf hF
set_option maxHeartbeats 4000000 in
theorem fr_T_turnover_L27 (a1 : Int32) (a2 : Int32) (mB : Mem) (v : (Nat ⊕ Int32)) (m' : Mem) : ∀ (nf : Nat) (xq8 : Int32) (mq7 : Mem), Fr [10, 11, 14, 15] [(2, 2), (2, 3), (2, 4), (2, 5), (2, 6)] mB mq7 → F_T_turnover_L27 a1 a2 nf xq8 mq7 = some (v, m') → Fr [10, 11, 14, 15] [(2, 2), (2, 3), (2, 4), (2, 5), (2, 6)] mB m' := by
  intro nf
  induction nf with
  | zero =>
    intro xq8 mq7 hf hF
    rw [F_T_turnover_L27] at hF
    cases hF
  | succ nfq9 ih =>
    intro xq8 mq7 hf hF
    rw [F_T_turnover_L27] at hF
    rcases if_ex hF with hF | hF
    · cases hF
      exact hf
    · obtain ⟨xq13, mq11, hz, hF⟩ := bnd_ex hF
      have hf := Fr_tr hf (fr_Od_kindOf (3 : Int32) false mq7 _ _ hz) (by decide) (by decide)
      obtain ⟨zq16, mq14, hz, hF⟩ := bnd_ex hF
      have hf := Fr_tr hf (fr_Od_choosesTold a1 xq13 (-xq8) a2 mq11 _ _ hz) (by decide) (by decide)
      rcases if_ex hF with hF | hF
      · obtain ⟨xq17, exq17, hF⟩ := lt_ex hF
        exact ih xq17 mq14 hf hF
      · cases hF
        exact hf
set_option maxHeartbeats 4000000 in
theorem fr_T_turnover (a1 : Int32) (a2 : Int32) (m0 : Mem) (v : (Nat ⊕ Int32)) (m' : Mem) (hF : F_T_turnover a1 a2 m0 = some (v, m')) : Fr [10, 11, 14, 15] [(2, 2), (2, 3), (2, 4), (2, 5), (2, 6)] m0 m' := by
  unfold F_T_turnover at hF
  have hf : Fr [10, 11, 14, 15] [(2, 2), (2, 3), (2, 4), (2, 5), (2, 6)] m0 m0 := Fr_rf
  rcases bndX_ex hF with ⟨ke, mq1, hz, hF⟩ | ⟨u_, mq1, hz, hF⟩
  · cases hF
    exact Fr_tr hf (fr_T_mustBeState a1 (3 : Int32) (0 : Int32) a2 m0 _ _ hz) (by decide) (by decide)
  · have hf := Fr_tr hf (fr_T_mustBeState a1 (3 : Int32) (0 : Int32) a2 m0 _ _ hz) (by decide) (by decide)
    obtain ⟨u_, mq4, hz, hF⟩ := bnd_ex hF
    have hf := Fr_tr hf (fr_Od_ready (0 : Int32) (gI mq1 3 5) false mq1 _ _ hz) (by decide) (by decide)
    exact fr_T_turnover_L27 a1 a2 m0 _ _  1000000 (81 : Int32) mq4 hf hF
set_option maxHeartbeats 4000000 in
theorem fr_Ma_copyFrom_5_L82 (o1 : Nat) (mB : Mem) (v : Unit) (m' : Mem) : ∀ (nf : Nat) (xq12 : Int32) (mq11 : Mem), Fr [17] [(16, 0), (16, 1), (16, 2), (16, 3), (16, 4), (16, 5), (16, 6), (16, 7), (16, 8), (16, 9)] mB mq11 → F_Ma_copyFrom_5_L82 o1 nf xq12 mq11 = some (v, m') → Fr [17] [(16, 0), (16, 1), (16, 2), (16, 3), (16, 4), (16, 5), (16, 6), (16, 7), (16, 8), (16, 9)] mB m' := by
  intro nf
  induction nf with
  | zero =>
    intro xq12 mq11 hf hF
    rw [F_Ma_copyFrom_5_L82] at hF
    cases hF
  | succ nfq13 ih =>
    intro xq12 mq11 hf hF
    rw [F_Ma_copyFrom_5_L82] at hF
    rcases if_ex hF with hF | hF
    · cases hF
      exact hf
    · obtain ⟨-, hF⟩ := ckB_ex hF
      obtain ⟨xq16, exq16, hF⟩ := lt_ex hF
      obtain ⟨-, hF⟩ := ckB_ex hF
      obtain ⟨mq17, emq17, hF⟩ := lt_ex hF
      have hf := Fr_sI emq17 hf (Or.inl (by decide))
      obtain ⟨xq19, exq19, hF⟩ := lt_ex hF
      exact ih xq19 mq17 hf hF
set_option maxHeartbeats 4000000 in
theorem fr_Ma_copyFrom_5 (o1 : Nat) (m0 : Mem) (v : Unit) (m' : Mem) (hF : F_Ma_copyFrom_5 o1 m0 = some (v, m')) : Fr [17] [(16, 0), (16, 1), (16, 2), (16, 3), (16, 4), (16, 5), (16, 6), (16, 7), (16, 8), (16, 9)] m0 m' := by
  unfold F_Ma_copyFrom_5 at hF
  have hf : Fr [17] [(16, 0), (16, 1), (16, 2), (16, 3), (16, 4), (16, 5), (16, 6), (16, 7), (16, 8), (16, 9)] m0 m0 := Fr_rf
  obtain ⟨mq1, emq1, hF⟩ := lt_ex hF
  have hf := Fr_sI emq1 hf (Or.inr (by decide))
  obtain ⟨mq2, emq2, hF⟩ := lt_ex hF
  have hf := Fr_sI emq2 hf (Or.inr (by decide))
  obtain ⟨mq3, emq3, hF⟩ := lt_ex hF
  have hf := Fr_sI emq3 hf (Or.inr (by decide))
  obtain ⟨mq4, emq4, hF⟩ := lt_ex hF
  have hf := Fr_sI emq4 hf (Or.inr (by decide))
  obtain ⟨mq5, emq5, hF⟩ := lt_ex hF
  have hf := Fr_sI emq5 hf (Or.inr (by decide))
  obtain ⟨mq6, emq6, hF⟩ := lt_ex hF
  have hf := Fr_sZ emq6 hf (Or.inr (by decide))
  obtain ⟨mq7, emq7, hF⟩ := lt_ex hF
  have hf := Fr_sZ emq7 hf (Or.inr (by decide))
  obtain ⟨mq8, emq8, hF⟩ := lt_ex hF
  have hf := Fr_sI emq8 hf (Or.inr (by decide))
  obtain ⟨mq9, emq9, hF⟩ := lt_ex hF
  have hf := Fr_sI emq9 hf (Or.inr (by decide))
  obtain ⟨mq10, emq10, hF⟩ := lt_ex hF
  have hf := Fr_sI emq10 hf (Or.inr (by decide))
  exact fr_Ma_copyFrom_5_L82 o1 m0 _ _  1000000 (0 : Int32) mq10 hf hF
set_option maxHeartbeats 4000000 in
theorem fr_Pa_giveBack (m0 : Mem) (v : Bool) (m' : Mem) (hF : F_Pa_giveBack m0 = some (v, m')) : Fr [17] [(16, 0), (16, 1), (16, 2), (16, 3), (16, 4), (16, 5), (16, 6), (16, 7), (16, 8), (16, 9), (20, 0), (20, 1)] m0 m' := by
  unfold F_Pa_giveBack at hF
  have hf : Fr [17] [(16, 0), (16, 1), (16, 2), (16, 3), (16, 4), (16, 5), (16, 6), (16, 7), (16, 8), (16, 9), (20, 0), (20, 1)] m0 m0 := Fr_rf
  obtain ⟨xq1, exq1, hF⟩ := lt_ex hF
  obtain ⟨qq4, mq2, hz, hF⟩ := bnd_ex hF
  have hf := Fr_tr hf (fr_Pa_roomAt xq1 m0 _ _ hz) (by decide) (by decide)
  rcases oMat_ex hF with ⟨-, hF⟩ | ⟨oq5, -, -, hF⟩
  · rcases if_ex hF with hF | hF
    · cases hF
      exact hf
    · cases hF
      exact hf
  · rcases if_ex hF with hF | hF
    · cases hF
      exact hf
    · obtain ⟨u_, mq6, hz, hF⟩ := bnd_ex hF
      have hf := Fr_tr hf (fr_Ma_copyFrom_5 oq5 mq2 _ _ hz) (by decide) (by decide)
      obtain ⟨xq9, exq9, hF⟩ := lt_ex hF
      obtain ⟨mq10, emq10, hF⟩ := lt_ex hF
      have hf := Fr_sI emq10 hf (Or.inr (by decide))
      obtain ⟨mq11, emq11, hF⟩ := lt_ex hF
      have hf := Fr_sI emq11 hf (Or.inr (by decide))
      cases hF
      exact hf
set_option maxHeartbeats 4000000 in
theorem fr_T_undo (m0 : Mem) (v : Bool) (m' : Mem) (hF : F_T_undo m0 = some (v, m')) : Fr [17] [(16, 0), (16, 1), (16, 2), (16, 3), (16, 4), (16, 5), (16, 6), (16, 7), (16, 8), (16, 9), (20, 0), (20, 1)] m0 m' := by
  unfold F_T_undo at hF
  have hf : Fr [17] [(16, 0), (16, 1), (16, 2), (16, 3), (16, 4), (16, 5), (16, 6), (16, 7), (16, 8), (16, 9), (20, 0), (20, 1)] m0 m0 := Fr_rf
  obtain ⟨zq3, mq1, hz, hF⟩ := bnd_ex hF
  have hf := Fr_tr hf (fr_Pa_giveBack m0 _ _ hz) (by decide) (by decide)
  cases hF
  exact hf
set_option maxHeartbeats 4000000 in
theorem fr_T_betterToBat (a1 : Int32) (m0 : Mem) (v : Int32) (m' : Mem) (hF : F_T_betterToBat a1 m0 = some (v, m')) : Fr [10, 11, 14, 15] [(2, 2), (2, 3), (2, 4), (2, 5), (2, 6), (2, 7), (2, 8)] m0 m' := by
  unfold F_T_betterToBat at hF
  have hf : Fr [10, 11, 14, 15] [(2, 2), (2, 3), (2, 4), (2, 5), (2, 6), (2, 7), (2, 8)] m0 m0 := Fr_rf
  obtain ⟨yq3, mq1, hz, hF⟩ := bnd_ex hF
  have hf := Fr_tr hf (fr_T_tossValue a1 a1 m0 _ _ hz) (by decide) (by decide)
  obtain ⟨yq6, mq4, hz, hF⟩ := bnd_ex hF
  have hf := Fr_tr hf (fr_T_tossValue a1 ((1 : Int32) - a1) mq1 _ _ hz) (by decide) (by decide)
  cases hF
  exact hf
set_option maxHeartbeats 4000000 in
theorem fr_T_well_L17 (xq3 : Int32) (xq6 : Int32) (mB : Mem) (v : Int32) (m' : Mem) : ∀ (nf : Nat) (xq8 : Int32) (xq9 : Int32) (mq7 : Mem), Fr [10, 11, 14, 15] [(2, 2), (2, 3), (2, 4), (2, 5), (2, 6), (2, 7), (2, 8)] mB mq7 → F_T_well_L17 xq3 xq6 nf xq8 xq9 mq7 = some (v, m') → Fr [10, 11, 14, 15] [(2, 2), (2, 3), (2, 4), (2, 5), (2, 6), (2, 7), (2, 8)] mB m' := by
  intro nf
  induction nf with
  | zero =>
    intro xq8 xq9 mq7 hf hF
    rw [F_T_well_L17] at hF
    cases hF
  | succ nfq10 ih =>
    intro xq8 xq9 mq7 hf hF
    rw [F_T_well_L17] at hF
    rcases if_ex hF with hF | hF
    · cases hF
      exact hf
    · obtain ⟨xq14, mq12, hz, hF⟩ := bnd_ex hF
      have hf := Fr_tr hf (fr_Bk_cell xq9 (0 : Int32) mq7 _ _ hz) (by decide) (by decide)
      obtain ⟨k57_16, ek57_16, hF⟩ := lt_ex hF
      have Jk57_16 : ∀ (xq16 : Int32) (mq15 : Mem), Fr [10, 11, 14, 15] [(2, 2), (2, 3), (2, 4), (2, 5), (2, 6), (2, 7), (2, 8)] mB mq15 → k57_16 xq16 mq15 = some (v, m') → Fr [10, 11, 14, 15] [(2, 2), (2, 3), (2, 4), (2, 5), (2, 6), (2, 7), (2, 8)] mB m' := by
        intro xq16 mq15 hf hF
        rw [ek57_16] at hF
        obtain ⟨xq19, mq17, hz, hF⟩ := bnd_ex hF
        have hf := Fr_tr hf (fr_Bk_cell xq9 (1 : Int32) mq15 _ _ hz) (by decide) (by decide)
        obtain ⟨k82_21, ek82_21, hF⟩ := lt_ex hF
        have Jk82_21 : ∀ (zq21 : Bool) (mq20 : Mem), Fr [10, 11, 14, 15] [(2, 2), (2, 3), (2, 4), (2, 5), (2, 6), (2, 7), (2, 8)] mB mq20 → k82_21 zq21 mq20 = some (v, m') → Fr [10, 11, 14, 15] [(2, 2), (2, 3), (2, 4), (2, 5), (2, 6), (2, 7), (2, 8)] mB m' := by
          intro zq21 mq20 hf hF
          rw [ek82_21] at hF
          obtain ⟨k107_23, ek107_23, hF⟩ := lt_ex hF
          have Jk107_23 : ∀ (xq23 : Int32) (mq22 : Mem), Fr [10, 11, 14, 15] [(2, 2), (2, 3), (2, 4), (2, 5), (2, 6), (2, 7), (2, 8)] mB mq22 → k107_23 xq23 mq22 = some (v, m') → Fr [10, 11, 14, 15] [(2, 2), (2, 3), (2, 4), (2, 5), (2, 6), (2, 7), (2, 8)] mB m' := by
            intro xq23 mq22 hf hF
            rw [ek107_23] at hF
            obtain ⟨xq24, exq24, hF⟩ := lt_ex hF
            exact ih xq23 xq24 mq22 hf hF
          obtain ⟨k104_25, ek104_25, hF⟩ := lt_ex hF
          have Jk104_25 : ∀ (mq25 : Mem), Fr [10, 11, 14, 15] [(2, 2), (2, 3), (2, 4), (2, 5), (2, 6), (2, 7), (2, 8)] mB mq25 → k104_25 mq25 = some (v, m') → Fr [10, 11, 14, 15] [(2, 2), (2, 3), (2, 4), (2, 5), (2, 6), (2, 7), (2, 8)] mB m' := by
            intro mq25 hf hF
            rw [ek104_25] at hF
            obtain ⟨xq26, exq26, hF⟩ := lt_ex hF
            exact Jk107_23 xq26 mq25 hf hF
          rcases if_ex hF with hF | hF
          · exact Jk104_25 mq20 hf hF
          · obtain ⟨k99_28, ek99_28, hF⟩ := lt_ex hF
            have Jk99_28 : ∀ (zq28 : Bool) (mq27 : Mem), Fr [10, 11, 14, 15] [(2, 2), (2, 3), (2, 4), (2, 5), (2, 6), (2, 7), (2, 8)] mB mq27 → k99_28 zq28 mq27 = some (v, m') → Fr [10, 11, 14, 15] [(2, 2), (2, 3), (2, 4), (2, 5), (2, 6), (2, 7), (2, 8)] mB m' := by
              intro zq28 mq27 hf hF
              rw [ek99_28] at hF
              rcases if_ex hF with hF | hF
              · exact Jk104_25 mq27 hf hF
              · exact Jk107_23 xq8 mq27 hf hF
            rcases if_ex hF with hF | hF
            · exact Jk99_28 false mq20 hf hF
            · exact Jk99_28 true mq20 hf hF
        rcases if_ex hF with hF | hF
        · exact Jk82_21 true mq17 hf hF
        · exact Jk82_21 false mq17 hf hF
      rcases if_ex hF with hF | hF
      · exact Jk57_16 xq3 mq12 hf hF
      · exact Jk57_16 xq6 mq12 hf hF
set_option maxHeartbeats 4000000 in
theorem fr_T_well (m0 : Mem) (v : Int32) (m' : Mem) (hF : F_T_well m0 = some (v, m')) : Fr [10, 11, 14, 15] [(2, 2), (2, 3), (2, 4), (2, 5), (2, 6), (2, 7), (2, 8)] m0 m' := by
  unfold F_T_well at hF
  have hf : Fr [10, 11, 14, 15] [(2, 2), (2, 3), (2, 4), (2, 5), (2, 6), (2, 7), (2, 8)] m0 m0 := Fr_rf
  obtain ⟨xq3, mq1, hz, hF⟩ := bnd_ex hF
  have hf := Fr_tr hf (fr_T_betterToBat (0 : Int32) m0 _ _ hz) (by decide) (by decide)
  obtain ⟨xq6, mq4, hz, hF⟩ := bnd_ex hF
  have hf := Fr_tr hf (fr_T_betterToBat (1 : Int32) mq1 _ _ hz) (by decide) (by decide)
  exact fr_T_well_L17 xq3 xq6 m0 _ _  1000000 (0 : Int32) (0 : Int32) mq4 hf hF
set_option maxHeartbeats 4000000 in
theorem fr_T_when_L27 (a1 : Int32) (a2 : Int32) (mB : Mem) (v : (Nat ⊕ Int32)) (m' : Mem) : ∀ (nf : Nat) (xq8 : Int32) (mq7 : Mem), Fr [10, 11, 14, 15] [(2, 2), (2, 3), (2, 4), (2, 5), (2, 6)] mB mq7 → F_T_when_L27 a1 a2 nf xq8 mq7 = some (v, m') → Fr [10, 11, 14, 15] [(2, 2), (2, 3), (2, 4), (2, 5), (2, 6)] mB m' := by
  intro nf
  induction nf with
  | zero =>
    intro xq8 mq7 hf hF
    rw [F_T_when_L27] at hF
    cases hF
  | succ nfq9 ih =>
    intro xq8 mq7 hf hF
    rw [F_T_when_L27] at hF
    rcases if_ex hF with hF | hF
    · cases hF
      exact hf
    · obtain ⟨xq13, mq11, hz, hF⟩ := bnd_ex hF
      have hf := Fr_tr hf (fr_Od_kindOf (2 : Int32) false mq7 _ _ hz) (by decide) (by decide)
      obtain ⟨zq16, mq14, hz, hF⟩ := bnd_ex hF
      have hf := Fr_tr hf (fr_Od_choosesTold a1 xq13 xq8 a2 mq11 _ _ hz) (by decide) (by decide)
      rcases if_ex hF with hF | hF
      · cases hF
        exact hf
      · obtain ⟨xq17, exq17, hF⟩ := lt_ex hF
        exact ih xq17 mq14 hf hF
set_option maxHeartbeats 4000000 in
theorem fr_T_when (a1 : Int32) (a2 : Int32) (m0 : Mem) (v : (Nat ⊕ Int32)) (m' : Mem) (hF : F_T_when a1 a2 m0 = some (v, m')) : Fr [10, 11, 14, 15] [(2, 2), (2, 3), (2, 4), (2, 5), (2, 6)] m0 m' := by
  unfold F_T_when at hF
  have hf : Fr [10, 11, 14, 15] [(2, 2), (2, 3), (2, 4), (2, 5), (2, 6)] m0 m0 := Fr_rf
  rcases bndX_ex hF with ⟨ke, mq1, hz, hF⟩ | ⟨u_, mq1, hz, hF⟩
  · cases hF
    exact Fr_tr hf (fr_T_mustBeState a1 (2 : Int32) (0 : Int32) a2 m0 _ _ hz) (by decide) (by decide)
  · have hf := Fr_tr hf (fr_T_mustBeState a1 (2 : Int32) (0 : Int32) a2 m0 _ _ hz) (by decide) (by decide)
    obtain ⟨u_, mq4, hz, hF⟩ := bnd_ex hF
    have hf := Fr_tr hf (fr_Od_ready (0 : Int32) (gI mq1 3 5) false mq1 _ _ hz) (by decide) (by decide)
    exact fr_T_when_L27 a1 a2 m0 _ _  1000000 (-81 : Int32) mq4 hf hF
set_option maxHeartbeats 4000000 in
theorem fr_T_wins (a1 : Int32) (a2 : Int32) (a3 : Bool) (a4 : Int32) (a5 : Int32) (a6 : Int32) (m0 : Mem) (v : (Nat ⊕ Int64)) (m' : Mem) (hF : F_T_wins a1 a2 a3 a4 a5 a6 m0 = some (v, m')) : Fr [10, 11, 14, 15] [(2, 2), (2, 3), (2, 4), (2, 5), (2, 6)] m0 m' := by
  unfold F_T_wins at hF
  have hf : Fr [10, 11, 14, 15] [(2, 2), (2, 3), (2, 4), (2, 5), (2, 6)] m0 m0 := Fr_rf
  rcases bndX_ex hF with ⟨ke, mq1, hz, hF⟩ | ⟨u_, mq1, hz, hF⟩
  · cases hF
    exact Fr_tr hf (fr_T_mustBeState a1 a2 a4 a5 m0 _ _ hz) (by decide) (by decide)
  · have hf := Fr_tr hf (fr_T_mustBeState a1 a2 a4 a5 m0 _ _ hz) (by decide) (by decide)
    obtain ⟨k21_4, ek21_4, hF⟩ := lt_ex hF
    have Jk21_4 : ∀ (mq4 : Mem), Fr [10, 11, 14, 15] [(2, 2), (2, 3), (2, 4), (2, 5), (2, 6)] m0 mq4 → k21_4 mq4 = some (v, m') → Fr [10, 11, 14, 15] [(2, 2), (2, 3), (2, 4), (2, 5), (2, 6)] m0 m' := by
      intro mq4 hf hF
      rw [ek21_4] at hF
      cases hF
      exact hf
    rcases if_ex hF with hF | hF
    · exact Jk21_4 mq1 hf hF
    · rcases if_ex hF with hF | hF
      · obtain ⟨u_, mq5, hz, hF⟩ := bnd_ex hF
        have hf := Fr_tr hf (fr_Od_ready (0 : Int32) (gI mq1 3 5) false mq1 _ _ hz) (by decide) (by decide)
        obtain ⟨xq10, mq8, hz, hF⟩ := bnd_ex hF
        have hf := Fr_tr hf (fr_Od_kindOf a2 a3 mq5 _ _ hz) (by decide) (by decide)
        obtain ⟨yq13, mq11, hz, hF⟩ := bnd_ex hF
        have hf := Fr_tr hf (fr_T_winsOf a1 xq10 a4 a5 a6 mq8 _ _ hz) (by decide) (by decide)
        cases hF
        exact hf
      · exact Jk21_4 mq1 hf hF
set_option maxHeartbeats 4000000 in
theorem fr_T_worth (a1 : Int32) (a2 : Int32) (m0 : Mem) (v : (Nat ⊕ Int64)) (m' : Mem) (hF : F_T_worth a1 a2 m0 = some (v, m')) : Fr [10, 11, 14, 15] [(2, 2), (2, 3), (2, 4), (2, 5), (2, 6), (2, 7), (2, 8)] m0 m' := by
  unfold F_T_worth at hF
  have hf : Fr [10, 11, 14, 15] [(2, 2), (2, 3), (2, 4), (2, 5), (2, 6), (2, 7), (2, 8)] m0 m0 := Fr_rf
  rcases bndX_ex hF with ⟨ke, mq1, hz, hF⟩ | ⟨u_, mq1, hz, hF⟩
  · cases hF
    exact Fr_tr hf (fr_T_mustBeBelow a1 (2 : Int32) m0 _ _ hz) (by decide) (by decide)
  · have hf := Fr_tr hf (fr_T_mustBeBelow a1 (2 : Int32) m0 _ _ hz) (by decide) (by decide)
    rcases if_ex hF with hF | hF
    · obtain ⟨yq6, mq4, hz, hF⟩ := bnd_ex hF
      have hf := Fr_tr hf (fr_T_tossValue a1 a1 mq1 _ _ hz) (by decide) (by decide)
      cases hF
      exact hf
    · rcases if_ex hF with hF | hF
      · obtain ⟨yq9, mq7, hz, hF⟩ := bnd_ex hF
        have hf := Fr_tr hf (fr_T_tossValue a1 ((1 : Int32) - a1) mq1 _ _ hz) (by decide) (by decide)
        cases hF
        exact hf
      · rcases if_ex hF with hF | hF
        · obtain ⟨yq12, mq10, hz, hF⟩ := bnd_ex hF
          have hf := Fr_tr hf (fr_T_tossValue a1 (0 : Int32) mq1 _ _ hz) (by decide) (by decide)
          obtain ⟨yq15, mq13, hz, hF⟩ := bnd_ex hF
          have hf := Fr_tr hf (fr_T_tossValue a1 (1 : Int32) mq10 _ _ hz) (by decide) (by decide)
          cases hF
          exact hf
        · rcases if_ex hF with hF | hF
          · obtain ⟨yq18, mq16, hz, hF⟩ := bnd_ex hF
            have hf := Fr_tr hf (fr_T_leftValue a1 mq1 _ _ hz) (by decide) (by decide)
            cases hF
            exact hf
          · cases hF
            exact hf
set_option maxHeartbeats 4000000 in
theorem fr_M_in (a0 : Int32) (a1 : Int32) (a2 : Int32) (m0 : Mem) (v : Bool) (m' : Mem) (hF : F_M_in a0 a1 a2 m0 = some (v, m')) : Fr [] [] m0 m' := by
  unfold F_M_in at hF
  have hf : Fr [] [] m0 m0 := Fr_rf
  rcases if_ex hF with hF | hF
  · cases hF
    exact hf
  · rcases if_ex hF with hF | hF
    · cases hF
      exact hf
    · cases hF
      exact hf
set_option maxHeartbeats 4000000 in
theorem fr_M_noSlot (a0 : Int32) (m0 : Mem) (v : Bool) (m' : Mem) (hF : F_M_noSlot a0 m0 = some (v, m')) : Fr [] [] m0 m' := by
  unfold F_M_noSlot at hF
  have hf : Fr [] [] m0 m0 := Fr_rf
  obtain ⟨zq3, mq1, hz, hF⟩ := bnd_ex hF
  have hf := Fr_tr hf (fr_M_in a0 (0 : Int32) (3 : Int32) m0 _ _ hz) (by decide) (by decide)
  rcases if_ex hF with hF | hF
  · cases hF
    exact hf
  · cases hF
    exact hf
set_option maxHeartbeats 4000000 in
theorem fr_M_throwsIf (a1 : Bool) (a2 : Int32) (m0 : Mem) (v : Bool) (m' : Mem) (hF : F_M_throwsIf a1 a2 m0 = some (v, m')) : Fr [] [(78, 0)] m0 m' := by
  unfold F_M_throwsIf at hF
  have hf : Fr [] [(78, 0)] m0 m0 := Fr_rf
  rcases if_ex hF with hF | hF
  · obtain ⟨mq1, emq1, hF⟩ := lt_ex hF
    have hf := Fr_sI emq1 hf (Or.inr (by decide))
    cases hF
    exact hf
  · cases hF
    exact hf
set_option maxHeartbeats 4000000 in
theorem fr_M_firstSide (m0 : Mem) (v : Int32) (m' : Mem) (hF : F_M_firstSide m0 = some (v, m')) : Fr [] [] m0 m' := by
  unfold F_M_firstSide at hF
  have hf : Fr [] [] m0 m0 := Fr_rf
  cases hF
  exact hf
set_option maxHeartbeats 4000000 in
theorem fr_M_isOver (m0 : Mem) (v : Bool) (m' : Mem) (hF : F_M_isOver m0 = some (v, m')) : Fr [] [] m0 m' := by
  unfold F_M_isOver at hF
  have hf : Fr [] [] m0 m0 := Fr_rf
  rcases if_ex hF with hF | hF
  · cases hF
    exact hf
  · cases hF
    exact hf
set_option maxHeartbeats 4000000 in
theorem fr_M_isOn (m0 : Mem) (v : Bool) (m' : Mem) (hF : F_M_isOn m0 = some (v, m')) : Fr [] [] m0 m' := by
  unfold F_M_isOn at hF
  have hf : Fr [] [] m0 m0 := Fr_rf
  obtain ⟨xq3, mq1, hz, hF⟩ := bnd_ex hF
  have hf := Fr_tr hf (fr_M_firstSide m0 _ _ hz) (by decide) (by decide)
  rcases if_ex hF with hF | hF
  · cases hF
    exact hf
  · obtain ⟨zq6, mq4, hz, hF⟩ := bnd_ex hF
    have hf := Fr_tr hf (fr_M_isOver mq1 _ _ hz) (by decide) (by decide)
    rcases if_ex hF with hF | hF
    · cases hF
      exact hf
    · cases hF
      exact hf
set_option maxHeartbeats 4000000 in
theorem fr_M_played (m0 : Mem) (v : Int32) (m' : Mem) (hF : F_M_played m0 = some (v, m')) : Fr [] [] m0 m' := by
  unfold F_M_played at hF
  have hf : Fr [] [] m0 m0 := Fr_rf
  cases hF
  exact hf
set_option maxHeartbeats 4000000 in
theorem fr_M_isFollowed (m0 : Mem) (v : Bool) (m' : Mem) (hF : F_M_isFollowed m0 = some (v, m')) : Fr [] [] m0 m' := by
  unfold F_M_isFollowed at hF
  have hf : Fr [] [] m0 m0 := Fr_rf
  rcases if_ex hF with hF | hF
  · cases hF
    exact hf
  · cases hF
    exact hf
set_option maxHeartbeats 4000000 in
theorem fr_M_batting (a0 : Int32) (a1 : Int32) (a2 : Bool) (m0 : Mem) (v : Int32) (m' : Mem) (hF : F_M_batting a0 a1 a2 m0 = some (v, m')) : Fr [] [] m0 m' := by
  unfold F_M_batting at hF
  have hf : Fr [] [] m0 m0 := Fr_rf
  obtain ⟨k14_2, ek14_2, hF⟩ := lt_ex hF
  have Jk14_2 : ∀ (zq2 : Bool) (mq1 : Mem), Fr [] [] m0 mq1 → k14_2 zq2 mq1 = some (v, m') → Fr [] [] m0 m' := by
    intro zq2 mq1 hf hF
    rw [ek14_2] at hF
    rcases if_ex hF with hF | hF
    · cases hF
      exact hf
    · cases hF
      exact hf
  obtain ⟨k9_3, ek9_3, hF⟩ := lt_ex hF
  have Jk9_3 : ∀ (mq3 : Mem), Fr [] [] m0 mq3 → k9_3 mq3 = some (v, m') → Fr [] [] m0 m' := by
    intro mq3 hf hF
    rw [ek9_3] at hF
    exact Jk14_2 true mq3 hf hF
  rcases if_ex hF with hF | hF
  · exact Jk9_3 m0 hf hF
  · rcases if_ex hF with hF | hF
    · exact Jk9_3 m0 hf hF
    · exact Jk14_2 false m0 hf hF
set_option maxHeartbeats 4000000 in
theorem fr_M_batter (m0 : Mem) (v : Int32) (m' : Mem) (hF : F_M_batter m0 = some (v, m')) : Fr [] [] m0 m' := by
  unfold F_M_batter at hF
  have hf : Fr [] [] m0 m0 := Fr_rf
  obtain ⟨xq3, mq1, hz, hF⟩ := bnd_ex hF
  have hf := Fr_tr hf (fr_M_firstSide m0 _ _ hz) (by decide) (by decide)
  obtain ⟨zq6, mq4, hz, hF⟩ := bnd_ex hF
  have hf := Fr_tr hf (fr_M_isFollowed mq1 _ _ hz) (by decide) (by decide)
  obtain ⟨xq9, mq7, hz, hF⟩ := bnd_ex hF
  have hf := Fr_tr hf (fr_M_batting xq3 (gI mq1 79 11) zq6 mq4 _ _ hz) (by decide) (by decide)
  cases hF
  exact hf
set_option maxHeartbeats 4000000 in
theorem fr_M_leadOf (a1 : Int32) (m0 : Mem) (v : Int32) (m' : Mem) (hF : F_M_leadOf a1 m0 = some (v, m')) : Fr [] [] m0 m' := by
  unfold F_M_leadOf at hF
  have hf : Fr [] [] m0 m0 := Fr_rf
  obtain ⟨-, hF⟩ := ckB_ex hF
  obtain ⟨xq2, exq2, hF⟩ := lt_ex hF
  obtain ⟨-, hF⟩ := ckB_ex hF
  obtain ⟨xq4, exq4, hF⟩ := lt_ex hF
  cases hF
  exact hf
set_option maxHeartbeats 4000000 in
theorem fr_M_mostRuns_L4  (mB : Mem) (v : Int32) (m' : Mem) : ∀ (nf : Nat) (xq2 : Int32) (xq3 : Int32) (mq1 : Mem), Fr [] [] mB mq1 → F_M_mostRuns_L4  nf xq2 xq3 mq1 = some (v, m') → Fr [] [] mB m' := by
  intro nf
  induction nf with
  | zero =>
    intro xq2 xq3 mq1 hf hF
    rw [F_M_mostRuns_L4] at hF
    cases hF
  | succ nfq4 ih =>
    intro xq2 xq3 mq1 hf hF
    rw [F_M_mostRuns_L4] at hF
    rcases if_ex hF with hF | hF
    · cases hF
      exact hf
    · obtain ⟨-, hF⟩ := ckB_ex hF
      obtain ⟨xq7, exq7, hF⟩ := lt_ex hF
      obtain ⟨xq8, exq8, hF⟩ := lt_ex hF
      obtain ⟨xq9, exq9, hF⟩ := lt_ex hF
      exact ih xq8 xq9 mq1 hf hF
set_option maxHeartbeats 4000000 in
theorem fr_M_mostRuns (m0 : Mem) (v : Int32) (m' : Mem) (hF : F_M_mostRuns m0 = some (v, m')) : Fr [] [] m0 m' := by
  unfold F_M_mostRuns at hF
  have hf : Fr [] [] m0 m0 := Fr_rf
  exact fr_M_mostRuns_L4  m0 _ _  1000000 (0 : Int32) (0 : Int32) m0 hf hF
set_option maxHeartbeats 4000000 in
theorem fr_M_size (m0 : Mem) (v : Int32) (m' : Mem) (hF : F_M_size m0 = some (v, m')) : Fr [] [] m0 m' := by
  unfold F_M_size at hF
  have hf : Fr [] [] m0 m0 := Fr_rf
  cases hF
  exact hf
set_option maxHeartbeats 4000000 in
theorem fr_M_inningsOf (a0 : Int32) (m0 : Mem) (v : Int32) (m' : Mem) (hF : F_M_inningsOf a0 m0 = some (v, m')) : Fr [] [] m0 m' := by
  unfold F_M_inningsOf at hF
  have hf : Fr [] [] m0 m0 := Fr_rf
  rcases if_ex hF with hF | hF
  · rcases if_ex hF with hF | hF
    · cases hF
      exact hf
    · cases hF
      exact hf
  · cases hF
    exact hf
set_option maxHeartbeats 4000000 in
theorem fr_M_isBehind (a0 : Int32) (m0 : Mem) (v : Bool) (m' : Mem) (hF : F_M_isBehind a0 m0 = some (v, m')) : Fr [] [] m0 m' := by
  unfold F_M_isBehind at hF
  have hf : Fr [] [] m0 m0 := Fr_rf
  rcases if_ex hF with hF | hF
  · cases hF
    exact hf
  · rcases if_ex hF with hF | hF
    · cases hF
      exact hf
    · cases hF
      exact hf
set_option maxHeartbeats 4000000 in
theorem fr_M_factOf (a1 : Int32) (a2 : Int32) (a3 : Int32) (a4 : Int32) (a5 : Int32) (m0 : Mem) (v : Int32) (m' : Mem) (hF : F_M_factOf a1 a2 a3 a4 a5 m0 = some (v, m')) : Fr [] [] m0 m' := by
  unfold F_M_factOf at hF
  have hf : Fr [] [] m0 m0 := Fr_rf
  rcases if_ex hF with hF | hF
  · cases hF
    exact hf
  · rcases if_ex hF with hF | hF
    · cases hF
      exact hf
    · rcases if_ex hF with hF | hF
      · cases hF
        exact hf
      · rcases if_ex hF with hF | hF
        · cases hF
          exact hf
        · rcases if_ex hF with hF | hF
          · obtain ⟨-, hF⟩ := ckB_ex hF
            obtain ⟨xq2, exq2, hF⟩ := lt_ex hF
            cases hF
            exact hf
          · rcases if_ex hF with hF | hF
            · obtain ⟨xq3, exq3, hF⟩ := lt_ex hF
              obtain ⟨-, hF⟩ := ckB_ex hF
              obtain ⟨xq5, exq5, hF⟩ := lt_ex hF
              cases hF
              exact hf
            · rcases if_ex hF with hF | hF
              · cases hF
                exact hf
              · rcases if_ex hF with hF | hF
                · cases hF
                  exact hf
                · cases hF
                  exact hf
set_option maxHeartbeats 4000000 in
theorem fr_M_holdsLine_L23 (a2 : Int32) (a3 : Int32) (a4 : Int32) (xq1 : Int32) (k273_5 : Int32 → Mem → Option (Bool × Mem)) (mB : Mem) (v : Bool) (m' : Mem) (Jk273_5 : ∀ (b0 : Int32) (b1 : Mem), Fr [85] [] mB b1 → k273_5 b0 b1 = some (v, m') → Fr [85] [] mB m') : ∀ (nf : Nat) (xq7 : Int32) (xq8 : Int32) (mq6 : Mem), Fr [85] [] mB mq6 → F_M_holdsLine_L23 a2 a3 a4 xq1 k273_5 nf xq7 xq8 mq6 = some (v, m') → Fr [85] [] mB m' := by
  intro nf
  induction nf with
  | zero =>
    intro xq7 xq8 mq6 hf hF
    rw [F_M_holdsLine_L23] at hF
    cases hF
  | succ nfq9 ih =>
    intro xq7 xq8 mq6 hf hF
    rw [F_M_holdsLine_L23] at hF
    obtain ⟨-, hF⟩ := ckB_ex hF
    obtain ⟨xq12, exq12, hF⟩ := lt_ex hF
    rcases if_ex hF with hF | hF
    · exact Jk273_5 xq7 mq6 hf hF
    · obtain ⟨-, hF⟩ := ckB_ex hF
      obtain ⟨xq14, exq14, hF⟩ := lt_ex hF
      obtain ⟨k267_16, ek267_16, hF⟩ := lt_ex hF
      have Jk267_16 : ∀ (xq16 : Int32) (mq15 : Mem), Fr [85] [] mB mq15 → k267_16 xq16 mq15 = some (v, m') → Fr [85] [] mB m' := by
        intro xq16 mq15 hf hF
        rw [ek267_16] at hF
        obtain ⟨xq17, exq17, hF⟩ := lt_ex hF
        exact ih xq16 xq17 mq15 hf hF
      rcases if_ex hF with hF | hF
      · rcases if_ex hF with hF | hF
        · obtain ⟨-, hF⟩ := ckB_ex hF
          obtain ⟨xq30, exq30, hF⟩ := lt_ex hF
          obtain ⟨-, hF⟩ := ckB_ex hF
          obtain ⟨mq31, emq31, hF⟩ := lt_ex hF
          have hf := Fr_sI emq31 hf (Or.inl (by decide))
          exact Jk267_16 xq7 mq31 hf hF
        · obtain ⟨xq18, exq18, hF⟩ := lt_ex hF
          obtain ⟨-, hF⟩ := ckB_ex hF
          obtain ⟨xq20, exq20, hF⟩ := lt_ex hF
          obtain ⟨-, hF⟩ := ckB_ex hF
          obtain ⟨xq22, exq22, hF⟩ := lt_ex hF
          obtain ⟨k231_24, ek231_24, hF⟩ := lt_ex hF
          have Jk231_24 : ∀ (zq24 : Bool) (mq23 : Mem), Fr [85] [] mB mq23 → k231_24 zq24 mq23 = some (v, m') → Fr [85] [] mB m' := by
            intro zq24 mq23 hf hF
            rw [ek231_24] at hF
            obtain ⟨k266_26, ek266_26, hF⟩ := lt_ex hF
            have Jk266_26 : ∀ (xq26 : Int32) (mq25 : Mem), Fr [85] [] mB mq25 → k266_26 xq26 mq25 = some (v, m') → Fr [85] [] mB m' := by
              intro xq26 mq25 hf hF
              rw [ek266_26] at hF
              obtain ⟨-, hF⟩ := ckB_ex hF
              obtain ⟨mq27, emq27, hF⟩ := lt_ex hF
              have hf := Fr_sI emq27 hf (Or.inl (by decide))
              exact Jk267_16 xq18 mq27 hf hF
            rcases if_ex hF with hF | hF
            · exact Jk266_26 (xq20 + xq22) mq23 hf hF
            · rcases if_ex hF with hF | hF
              · exact Jk266_26 (1 : Int32) mq23 hf hF
              · exact Jk266_26 (0 : Int32) mq23 hf hF
          rcases if_ex hF with hF | hF
          · rcases if_ex hF with hF | hF
            · exact Jk231_24 false mq6 hf hF
            · exact Jk231_24 true mq6 hf hF
          · rcases if_ex hF with hF | hF
            · rcases if_ex hF with hF | hF
              · exact Jk231_24 false mq6 hf hF
              · exact Jk231_24 true mq6 hf hF
            · rcases if_ex hF with hF | hF
              · rcases if_ex hF with hF | hF
                · exact Jk231_24 true mq6 hf hF
                · exact Jk231_24 false mq6 hf hF
              · rcases if_ex hF with hF | hF
                · exact Jk231_24 false mq6 hf hF
                · exact Jk231_24 true mq6 hf hF
      · obtain ⟨xq33, exq33, hF⟩ := lt_ex hF
        obtain ⟨-, hF⟩ := ckB_ex hF
        obtain ⟨xq35, exq35, hF⟩ := lt_ex hF
        obtain ⟨xq38, mq36, hz, hF⟩ := bnd_ex hF
        have hf := Fr_tr hf (fr_M_factOf xq14 xq35 a2 a3 a4 mq6 _ _ hz) (by decide) (by decide)
        obtain ⟨-, hF⟩ := ckB_ex hF
        obtain ⟨mq39, emq39, hF⟩ := lt_ex hF
        have hf := Fr_sI emq39 hf (Or.inl (by decide))
        obtain ⟨xq41, exq41, hF⟩ := lt_ex hF
        exact Jk267_16 xq41 mq39 hf hF
set_option maxHeartbeats 4000000 in
theorem fr_M_holdsLine (a1 : Int32) (a2 : Int32) (a3 : Int32) (a4 : Int32) (m0 : Mem) (v : Bool) (m' : Mem) (hF : F_M_holdsLine a1 a2 a3 a4 m0 = some (v, m')) : Fr [85] [] m0 m' := by
  unfold F_M_holdsLine at hF
  have hf : Fr [85] [] m0 m0 := Fr_rf
  obtain ⟨xq1, exq1, hF⟩ := lt_ex hF
  obtain ⟨-, hF⟩ := ckB_ex hF
  obtain ⟨xq3, exq3, hF⟩ := lt_ex hF
  obtain ⟨k273_5, ek273_5, hF⟩ := lt_ex hF
  have Jk273_5 : ∀ (xq5 : Int32) (mq4 : Mem), Fr [85] [] m0 mq4 → k273_5 xq5 mq4 = some (v, m') → Fr [85] [] m0 m' := by
    intro xq5 mq4 hf hF
    rw [ek273_5] at hF
    rcases if_ex hF with hF | hF
    · cases hF
      exact hf
    · rcases if_ex hF with hF | hF
      · cases hF
        exact hf
      · cases hF
        exact hf
  exact fr_M_holdsLine_L23 a2 a3 a4 xq1 k273_5 m0 _ _ Jk273_5 1000000 (0 : Int32) xq3 m0 hf hF
set_option maxHeartbeats 4000000 in
theorem fr_M_levelOf_L17 (a1 : Int32) (a2 : Int32) (a3 : Int32) (k70_2 : Int32 → Mem → Option (Int32 × Mem)) (mB : Mem) (v : Int32) (m' : Mem) (Jk70_2 : ∀ (b0 : Int32) (b1 : Mem), Fr [85] [] mB b1 → k70_2 b0 b1 = some (v, m') → Fr [85] [] mB m') : ∀ (nf : Nat) (xq4 : Int32) (xq5 : Int32) (mq3 : Mem), Fr [85] [] mB mq3 → F_M_levelOf_L17 a1 a2 a3 k70_2 nf xq4 xq5 mq3 = some (v, m') → Fr [85] [] mB m' := by
  intro nf
  induction nf with
  | zero =>
    intro xq4 xq5 mq3 hf hF
    rw [F_M_levelOf_L17] at hF
    cases hF
  | succ nfq6 ih =>
    intro xq4 xq5 mq3 hf hF
    rw [F_M_levelOf_L17] at hF
    rcases if_ex hF with hF | hF
    · exact Jk70_2 xq4 mq3 hf hF
    · obtain ⟨zq10, mq8, hz, hF⟩ := bnd_ex hF
      have hf := Fr_tr hf (fr_M_holdsLine xq5 a1 a2 a3 mq3 _ _ hz) (by decide) (by decide)
      obtain ⟨k61_12, ek61_12, hF⟩ := lt_ex hF
      have Jk61_12 : ∀ (xq12 : Int32) (mq11 : Mem), Fr [85] [] mB mq11 → k61_12 xq12 mq11 = some (v, m') → Fr [85] [] mB m' := by
        intro xq12 mq11 hf hF
        rw [ek61_12] at hF
        obtain ⟨xq13, exq13, hF⟩ := lt_ex hF
        obtain ⟨xq14, exq14, hF⟩ := lt_ex hF
        exact ih xq13 xq14 mq11 hf hF
      rcases if_ex hF with hF | hF
      · obtain ⟨-, hF⟩ := ckB_ex hF
        obtain ⟨xq16, exq16, hF⟩ := lt_ex hF
        exact Jk61_12 xq16 mq8 hf hF
      · exact Jk61_12 (0 : Int32) mq8 hf hF
set_option maxHeartbeats 4000000 in
theorem fr_M_levelOf (a1 : Int32) (a2 : Int32) (a3 : Int32) (m0 : Mem) (v : Int32) (m' : Mem) (hF : F_M_levelOf a1 a2 a3 m0 = some (v, m')) : Fr [85] [] m0 m' := by
  unfold F_M_levelOf at hF
  have hf : Fr [85] [] m0 m0 := Fr_rf
  rcases if_ex hF with hF | hF
  · cases hF
    exact hf
  · obtain ⟨k70_2, ek70_2, hF⟩ := lt_ex hF
    have Jk70_2 : ∀ (xq2 : Int32) (mq1 : Mem), Fr [85] [] m0 mq1 → k70_2 xq2 mq1 = some (v, m') → Fr [85] [] m0 m' := by
      intro xq2 mq1 hf hF
      rw [ek70_2] at hF
      cases hF
      exact hf
    exact fr_M_levelOf_L17 a1 a2 a3 k70_2 m0 _ _ Jk70_2 1000000 (0 : Int32) (0 : Int32) m0 hf hF
set_option maxHeartbeats 4000000 in
theorem fr_M_laysLevels_L2 (a1 : Int32) (mB : Mem) (v : Unit) (m' : Mem) : ∀ (nf : Nat) (xq2 : Int32) (mq1 : Mem), Fr [85, 88] [] mB mq1 → F_M_laysLevels_L2 a1 nf xq2 mq1 = some (v, m') → Fr [85, 88] [] mB m' := by
  intro nf
  induction nf with
  | zero =>
    intro xq2 mq1 hf hF
    rw [F_M_laysLevels_L2] at hF
    cases hF
  | succ nfq3 ih =>
    intro xq2 mq1 hf hF
    rw [F_M_laysLevels_L2] at hF
    rcases if_ex hF with hF | hF
    · cases hF
      exact hf
    · obtain ⟨xq7, mq5, hz, hF⟩ := bnd_ex hF
      have hf := Fr_tr hf (fr_M_inningsOf xq2 mq1 _ _ hz) (by decide) (by decide)
      obtain ⟨xq10, mq8, hz, hF⟩ := bnd_ex hF
      have hf := Fr_tr hf (fr_M_inningsOf xq2 mq5 _ _ hz) (by decide) (by decide)
      obtain ⟨zq13, mq11, hz, hF⟩ := bnd_ex hF
      have hf := Fr_tr hf (fr_M_isBehind xq2 mq8 _ _ hz) (by decide) (by decide)
      obtain ⟨xq16, mq14, hz, hF⟩ := bnd_ex hF
      have hf := Fr_tr hf (fr_M_batting (gI mq5 78 20) xq10 zq13 mq11 _ _ hz) (by decide) (by decide)
      obtain ⟨xq19, mq17, hz, hF⟩ := bnd_ex hF
      have hf := Fr_tr hf (fr_M_levelOf a1 xq7 xq16 mq14 _ _ hz) (by decide) (by decide)
      obtain ⟨-, hF⟩ := ckB_ex hF
      obtain ⟨mq20, emq20, hF⟩ := lt_ex hF
      have hf := Fr_sI emq20 hf (Or.inl (by decide))
      obtain ⟨xq22, exq22, hF⟩ := lt_ex hF
      exact ih xq22 mq20 hf hF
set_option maxHeartbeats 4000000 in
theorem fr_M_laysLevels (a1 : Int32) (m0 : Mem) (v : Unit) (m' : Mem) (hF : F_M_laysLevels a1 m0 = some (v, m')) : Fr [85, 88] [] m0 m' := by
  unfold F_M_laysLevels at hF
  have hf : Fr [85, 88] [] m0 m0 := Fr_rf
  exact fr_M_laysLevels_L2 a1 m0 _ _  1000000 (0 : Int32) m0 hf hF
set_option maxHeartbeats 4000000 in
theorem fr_M_has (a0 : Int32) (a1 : Int32) (m0 : Mem) (v : Bool) (m' : Mem) (hF : F_M_has a0 a1 m0 = some (v, m')) : Fr [] [] m0 m' := by
  unfold F_M_has at hF
  have hf : Fr [] [] m0 m0 := Fr_rf
  rcases if_ex hF with hF | hF
  · cases hF
    exact hf
  · cases hF
    exact hf
set_option maxHeartbeats 4000000 in
theorem fr_M_isRain (a1 : Int32) (m0 : Mem) (v : Bool) (m' : Mem) (hF : F_M_isRain a1 m0 = some (v, m')) : Fr [] [] m0 m' := by
  unfold F_M_isRain at hF
  have hf : Fr [] [] m0 m0 := Fr_rf
  obtain ⟨zq3, mq1, hz, hF⟩ := bnd_ex hF
  have hf := Fr_tr hf (fr_M_has (gI m0 79 8) a1 m0 _ _ hz) (by decide) (by decide)
  cases hF
  exact hf
set_option maxHeartbeats 4000000 in
theorem fr_M_ofSlot (a1 : Int32) (a2 : Int32) (a3 : Int32) (m0 : Mem) (v : Int32) (m' : Mem) (hF : F_M_ofSlot a1 a2 a3 m0 = some (v, m')) : Fr [] [] m0 m' := by
  unfold F_M_ofSlot at hF
  have hf : Fr [] [] m0 m0 := Fr_rf
  obtain ⟨xq1, exq1, hF⟩ := lt_ex hF
  obtain ⟨-, hF⟩ := ckB_ex hF
  obtain ⟨xq3, exq3, hF⟩ := lt_ex hF
  cases hF
  exact hf
set_option maxHeartbeats 4000000 in
theorem fr_M_runsOf (a1 : Int32) (a2 : Int32) (a3 : Int32) (a4 : Bool) (m0 : Mem) (v : Int32) (m' : Mem) (hF : F_M_runsOf a1 a2 a3 a4 m0 = some (v, m')) : Fr [] [] m0 m' := by
  unfold F_M_runsOf at hF
  have hf : Fr [] [] m0 m0 := Fr_rf
  rcases if_ex hF with hF | hF
  · cases hF
    exact hf
  · obtain ⟨zq3, mq1, hz, hF⟩ := bnd_ex hF
    have hf := Fr_tr hf (fr_M_isRain a1 m0 _ _ hz) (by decide) (by decide)
    rcases if_ex hF with hF | hF
    · cases hF
      exact hf
    · obtain ⟨-, hF⟩ := ckB_ex hF
      obtain ⟨xq5, exq5, hF⟩ := lt_ex hF
      obtain ⟨xq8, mq6, hz, hF⟩ := bnd_ex hF
      have hf := Fr_tr hf (fr_M_ofSlot xq5 a3 (0 : Int32) mq1 _ _ hz) (by decide) (by decide)
      cases hF
      exact hf
set_option maxHeartbeats 4000000 in
theorem fr_M_outsOf (a1 : Int32) (a2 : Int32) (a3 : Int32) (a4 : Bool) (m0 : Mem) (v : Int32) (m' : Mem) (hF : F_M_outsOf a1 a2 a3 a4 m0 = some (v, m')) : Fr [] [] m0 m' := by
  unfold F_M_outsOf at hF
  have hf : Fr [] [] m0 m0 := Fr_rf
  obtain ⟨zq3, mq1, hz, hF⟩ := bnd_ex hF
  have hf := Fr_tr hf (fr_M_isRain a1 m0 _ _ hz) (by decide) (by decide)
  rcases if_ex hF with hF | hF
  · cases hF
    exact hf
  · obtain ⟨-, hF⟩ := ckB_ex hF
    obtain ⟨xq5, exq5, hF⟩ := lt_ex hF
    obtain ⟨xq8, mq6, hz, hF⟩ := bnd_ex hF
    have hf := Fr_tr hf (fr_M_ofSlot xq5 a3 (1 : Int32) mq1 _ _ hz) (by decide) (by decide)
    obtain ⟨k35_10, ek35_10, hF⟩ := lt_ex hF
    have Jk35_10 : ∀ (zq10 : Bool) (mq9 : Mem), Fr [] [] m0 mq9 → k35_10 zq10 mq9 = some (v, m') → Fr [] [] m0 m' := by
      intro zq10 mq9 hf hF
      rw [ek35_10] at hF
      cases hF
      exact hf
    rcases if_ex hF with hF | hF
    · exact Jk35_10 true mq6 hf hF
    · exact Jk35_10 false mq6 hf hF
set_option maxHeartbeats 4000000 in
theorem fr_M_nextKind (a0 : Int32) (m0 : Mem) (v : Int32) (m' : Mem) (hF : F_M_nextKind a0 m0 = some (v, m')) : Fr [] [] m0 m' := by
  unfold F_M_nextKind at hF
  have hf : Fr [] [] m0 m0 := Fr_rf
  rcases if_ex hF with hF | hF
  · cases hF
    exact hf
  · cases hF
    exact hf
set_option maxHeartbeats 4000000 in
theorem fr_M_cell (a0 : Int32) (a1 : Int32) (a2 : Int32) (a3 : Int32) (m0 : Mem) (v : Int32) (m' : Mem) (hF : F_M_cell a0 a1 a2 a3 m0 = some (v, m')) : Fr [] [] m0 m' := by
  unfold F_M_cell at hF
  have hf : Fr [] [] m0 m0 := Fr_rf
  obtain ⟨xq1, exq1, hF⟩ := lt_ex hF
  obtain ⟨xq2, exq2, hF⟩ := lt_ex hF
  cases hF
  exact hf
set_option maxHeartbeats 4000000 in
theorem fr_M_all (a1 : Int32) (m0 : Mem) (v : Int32) (m' : Mem) (hF : F_M_all a1 m0 = some (v, m')) : Fr [] [] m0 m' := by
  unfold F_M_all at hF
  have hf : Fr [] [] m0 m0 := Fr_rf
  obtain ⟨xq3, mq1, hz, hF⟩ := bnd_ex hF
  have hf := Fr_tr hf (fr_M_size m0 _ _ hz) (by decide) (by decide)
  obtain ⟨xq4, exq4, hF⟩ := lt_ex hF
  cases hF
  exact hf
set_option maxHeartbeats 4000000 in
theorem fr_M_brings (a1 : Int32) (a2 : Int32) (a3 : Int32) (a4 : Int32) (a5 : Int32) (a6 : Bool) (m0 : Mem) (v : Unit) (m' : Mem) (hF : F_M_brings a1 a2 a3 a4 a5 a6 m0 = some (v, m')) : Fr [] [(78, 23), (78, 24)] m0 m' := by
  unfold F_M_brings at hF
  have hf : Fr [] [(78, 23), (78, 24)] m0 m0 := Fr_rf
  obtain ⟨xq3, mq1, hz, hF⟩ := bnd_ex hF
  have hf := Fr_tr hf (fr_M_runsOf a1 a2 a5 a6 m0 _ _ hz) (by decide) (by decide)
  obtain ⟨xq4, exq4, hF⟩ := lt_ex hF
  obtain ⟨k26_6, ek26_6, hF⟩ := lt_ex hF
  have Jk26_6 : ∀ (xq6 : Int32) (mq5 : Mem), Fr [] [(78, 23), (78, 24)] m0 mq5 → k26_6 xq6 mq5 = some (v, m') → Fr [] [(78, 23), (78, 24)] m0 m' := by
    intro xq6 mq5 hf hF
    rw [ek26_6] at hF
    obtain ⟨xq9, mq7, hz, hF⟩ := bnd_ex hF
    have hf := Fr_tr hf (fr_M_outsOf a1 a2 a5 a6 mq5 _ _ hz) (by decide) (by decide)
    obtain ⟨xq10, exq10, hF⟩ := lt_ex hF
    obtain ⟨k68_11, ek68_11, hF⟩ := lt_ex hF
    have Jk68_11 : ∀ (mq11 : Mem), Fr [] [(78, 23), (78, 24)] m0 mq11 → k68_11 mq11 = some (v, m') → Fr [] [(78, 23), (78, 24)] m0 m' := by
      intro mq11 hf hF
      rw [ek68_11] at hF
      rcases if_ex hF with hF | hF
      · rcases if_ex hF with hF | hF
        · obtain ⟨xq14, mq12, hz, hF⟩ := bnd_ex hF
          have hf := Fr_tr hf (fr_M_nextKind a2 mq11 _ _ hz) (by decide) (by decide)
          obtain ⟨k204_15, ek204_15, hF⟩ := lt_ex hF
          have Jk204_15 : ∀ (mq15 : Mem), Fr [] [(78, 23), (78, 24)] m0 mq15 → k204_15 mq15 = some (v, m') → Fr [] [(78, 23), (78, 24)] m0 m' := by
            intro mq15 hf hF
            rw [ek204_15] at hF
            obtain ⟨xq18, mq16, hz, hF⟩ := bnd_ex hF
            have hf := Fr_tr hf (fr_M_size mq15 _ _ hz) (by decide) (by decide)
            rcases if_ex hF with hF | hF
            · cases hF
              exact hf
            · obtain ⟨xq21, mq19, hz, hF⟩ := bnd_ex hF
              have hf := Fr_tr hf (fr_M_nextKind a2 mq16 _ _ hz) (by decide) (by decide)
              obtain ⟨xq24, mq22, hz, hF⟩ := bnd_ex hF
              have hf := Fr_tr hf (fr_M_cell (a1 + (1 : Int32)) xq21 (10 : Int32) (-xq4) mq19 _ _ hz) (by decide) (by decide)
              obtain ⟨-, hF⟩ := ckB_ex hF
              obtain ⟨xq26, exq26, hF⟩ := lt_ex hF
              obtain ⟨mq27, emq27, hF⟩ := lt_ex hF
              have hf := Fr_sI emq27 hf (Or.inr (by decide))
              obtain ⟨xq30, mq28, hz, hF⟩ := bnd_ex hF
              have hf := Fr_tr hf (fr_M_nextKind a2 mq27 _ _ hz) (by decide) (by decide)
              obtain ⟨xq33, mq31, hz, hF⟩ := bnd_ex hF
              have hf := Fr_tr hf (fr_M_cell (a1 + (1 : Int32)) xq30 (10 : Int32) (-xq4) mq28 _ _ hz) (by decide) (by decide)
              obtain ⟨-, hF⟩ := ckB_ex hF
              obtain ⟨xq35, exq35, hF⟩ := lt_ex hF
              obtain ⟨mq36, emq36, hF⟩ := lt_ex hF
              have hf := Fr_sI emq36 hf (Or.inr (by decide))
              cases hF
              exact hf
          rcases if_ex hF with hF | hF
          · exact Jk204_15 mq12 hf hF
          · rcases if_ex hF with hF | hF
            · exact Jk204_15 mq12 hf hF
            · obtain ⟨xq39, mq37, hz, hF⟩ := bnd_ex hF
              have hf := Fr_tr hf (fr_M_all (a1 + (1 : Int32)) mq12 _ _ hz) (by decide) (by decide)
              obtain ⟨mq40, emq40, hF⟩ := lt_ex hF
              have hf := Fr_sI emq40 hf (Or.inr (by decide))
              cases hF
              exact hf
        · obtain ⟨k165_42, ek165_42, hF⟩ := lt_ex hF
          have Jk165_42 : ∀ (xq42 : Int32) (mq41 : Mem), Fr [] [(78, 23), (78, 24)] m0 mq41 → k165_42 xq42 mq41 = some (v, m') → Fr [] [(78, 23), (78, 24)] m0 m' := by
            intro xq42 mq41 hf hF
            rw [ek165_42] at hF
            obtain ⟨mq43, emq43, hF⟩ := lt_ex hF
            have hf := Fr_sI emq43 hf (Or.inr (by decide))
            cases hF
            exact hf
          rcases if_ex hF with hF | hF
          · exact Jk165_42 (0 : Int32) mq11 hf hF
          · obtain ⟨xq46, mq44, hz, hF⟩ := bnd_ex hF
            have hf := Fr_tr hf (fr_M_all (a1 + (1 : Int32)) mq11 _ _ hz) (by decide) (by decide)
            exact Jk165_42 xq46 mq44 hf hF
      · obtain ⟨xq49, mq47, hz, hF⟩ := bnd_ex hF
        have hf := Fr_tr hf (fr_M_size mq11 _ _ hz) (by decide) (by decide)
        rcases if_ex hF with hF | hF
        · cases hF
          exact hf
        · obtain ⟨xq52, mq50, hz, hF⟩ := bnd_ex hF
          have hf := Fr_tr hf (fr_M_cell (a1 + (1 : Int32)) a2 xq10 xq4 mq47 _ _ hz) (by decide) (by decide)
          obtain ⟨-, hF⟩ := ckB_ex hF
          obtain ⟨xq54, exq54, hF⟩ := lt_ex hF
          obtain ⟨mq55, emq55, hF⟩ := lt_ex hF
          have hf := Fr_sI emq55 hf (Or.inr (by decide))
          obtain ⟨xq58, mq56, hz, hF⟩ := bnd_ex hF
          have hf := Fr_tr hf (fr_M_cell (a1 + (1 : Int32)) a2 xq10 xq4 mq55 _ _ hz) (by decide) (by decide)
          obtain ⟨-, hF⟩ := ckB_ex hF
          obtain ⟨xq60, exq60, hF⟩ := lt_ex hF
          obtain ⟨mq61, emq61, hF⟩ := lt_ex hF
          have hf := Fr_sI emq61 hf (Or.inr (by decide))
          cases hF
          exact hf
    rcases if_ex hF with hF | hF
    · exact Jk68_11 mq7 hf hF
    · rcases if_ex hF with hF | hF
      · exact Jk68_11 mq7 hf hF
      · obtain ⟨xq64, mq62, hz, hF⟩ := bnd_ex hF
        have hf := Fr_tr hf (fr_M_all (a1 + (1 : Int32)) mq7 _ _ hz) (by decide) (by decide)
        obtain ⟨mq65, emq65, hF⟩ := lt_ex hF
        have hf := Fr_sI emq65 hf (Or.inr (by decide))
        cases hF
        exact hf
  rcases if_ex hF with hF | hF
  · exact Jk26_6 (0 : Int32) mq1 hf hF
  · exact Jk26_6 a3 mq1 hf hF
set_option maxHeartbeats 4000000 in
theorem fr_M_goesOn_L13 (a1 : Int32) (a2 : Int32) (a3 : Int32) (a4 : Int32) (a5 : Bool) (mB : Mem) (v : Unit) (m' : Mem) : ∀ (nf : Nat) (xq4 : Int32) (mq3 : Mem), Fr [] [(78, 23), (78, 24)] mB mq3 → F_M_goesOn_L13 a1 a2 a3 a4 a5 nf xq4 mq3 = some (v, m') → Fr [] [(78, 23), (78, 24)] mB m' := by
  intro nf
  induction nf with
  | zero =>
    intro xq4 mq3 hf hF
    rw [F_M_goesOn_L13] at hF
    cases hF
  | succ nfq5 ih =>
    intro xq4 mq3 hf hF
    rw [F_M_goesOn_L13] at hF
    rcases if_ex hF with hF | hF
    · cases hF
      exact hf
    · obtain ⟨u_, mq7, hz, hF⟩ := bnd_ex hF
      have hf := Fr_tr hf (fr_M_brings a1 a2 a3 a4 xq4 a5 mq3 _ _ hz) (by decide) (by decide)
      obtain ⟨xq10, exq10, hF⟩ := lt_ex hF
      exact ih xq10 mq7 hf hF
set_option maxHeartbeats 4000000 in
theorem fr_M_goesOn (a1 : Int32) (a2 : Int32) (a3 : Int32) (a4 : Int32) (a5 : Bool) (m0 : Mem) (v : Unit) (m' : Mem) (hF : F_M_goesOn a1 a2 a3 a4 a5 m0 = some (v, m')) : Fr [] [(78, 23), (78, 24)] m0 m' := by
  unfold F_M_goesOn at hF
  have hf : Fr [] [(78, 23), (78, 24)] m0 m0 := Fr_rf
  obtain ⟨mq1, emq1, hF⟩ := lt_ex hF
  have hf := Fr_sI emq1 hf (Or.inr (by decide))
  obtain ⟨mq2, emq2, hF⟩ := lt_ex hF
  have hf := Fr_sI emq2 hf (Or.inr (by decide))
  exact fr_M_goesOn_L13 a1 a2 a3 a4 a5 m0 _ _  1000000 (0 : Int32) mq2 hf hF
set_option maxHeartbeats 4000000 in
theorem fr_M_worthOf (a1 : Int32) (a2 : Int32) (a3 : Int32) (m0 : Mem) (v : Int64) (m' : Mem) (hF : F_M_worthOf a1 a2 a3 m0 = some (v, m')) : Fr [] [] m0 m' := by
  unfold F_M_worthOf at hF
  have hf : Fr [] [] m0 m0 := Fr_rf
  obtain ⟨xq3, mq1, hz, hF⟩ := bnd_ex hF
  have hf := Fr_tr hf (fr_M_all a1 m0 _ _ hz) (by decide) (by decide)
  obtain ⟨yq4, eyq4, hF⟩ := lt_ex hF
  cases hF
  exact hf
set_option maxHeartbeats 4000000 in
theorem fr_M_got (a1 : Int32) (m0 : Mem) (v : Int64) (m' : Mem) (hF : F_M_got a1 m0 = some (v, m')) : Fr [] [] m0 m' := by
  unfold F_M_got at hF
  have hf : Fr [] [] m0 m0 := Fr_rf
  obtain ⟨yq3, mq1, hz, hF⟩ := bnd_ex hF
  have hf := Fr_tr hf (fr_M_worthOf a1 (gI m0 78 23) (gI m0 78 24) m0 _ _ hz) (by decide) (by decide)
  cases hF
  exact hf
set_option maxHeartbeats 4000000 in
theorem fr_M_mayDeclare (a1 : Int32) (a2 : Int32) (m0 : Mem) (v : Bool) (m' : Mem) (hF : F_M_mayDeclare a1 a2 m0 = some (v, m')) : Fr [] [] m0 m' := by
  unfold F_M_mayDeclare at hF
  have hf : Fr [] [] m0 m0 := Fr_rf
  rcases if_ex hF with hF | hF
  · cases hF
    exact hf
  · rcases if_ex hF with hF | hF
    · cases hF
      exact hf
    · cases hF
      exact hf
set_option maxHeartbeats 4000000 in
theorem fr_M_mayFollow (a1 : Int32) (a2 : Int32) (a3 : Int32) (m0 : Mem) (v : Bool) (m' : Mem) (hF : F_M_mayFollow a1 a2 a3 m0 = some (v, m')) : Fr [] [] m0 m' := by
  unfold F_M_mayFollow at hF
  have hf : Fr [] [] m0 m0 := Fr_rf
  rcases if_ex hF with hF | hF
  · rcases if_ex hF with hF | hF
    · rcases if_ex hF with hF | hF
      · cases hF
        exact hf
      · cases hF
        exact hf
    · cases hF
      exact hf
  · cases hF
    exact hf
set_option maxHeartbeats 4000000 in
theorem fr_M_handsOver (a1 : Int32) (a2 : Int32) (a3 : Int32) (m0 : Mem) (v : Unit) (m' : Mem) (hF : F_M_handsOver a1 a2 a3 m0 = some (v, m')) : Fr [] [(78, 23), (78, 24)] m0 m' := by
  unfold F_M_handsOver at hF
  have hf : Fr [] [(78, 23), (78, 24)] m0 m0 := Fr_rf
  obtain ⟨xq3, mq1, hz, hF⟩ := bnd_ex hF
  have hf := Fr_tr hf (fr_M_cell a1 a2 (10 : Int32) (-a3) m0 _ _ hz) (by decide) (by decide)
  obtain ⟨-, hF⟩ := ckB_ex hF
  obtain ⟨xq5, exq5, hF⟩ := lt_ex hF
  obtain ⟨mq6, emq6, hF⟩ := lt_ex hF
  have hf := Fr_sI emq6 hf (Or.inr (by decide))
  obtain ⟨xq9, mq7, hz, hF⟩ := bnd_ex hF
  have hf := Fr_tr hf (fr_M_cell a1 a2 (10 : Int32) (-a3) mq6 _ _ hz) (by decide) (by decide)
  obtain ⟨-, hF⟩ := ckB_ex hF
  obtain ⟨xq11, exq11, hF⟩ := lt_ex hF
  obtain ⟨mq12, emq12, hF⟩ := lt_ex hF
  have hf := Fr_sI emq12 hf (Or.inr (by decide))
  cases hF
  exact hf
set_option maxHeartbeats 4000000 in
theorem fr_M_tries (a1 : Int32) (a2 : Int32) (a3 : Int32) (a4 : Int32) (m0 : Mem) (v : Unit) (m' : Mem) (hF : F_M_tries a1 a2 a3 a4 m0 = some (v, m')) : Fr [] [(78, 23), (78, 24)] m0 m' := by
  unfold F_M_tries at hF
  have hf : Fr [] [(78, 23), (78, 24)] m0 m0 := Fr_rf
  rcases if_ex hF with hF | hF
  · obtain ⟨zq3, mq1, hz, hF⟩ := bnd_ex hF
    have hf := Fr_tr hf (fr_M_mayDeclare a2 a3 m0 _ _ hz) (by decide) (by decide)
    rcases if_ex hF with hF | hF
    · obtain ⟨xq12, mq10, hz, hF⟩ := bnd_ex hF
      have hf := Fr_tr hf (fr_M_nextKind a2 mq1 _ _ hz) (by decide) (by decide)
      obtain ⟨u_, mq13, hz, hF⟩ := bnd_ex hF
      have hf := Fr_tr hf (fr_M_handsOver a1 xq12 a4 mq10 _ _ hz) (by decide) (by decide)
      cases hF
      exact hf
    · obtain ⟨zq6, mq4, hz, hF⟩ := bnd_ex hF
      have hf := Fr_tr hf (fr_M_mayFollow a2 a3 a4 mq1 _ _ hz) (by decide) (by decide)
      rcases if_ex hF with hF | hF
      · obtain ⟨u_, mq7, hz, hF⟩ := bnd_ex hF
        have hf := Fr_tr hf (fr_M_handsOver a1 (3 : Int32) a4 mq4 _ _ hz) (by decide) (by decide)
        cases hF
        exact hf
      · cases hF
        exact hf
  · obtain ⟨u_, mq16, hz, hF⟩ := bnd_ex hF
    have hf := Fr_tr hf (fr_M_goesOn a1 a2 a3 a4 true m0 _ _ hz) (by decide) (by decide)
    cases hF
    exact hf
