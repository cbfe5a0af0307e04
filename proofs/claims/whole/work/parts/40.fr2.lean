set_option maxHeartbeats 4000000 in
theorem fr_M_chooses (a1 : Int32) (a2 : Int32) (a3 : Int32) (a4 : Int32) (m0 : Mem) (v : Bool) (m' : Mem) (hF : F_M_chooses a1 a2 a3 a4 m0 = some (v, m')) : Fr [] [(78, 23), (78, 24)] m0 m' := by
  unfold F_M_chooses at hF
  have hf : Fr [] [(78, 23), (78, 24)] m0 m0 := Fr_rf
  obtain ⟨xq1, exq1, hF⟩ := lt_ex hF
  obtain ⟨xq2, exq2, hF⟩ := lt_ex hF
  obtain ⟨yq5, mq3, hz, hF⟩ := bnd_ex hF
  have hf := Fr_tr hf (fr_M_got a1 m0 _ _ hz) (by decide) (by decide)
  obtain ⟨u_, mq6, hz, hF⟩ := bnd_ex hF
  have hf := Fr_tr hf (fr_M_tries a1 a2 a3 a4 mq3 _ _ hz) (by decide) (by decide)
  obtain ⟨yq11, mq9, hz, hF⟩ := bnd_ex hF
  have hf := Fr_tr hf (fr_M_got a1 mq6 _ _ hz) (by decide) (by decide)
  rcases if_ex hF with hF | hF
  · obtain ⟨mq12, emq12, hF⟩ := lt_ex hF
    have hf := Fr_sI emq12 hf (Or.inr (by decide))
    obtain ⟨mq13, emq13, hF⟩ := lt_ex hF
    have hf := Fr_sI emq13 hf (Or.inr (by decide))
    cases hF
    exact hf
  · cases hF
    exact hf
set_option maxHeartbeats 4000000 in
theorem fr_M_counts (a1 : Int32) (a2 : Int32) (a3 : Int32) (a4 : Int32) (m0 : Mem) (v : Unit) (m' : Mem) (hF : F_M_counts a1 a2 a3 a4 m0 = some (v, m')) : Fr [] [(78, 23), (78, 24)] m0 m' := by
  unfold F_M_counts at hF
  have hf : Fr [] [(78, 23), (78, 24)] m0 m0 := Fr_rf
  obtain ⟨k25_1, ek25_1, hF⟩ := lt_ex hF
  have Jk25_1 : ∀ (mq1 : Mem), Fr [] [(78, 23), (78, 24)] m0 mq1 → k25_1 mq1 = some (v, m') → Fr [] [(78, 23), (78, 24)] m0 m' := by
    intro mq1 hf hF
    rw [ek25_1] at hF
    obtain ⟨u_, mq2, hz, hF⟩ := bnd_ex hF
    have hf := Fr_tr hf (fr_M_goesOn a1 a2 a3 a4 false mq1 _ _ hz) (by decide) (by decide)
    rcases if_ex hF with hF | hF
    · cases hF
      exact hf
    · obtain ⟨zq7, mq5, hz, hF⟩ := bnd_ex hF
      have hf := Fr_tr hf (fr_M_chooses a1 a2 a3 a4 mq2 _ _ hz) (by decide) (by decide)
      cases hF
      exact hf
  rcases if_ex hF with hF | hF
  · exact Jk25_1 m0 hf hF
  · rcases if_ex hF with hF | hF
    · exact Jk25_1 m0 hf hF
    · obtain ⟨xq10, mq8, hz, hF⟩ := bnd_ex hF
      have hf := Fr_tr hf (fr_M_all a1 m0 _ _ hz) (by decide) (by decide)
      obtain ⟨mq11, emq11, hF⟩ := lt_ex hF
      have hf := Fr_sI emq11 hf (Or.inr (by decide))
      obtain ⟨mq12, emq12, hF⟩ := lt_ex hF
      have hf := Fr_sI emq12 hf (Or.inr (by decide))
      cases hF
      exact hf
set_option maxHeartbeats 4000000 in
theorem fr_M_layers_L71 (xq10 : Int32) (xq16 : Int32) (xq20 : Int32) (xq26 : Int32) (k136_30 : Mem → Option (Unit × Mem)) (mB : Mem) (v : Unit) (m' : Mem) (Jk136_30 : ∀ (b0 : Mem), Fr [85, 86, 87, 88] [(78, 20), (78, 23), (78, 24)] mB b0 → k136_30 b0 = some (v, m') → Fr [85, 86, 87, 88] [(78, 20), (78, 23), (78, 24)] mB m') : ∀ (nf : Nat) (xq33 : Int32) (mq32 : Mem), Fr [85, 86, 87, 88] [(78, 20), (78, 23), (78, 24)] mB mq32 → F_M_layers_L71 xq10 xq16 xq20 xq26 k136_30 nf xq33 mq32 = some (v, m') → Fr [85, 86, 87, 88] [(78, 20), (78, 23), (78, 24)] mB m' := by
  intro nf
  induction nf with
  | zero =>
    intro xq33 mq32 hf hF
    rw [F_M_layers_L71] at hF
    cases hF
  | succ nfq34 ih =>
    intro xq33 mq32 hf hF
    rw [F_M_layers_L71] at hF
    rcases if_ex hF with hF | hF
    · exact Jk136_30 mq32 hf hF
    · obtain ⟨u_, mq36, hz, hF⟩ := bnd_ex hF
      have hf := Fr_tr hf (fr_M_counts xq10 xq20 xq26 xq33 mq32 _ _ hz) (by decide) (by decide)
      obtain ⟨xq41, mq39, hz, hF⟩ := bnd_ex hF
      have hf := Fr_tr hf (fr_M_cell xq10 xq20 xq26 xq33 mq36 _ _ hz) (by decide) (by decide)
      obtain ⟨-, hF⟩ := ckB_ex hF
      obtain ⟨mq42, emq42, hF⟩ := lt_ex hF
      have hf := Fr_sI emq42 hf (Or.inl (by decide))
      obtain ⟨xq46, mq44, hz, hF⟩ := bnd_ex hF
      have hf := Fr_tr hf (fr_M_cell xq10 xq20 xq26 xq33 mq42 _ _ hz) (by decide) (by decide)
      obtain ⟨-, hF⟩ := ckB_ex hF
      obtain ⟨mq47, emq47, hF⟩ := lt_ex hF
      have hf := Fr_sI emq47 hf (Or.inl (by decide))
      obtain ⟨xq49, exq49, hF⟩ := lt_ex hF
      exact ih xq49 mq47 hf hF
set_option maxHeartbeats 4000000 in
theorem fr_M_layers_L59 (xq10 : Int32) (xq16 : Int32) (xq20 : Int32) (k142_23 : Mem → Option (Unit × Mem)) (mB : Mem) (v : Unit) (m' : Mem) (Jk142_23 : ∀ (b0 : Mem), Fr [85, 86, 87, 88] [(78, 20), (78, 23), (78, 24)] mB b0 → k142_23 b0 = some (v, m') → Fr [85, 86, 87, 88] [(78, 20), (78, 23), (78, 24)] mB m') : ∀ (nf : Nat) (xq26 : Int32) (mq25 : Mem), Fr [85, 86, 87, 88] [(78, 20), (78, 23), (78, 24)] mB mq25 → F_M_layers_L59 xq10 xq16 xq20 k142_23 nf xq26 mq25 = some (v, m') → Fr [85, 86, 87, 88] [(78, 20), (78, 23), (78, 24)] mB m' := by
  intro nf
  induction nf with
  | zero =>
    intro xq26 mq25 hf hF
    rw [F_M_layers_L59] at hF
    cases hF
  | succ nfq27 ih =>
    intro xq26 mq25 hf hF
    rw [F_M_layers_L59] at hF
    rcases if_ex hF with hF | hF
    · exact Jk142_23 mq25 hf hF
    · obtain ⟨xq29, exq29, hF⟩ := lt_ex hF
      obtain ⟨k136_30, ek136_30, hF⟩ := lt_ex hF
      have Jk136_30 : ∀ (mq30 : Mem), Fr [85, 86, 87, 88] [(78, 20), (78, 23), (78, 24)] mB mq30 → k136_30 mq30 = some (v, m') → Fr [85, 86, 87, 88] [(78, 20), (78, 23), (78, 24)] mB m' := by
        intro mq30 hf hF
        rw [ek136_30] at hF
        obtain ⟨xq31, exq31, hF⟩ := lt_ex hF
        exact ih xq31 mq30 hf hF
      exact fr_M_layers_L71 xq10 xq16 xq20 xq26 k136_30 mB _ _ Jk136_30 1000000 xq29 mq25 hf hF
set_option maxHeartbeats 4000000 in
theorem fr_M_layers_L51 (xq10 : Int32) (xq16 : Int32) (k148_17 : Mem → Option (Unit × Mem)) (mB : Mem) (v : Unit) (m' : Mem) (Jk148_17 : ∀ (b0 : Mem), Fr [85, 86, 87, 88] [(78, 20), (78, 23), (78, 24)] mB b0 → k148_17 b0 = some (v, m') → Fr [85, 86, 87, 88] [(78, 20), (78, 23), (78, 24)] mB m') : ∀ (nf : Nat) (xq20 : Int32) (mq19 : Mem), Fr [85, 86, 87, 88] [(78, 20), (78, 23), (78, 24)] mB mq19 → F_M_layers_L51 xq10 xq16 k148_17 nf xq20 mq19 = some (v, m') → Fr [85, 86, 87, 88] [(78, 20), (78, 23), (78, 24)] mB m' := by
  intro nf
  induction nf with
  | zero =>
    intro xq20 mq19 hf hF
    rw [F_M_layers_L51] at hF
    cases hF
  | succ nfq21 ih =>
    intro xq20 mq19 hf hF
    rw [F_M_layers_L51] at hF
    rcases if_ex hF with hF | hF
    · exact Jk148_17 mq19 hf hF
    · obtain ⟨k142_23, ek142_23, hF⟩ := lt_ex hF
      have Jk142_23 : ∀ (mq23 : Mem), Fr [85, 86, 87, 88] [(78, 20), (78, 23), (78, 24)] mB mq23 → k142_23 mq23 = some (v, m') → Fr [85, 86, 87, 88] [(78, 20), (78, 23), (78, 24)] mB m' := by
        intro mq23 hf hF
        rw [ek142_23] at hF
        obtain ⟨xq24, exq24, hF⟩ := lt_ex hF
        exact ih xq24 mq23 hf hF
      exact fr_M_layers_L59 xq10 xq16 xq20 k142_23 mB _ _ Jk142_23 1000000 (0 : Int32) mq19 hf hF
set_option maxHeartbeats 4000000 in
theorem fr_M_layers_L19 (a2 : Int32) (a3 : Int32) (xq4 : Int32) (mB : Mem) (v : Unit) (m' : Mem) : ∀ (nf : Nat) (xq10 : Int32) (mq9 : Mem), Fr [85, 86, 87, 88] [(78, 20), (78, 23), (78, 24)] mB mq9 → F_M_layers_L19 a2 a3 xq4 nf xq10 mq9 = some (v, m') → Fr [85, 86, 87, 88] [(78, 20), (78, 23), (78, 24)] mB m' := by
  intro nf
  induction nf with
  | zero =>
    intro xq10 mq9 hf hF
    rw [F_M_layers_L19] at hF
    cases hF
  | succ nfq11 ih =>
    intro xq10 mq9 hf hF
    rw [F_M_layers_L19] at hF
    rcases if_ex hF with hF | hF
    · cases hF
      exact hf
    · obtain ⟨u_, mq13, hz, hF⟩ := bnd_ex hF
      have hf := Fr_tr hf (fr_M_laysLevels xq10 mq9 _ _ hz) (by decide) (by decide)
      obtain ⟨xq16, exq16, hF⟩ := lt_ex hF
      obtain ⟨k148_17, ek148_17, hF⟩ := lt_ex hF
      have Jk148_17 : ∀ (mq17 : Mem), Fr [85, 86, 87, 88] [(78, 20), (78, 23), (78, 24)] mB mq17 → k148_17 mq17 = some (v, m') → Fr [85, 86, 87, 88] [(78, 20), (78, 23), (78, 24)] mB m' := by
        intro mq17 hf hF
        rw [ek148_17] at hF
        obtain ⟨xq18, exq18, hF⟩ := lt_ex hF
        exact ih xq18 mq17 hf hF
      exact fr_M_layers_L51 xq10 xq16 k148_17 mB _ _ Jk148_17 1000000 (5 : Int32) mq13 hf hF
set_option maxHeartbeats 4000000 in
theorem fr_M_layers (a1 : Int32) (a2 : Int32) (a3 : Int32) (m0 : Mem) (v : Unit) (m' : Mem) (hF : F_M_layers a1 a2 a3 m0 = some (v, m')) : Fr [85, 86, 87, 88] [(78, 20), (78, 23), (78, 24)] m0 m' := by
  unfold F_M_layers at hF
  have hf : Fr [85, 86, 87, 88] [(78, 20), (78, 23), (78, 24)] m0 m0 := Fr_rf
  obtain ⟨mq1, emq1, hF⟩ := lt_ex hF
  have hf := Fr_sI emq1 hf (Or.inr (by decide))
  obtain ⟨xq4, mq2, hz, hF⟩ := bnd_ex hF
  have hf := Fr_tr hf (fr_M_mostRuns mq1 _ _ hz) (by decide) (by decide)
  obtain ⟨xq7, mq5, hz, hF⟩ := bnd_ex hF
  have hf := Fr_tr hf (fr_M_size mq2 _ _ hz) (by decide) (by decide)
  obtain ⟨xq8, exq8, hF⟩ := lt_ex hF
  exact fr_M_layers_L19 a2 a3 xq4 m0 _ _  1000000 xq8 mq5 hf hF
set_option maxHeartbeats 4000000 in
theorem fr_M_kindOf (a0 : Int32) (a1 : Bool) (m0 : Mem) (v : Int32) (m' : Mem) (hF : F_M_kindOf a0 a1 m0 = some (v, m')) : Fr [] [] m0 m' := by
  unfold F_M_kindOf at hF
  have hf : Fr [] [] m0 m0 := Fr_rf
  rcases if_ex hF with hF | hF
  · rcases if_ex hF with hF | hF
    · rcases if_ex hF with hF | hF
      · cases hF
        exact hf
      · cases hF
        exact hf
    · rcases if_ex hF with hF | hF
      · cases hF
        exact hf
      · cases hF
        exact hf
  · cases hF
    exact hf
set_option maxHeartbeats 4000000 in
theorem fr_M_kindNow (m0 : Mem) (v : Int32) (m' : Mem) (hF : F_M_kindNow m0 = some (v, m')) : Fr [] [] m0 m' := by
  unfold F_M_kindNow at hF
  have hf : Fr [] [] m0 m0 := Fr_rf
  obtain ⟨zq3, mq1, hz, hF⟩ := bnd_ex hF
  have hf := Fr_tr hf (fr_M_isFollowed m0 _ _ hz) (by decide) (by decide)
  obtain ⟨xq6, mq4, hz, hF⟩ := bnd_ex hF
  have hf := Fr_tr hf (fr_M_kindOf (gI m0 79 11) zq3 mq1 _ _ hz) (by decide) (by decide)
  cases hF
  exact hf
set_option maxHeartbeats 4000000 in
theorem fr_M_outNow (m0 : Mem) (v : Int32) (m' : Mem) (hF : F_M_outNow m0 = some (v, m')) : Fr [] [] m0 m' := by
  unfold F_M_outNow at hF
  have hf : Fr [] [] m0 m0 := Fr_rf
  rcases if_ex hF with hF | hF
  · cases hF
    exact hf
  · cases hF
    exact hf
set_option maxHeartbeats 4000000 in
theorem fr_M_countsAfter (a1 : Int32) (m0 : Mem) (v : Unit) (m' : Mem) (hF : F_M_countsAfter a1 m0 = some (v, m')) : Fr [85, 86, 87, 88] [(78, 20), (78, 21), (78, 23), (78, 24)] m0 m' := by
  unfold F_M_countsAfter at hF
  have hf : Fr [85, 86, 87, 88] [(78, 20), (78, 21), (78, 23), (78, 24)] m0 m0 := Fr_rf
  obtain ⟨xq3, mq1, hz, hF⟩ := bnd_ex hF
  have hf := Fr_tr hf (fr_M_played m0 _ _ hz) (by decide) (by decide)
  obtain ⟨xq6, mq4, hz, hF⟩ := bnd_ex hF
  have hf := Fr_tr hf (fr_M_batter mq1 _ _ hz) (by decide) (by decide)
  obtain ⟨xq9, mq7, hz, hF⟩ := bnd_ex hF
  have hf := Fr_tr hf (fr_M_leadOf xq6 mq4 _ _ hz) (by decide) (by decide)
  obtain ⟨mq10, emq10, hF⟩ := lt_ex hF
  have hf := Fr_sI emq10 hf (Or.inr (by decide))
  obtain ⟨xq13, mq11, hz, hF⟩ := bnd_ex hF
  have hf := Fr_tr hf (fr_M_firstSide mq10 _ _ hz) (by decide) (by decide)
  obtain ⟨xq16, mq14, hz, hF⟩ := bnd_ex hF
  have hf := Fr_tr hf (fr_M_mostRuns mq11 _ _ hz) (by decide) (by decide)
  obtain ⟨u_, mq17, hz, hF⟩ := bnd_ex hF
  have hf := Fr_tr hf (fr_M_layers xq13 (xq3 + (1 : Int32)) ((abI xq9) + xq16) mq14 _ _ hz) (by decide) (by decide)
  obtain ⟨u_, mq20, hz, hF⟩ := bnd_ex hF
  have hf := Fr_tr hf (fr_M_laysLevels xq3 mq17 _ _ hz) (by decide) (by decide)
  obtain ⟨mq23, emq23, hF⟩ := lt_ex hF
  have hf := Fr_sI emq23 hf (Or.inr (by decide))
  obtain ⟨mq24, emq24, hF⟩ := lt_ex hF
  have hf := Fr_sI emq24 hf (Or.inr (by decide))
  obtain ⟨xq27, mq25, hz, hF⟩ := bnd_ex hF
  have hf := Fr_tr hf (fr_M_kindNow mq24 _ _ hz) (by decide) (by decide)
  obtain ⟨xq30, mq28, hz, hF⟩ := bnd_ex hF
  have hf := Fr_tr hf (fr_M_outNow mq25 _ _ hz) (by decide) (by decide)
  obtain ⟨u_, mq31, hz, hF⟩ := bnd_ex hF
  have hf := Fr_tr hf (fr_M_brings xq3 xq27 xq30 xq9 a1 false mq28 _ _ hz) (by decide) (by decide)
  cases hF
  exact hf
set_option maxHeartbeats 4000000 in
theorem fr_M_waysOf (a1 : Int32) (a2 : Int32) (a3 : Int32) (m0 : Mem) (v : Int64) (m' : Mem) (hF : F_M_waysOf a1 a2 a3 m0 = some (v, m')) : Fr [] [] m0 m' := by
  unfold F_M_waysOf at hF
  have hf : Fr [] [] m0 m0 := Fr_rf
  obtain ⟨k15_2, ek15_2, hF⟩ := lt_ex hF
  have Jk15_2 : ∀ (xq2 : Int32) (mq1 : Mem), Fr [] [] m0 mq1 → k15_2 xq2 mq1 = some (v, m') → Fr [] [] m0 m' := by
    intro xq2 mq1 hf hF
    rw [ek15_2] at hF
    obtain ⟨k32_4, ek32_4, hF⟩ := lt_ex hF
    have Jk32_4 : ∀ (xq4 : Int32) (mq3 : Mem), Fr [] [] m0 mq3 → k32_4 xq4 mq3 = some (v, m') → Fr [] [] m0 m' := by
      intro xq4 mq3 hf hF
      rw [ek32_4] at hF
      rcases if_ex hF with hF | hF
      · cases hF
        exact hf
      · rcases if_ex hF with hF | hF
        · cases hF
          exact hf
        · rcases if_ex hF with hF | hF
          · obtain ⟨xq10, mq8, hz, hF⟩ := bnd_ex hF
            have hf := Fr_tr hf (fr_M_all a2 mq3 _ _ hz) (by decide) (by decide)
            cases hF
            exact hf
          · obtain ⟨xq7, mq5, hz, hF⟩ := bnd_ex hF
            have hf := Fr_tr hf (fr_M_all a2 mq3 _ _ hz) (by decide) (by decide)
            cases hF
            exact hf
    rcases if_ex hF with hF | hF
    · exact Jk32_4 (gI mq1 78 24) mq1 hf hF
    · exact Jk32_4 (gI mq1 78 23) mq1 hf hF
  rcases if_ex hF with hF | hF
  · exact Jk15_2 (gI m0 78 23) m0 hf hF
  · exact Jk15_2 (gI m0 78 24) m0 hf hF
set_option maxHeartbeats 4000000 in
theorem fr_M_after_IIJ (a1 : Int32) (a2 : Int32) (m0 : Mem) (v : Int64) (m' : Mem) (hF : F_M_after_IIJ a1 a2 m0 = some (v, m')) : Fr [85, 86, 87, 88] [(78, 0), (78, 20), (78, 21), (78, 23), (78, 24)] m0 m' := by
  unfold F_M_after_IIJ at hF
  have hf : Fr [85, 86, 87, 88] [(78, 0), (78, 20), (78, 21), (78, 23), (78, 24)] m0 m0 := Fr_rf
  obtain ⟨mq1, emq1, hF⟩ := lt_ex hF
  have hf := Fr_sI emq1 hf (Or.inr (by decide))
  obtain ⟨zq4, mq2, hz, hF⟩ := bnd_ex hF
  have hf := Fr_tr hf (fr_M_noSlot a1 mq1 _ _ hz) (by decide) (by decide)
  obtain ⟨zq7, mq5, hz, hF⟩ := bnd_ex hF
  have hf := Fr_tr hf (fr_M_throwsIf zq4 (1 : Int32) mq2 _ _ hz) (by decide) (by decide)
  rcases if_ex hF with hF | hF
  · cases hF
    exact hf
  · obtain ⟨zq10, mq8, hz, hF⟩ := bnd_ex hF
    have hf := Fr_tr hf (fr_M_isOn mq5 _ _ hz) (by decide) (by decide)
    obtain ⟨k30_12, ek30_12, hF⟩ := lt_ex hF
    have Jk30_12 : ∀ (zq12 : Bool) (mq11 : Mem), Fr [85, 86, 87, 88] [(78, 0), (78, 20), (78, 21), (78, 23), (78, 24)] m0 mq11 → k30_12 zq12 mq11 = some (v, m') → Fr [85, 86, 87, 88] [(78, 0), (78, 20), (78, 21), (78, 23), (78, 24)] m0 m' := by
      intro zq12 mq11 hf hF
      rw [ek30_12] at hF
      obtain ⟨zq15, mq13, hz, hF⟩ := bnd_ex hF
      have hf := Fr_tr hf (fr_M_throwsIf zq12 (2 : Int32) mq11 _ _ hz) (by decide) (by decide)
      rcases if_ex hF with hF | hF
      · cases hF
        exact hf
      · obtain ⟨zq18, mq16, hz, hF⟩ := bnd_ex hF
        have hf := Fr_tr hf (fr_M_in a2 (0 : Int32) (3 : Int32) mq13 _ _ hz) (by decide) (by decide)
        obtain ⟨k52_20, ek52_20, hF⟩ := lt_ex hF
        have Jk52_20 : ∀ (zq20 : Bool) (mq19 : Mem), Fr [85, 86, 87, 88] [(78, 0), (78, 20), (78, 21), (78, 23), (78, 24)] m0 mq19 → k52_20 zq20 mq19 = some (v, m') → Fr [85, 86, 87, 88] [(78, 0), (78, 20), (78, 21), (78, 23), (78, 24)] m0 m' := by
          intro zq20 mq19 hf hF
          rw [ek52_20] at hF
          obtain ⟨zq23, mq21, hz, hF⟩ := bnd_ex hF
          have hf := Fr_tr hf (fr_M_throwsIf zq20 (3 : Int32) mq19 _ _ hz) (by decide) (by decide)
          rcases if_ex hF with hF | hF
          · cases hF
            exact hf
          · obtain ⟨u_, mq24, hz, hF⟩ := bnd_ex hF
            have hf := Fr_tr hf (fr_M_countsAfter a1 mq21 _ _ hz) (by decide) (by decide)
            obtain ⟨xq29, mq27, hz, hF⟩ := bnd_ex hF
            have hf := Fr_tr hf (fr_M_played mq24 _ _ hz) (by decide) (by decide)
            obtain ⟨xq32, mq30, hz, hF⟩ := bnd_ex hF
            have hf := Fr_tr hf (fr_M_batter mq27 _ _ hz) (by decide) (by decide)
            obtain ⟨yq35, mq33, hz, hF⟩ := bnd_ex hF
            have hf := Fr_tr hf (fr_M_waysOf a2 (xq29 + (1 : Int32)) xq32 mq30 _ _ hz) (by decide) (by decide)
            cases hF
            exact hf
        rcases if_ex hF with hF | hF
        · exact Jk52_20 false mq16 hf hF
        · exact Jk52_20 true mq16 hf hF
    rcases if_ex hF with hF | hF
    · exact Jk30_12 false mq8 hf hF
    · exact Jk30_12 true mq8 hf hF
set_option maxHeartbeats 4000000 in
theorem fr_M_remembers_L55  (mB : Mem) (v : Unit) (m' : Mem) : ∀ (nf : Nat) (xq3 : Int32) (mq2 : Mem), Fr [82] [(78, 6)] mB mq2 → F_M_remembers_L55  nf xq3 mq2 = some (v, m') → Fr [82] [(78, 6)] mB m' := by
  intro nf
  induction nf with
  | zero =>
    intro xq3 mq2 hf hF
    rw [F_M_remembers_L55] at hF
    cases hF
  | succ nfq4 ih =>
    intro xq3 mq2 hf hF
    rw [F_M_remembers_L55] at hF
    rcases if_ex hF with hF | hF
    · cases hF
      exact hf
    · obtain ⟨xq6, exq6, hF⟩ := lt_ex hF
      obtain ⟨-, hF⟩ := ckB_ex hF
      obtain ⟨xq8, exq8, hF⟩ := lt_ex hF
      obtain ⟨-, hF⟩ := ckB_ex hF
      obtain ⟨mq9, emq9, hF⟩ := lt_ex hF
      have hf := Fr_sI emq9 hf (Or.inl (by decide))
      obtain ⟨xq11, exq11, hF⟩ := lt_ex hF
      exact ih xq11 mq9 hf hF
set_option maxHeartbeats 4000000 in
theorem fr_M_remembers_L11 (k40_13 : Mem → Option (Unit × Mem)) (mB : Mem) (v : Unit) (m' : Mem) (Jk40_13 : ∀ (b0 : Mem), Fr [82] [(78, 6)] mB b0 → k40_13 b0 = some (v, m') → Fr [82] [(78, 6)] mB m') : ∀ (nf : Nat) (xq15 : Int32) (mq14 : Mem), Fr [82] [(78, 6)] mB mq14 → F_M_remembers_L11 k40_13 nf xq15 mq14 = some (v, m') → Fr [82] [(78, 6)] mB m' := by
  intro nf
  induction nf with
  | zero =>
    intro xq15 mq14 hf hF
    rw [F_M_remembers_L11] at hF
    cases hF
  | succ nfq16 ih =>
    intro xq15 mq14 hf hF
    rw [F_M_remembers_L11] at hF
    rcases if_ex hF with hF | hF
    · exact Jk40_13 mq14 hf hF
    · obtain ⟨-, hF⟩ := ckB_ex hF
      obtain ⟨xq19, exq19, hF⟩ := lt_ex hF
      obtain ⟨-, hF⟩ := ckB_ex hF
      obtain ⟨mq20, emq20, hF⟩ := lt_ex hF
      have hf := Fr_sI emq20 hf (Or.inl (by decide))
      obtain ⟨xq22, exq22, hF⟩ := lt_ex hF
      exact ih xq22 mq20 hf hF
set_option maxHeartbeats 4000000 in
theorem fr_M_remembers (m0 : Mem) (v : Unit) (m' : Mem) (hF : F_M_remembers m0 = some (v, m')) : Fr [82] [(78, 6)] m0 m' := by
  unfold F_M_remembers at hF
  have hf : Fr [82] [(78, 6)] m0 m0 := Fr_rf
  obtain ⟨k53_1, ek53_1, hF⟩ := lt_ex hF
  have Jk53_1 : ∀ (mq1 : Mem), Fr [82] [(78, 6)] m0 mq1 → k53_1 mq1 = some (v, m') → Fr [82] [(78, 6)] m0 m' := by
    intro mq1 hf hF
    rw [ek53_1] at hF
    exact fr_M_remembers_L55  m0 _ _  1000000 (0 : Int32) mq1 hf hF
  rcases if_ex hF with hF | hF
  · obtain ⟨k40_13, ek40_13, hF⟩ := lt_ex hF
    have Jk40_13 : ∀ (mq13 : Mem), Fr [82] [(78, 6)] m0 mq13 → k40_13 mq13 = some (v, m') → Fr [82] [(78, 6)] m0 m' := by
      intro mq13 hf hF
      rw [ek40_13] at hF
      exact Jk53_1 mq13 hf hF
    exact fr_M_remembers_L11 k40_13 m0 _ _ Jk40_13 1000000 (0 : Int32) m0 hf hF
  · obtain ⟨mq12, emq12, hF⟩ := lt_ex hF
    have hf := Fr_sI emq12 hf (Or.inr (by decide))
    exact Jk53_1 mq12 hf hF
set_option maxHeartbeats 4000000 in
theorem fr_M_anew_L56 (xq7 : Int32) (mB : Mem) (v : Int32) (m' : Mem) : ∀ (nf : Nat) (xq12 : Int32) (mq11 : Mem), Fr [79, 82] [(78, 0), (78, 6)] mB mq11 → F_M_anew_L56 xq7 nf xq12 mq11 = some (v, m') → Fr [79, 82] [(78, 0), (78, 6)] mB m' := by
  intro nf
  induction nf with
  | zero =>
    intro xq12 mq11 hf hF
    rw [F_M_anew_L56] at hF
    cases hF
  | succ nfq13 ih =>
    intro xq12 mq11 hf hF
    rw [F_M_anew_L56] at hF
    rcases if_ex hF with hF | hF
    · cases hF
      exact hf
    · obtain ⟨-, hF⟩ := ckB_ex hF
      obtain ⟨mq15, emq15, hF⟩ := lt_ex hF
      have hf := Fr_sI emq15 hf (Or.inl (by decide))
      obtain ⟨xq17, exq17, hF⟩ := lt_ex hF
      exact ih xq17 mq15 hf hF
set_option maxHeartbeats 4000000 in
theorem fr_M_anew_L17 (k36_8 : Mem → Option (Int32 × Mem)) (mB : Mem) (v : Int32) (m' : Mem) (Jk36_8 : ∀ (b0 : Mem), Fr [79, 82] [(78, 0), (78, 6)] mB b0 → k36_8 b0 = some (v, m') → Fr [79, 82] [(78, 0), (78, 6)] mB m') : ∀ (nf : Nat) (xq19 : Int32) (mq18 : Mem), Fr [79, 82] [(78, 0), (78, 6)] mB mq18 → F_M_anew_L17 k36_8 nf xq19 mq18 = some (v, m') → Fr [79, 82] [(78, 0), (78, 6)] mB m' := by
  intro nf
  induction nf with
  | zero =>
    intro xq19 mq18 hf hF
    rw [F_M_anew_L17] at hF
    cases hF
  | succ nfq20 ih =>
    intro xq19 mq18 hf hF
    rw [F_M_anew_L17] at hF
    rcases if_ex hF with hF | hF
    · exact Jk36_8 mq18 hf hF
    · obtain ⟨-, hF⟩ := ckB_ex hF
      obtain ⟨mq22, emq22, hF⟩ := lt_ex hF
      have hf := Fr_sI emq22 hf (Or.inl (by decide))
      obtain ⟨xq24, exq24, hF⟩ := lt_ex hF
      exact ih xq24 mq22 hf hF
set_option maxHeartbeats 4000000 in
theorem fr_M_anew (m0 : Mem) (v : Int32) (m' : Mem) (hF : F_M_anew m0 = some (v, m')) : Fr [79, 82] [(78, 0), (78, 6)] m0 m' := by
  unfold F_M_anew at hF
  have hf : Fr [79, 82] [(78, 0), (78, 6)] m0 m0 := Fr_rf
  obtain ⟨mq1, emq1, hF⟩ := lt_ex hF
  have hf := Fr_sI emq1 hf (Or.inr (by decide))
  obtain ⟨u_, mq2, hz, hF⟩ := bnd_ex hF
  have hf := Fr_tr hf (fr_M_remembers mq1 _ _ hz) (by decide) (by decide)
  obtain ⟨xq7, mq5, hz, hF⟩ := bnd_ex hF
  have hf := Fr_tr hf (fr_M_played mq2 _ _ hz) (by decide) (by decide)
  obtain ⟨k36_8, ek36_8, hF⟩ := lt_ex hF
  have Jk36_8 : ∀ (mq8 : Mem), Fr [79, 82] [(78, 0), (78, 6)] m0 mq8 → k36_8 mq8 = some (v, m') → Fr [79, 82] [(78, 0), (78, 6)] m0 m' := by
    intro mq8 hf hF
    rw [ek36_8] at hF
    obtain ⟨mq9, emq9, hF⟩ := lt_ex hF
    have hf := Fr_sI emq9 hf (Or.inl (by decide))
    obtain ⟨mq10, emq10, hF⟩ := lt_ex hF
    have hf := Fr_sI emq10 hf (Or.inl (by decide))
    exact fr_M_anew_L56 xq7 m0 _ _  1000000 (235 : Int32) mq10 hf hF
  exact fr_M_anew_L17 k36_8 m0 _ _ Jk36_8 1000000 (10 : Int32) mq5 hf hF
set_option maxHeartbeats 4000000 in
theorem fr_M_back_L16 (k41_2 : Mem → Option (Bool × Mem)) (mB : Mem) (v : Bool) (m' : Mem) (Jk41_2 : ∀ (b0 : Mem), Fr [79] [(78, 0), (78, 6)] mB b0 → k41_2 b0 = some (v, m') → Fr [79] [(78, 0), (78, 6)] mB m') : ∀ (nf : Nat) (xq5 : Int32) (mq4 : Mem), Fr [79] [(78, 0), (78, 6)] mB mq4 → F_M_back_L16 k41_2 nf xq5 mq4 = some (v, m') → Fr [79] [(78, 0), (78, 6)] mB m' := by
  intro nf
  induction nf with
  | zero =>
    intro xq5 mq4 hf hF
    rw [F_M_back_L16] at hF
    cases hF
  | succ nfq6 ih =>
    intro xq5 mq4 hf hF
    rw [F_M_back_L16] at hF
    rcases if_ex hF with hF | hF
    · exact Jk41_2 mq4 hf hF
    · obtain ⟨-, hF⟩ := ckB_ex hF
      obtain ⟨xq9, exq9, hF⟩ := lt_ex hF
      obtain ⟨-, hF⟩ := ckB_ex hF
      obtain ⟨mq10, emq10, hF⟩ := lt_ex hF
      have hf := Fr_sI emq10 hf (Or.inl (by decide))
      obtain ⟨xq12, exq12, hF⟩ := lt_ex hF
      exact ih xq12 mq10 hf hF
set_option maxHeartbeats 4000000 in
theorem fr_M_back (m0 : Mem) (v : Bool) (m' : Mem) (hF : F_M_back m0 = some (v, m')) : Fr [79] [(78, 0), (78, 6)] m0 m' := by
  unfold F_M_back at hF
  have hf : Fr [79] [(78, 0), (78, 6)] m0 m0 := Fr_rf
  obtain ⟨mq1, emq1, hF⟩ := lt_ex hF
  have hf := Fr_sI emq1 hf (Or.inr (by decide))
  rcases if_ex hF with hF | hF
  · obtain ⟨k41_2, ek41_2, hF⟩ := lt_ex hF
    have Jk41_2 : ∀ (mq2 : Mem), Fr [79] [(78, 0), (78, 6)] m0 mq2 → k41_2 mq2 = some (v, m') → Fr [79] [(78, 0), (78, 6)] m0 m' := by
      intro mq2 hf hF
      rw [ek41_2] at hF
      obtain ⟨mq3, emq3, hF⟩ := lt_ex hF
      have hf := Fr_sI emq3 hf (Or.inr (by decide))
      cases hF
      exact hf
    exact fr_M_back_L16 k41_2 m0 _ _ Jk41_2 1000000 (0 : Int32) mq1 hf hF
  · cases hF
    exact hf
set_option maxHeartbeats 4000000 in
theorem fr_M_uses (m0 : Mem) (v : Unit) (m' : Mem) (hF : F_M_uses m0 = some (v, m')) : Fr [] [(78, 0), (78, 8), (78, 9), (78, 10)] m0 m' := by
  unfold F_M_uses at hF
  have hf : Fr [] [(78, 0), (78, 8), (78, 9), (78, 10)] m0 m0 := Fr_rf
  obtain ⟨mq1, emq1, hF⟩ := lt_ex hF
  have hf := Fr_sI emq1 hf (Or.inr (by decide))
  obtain ⟨mq2, emq2, hF⟩ := lt_ex hF
  have hf := Fr_sI emq2 hf (Or.inr (by decide))
  obtain ⟨mq3, emq3, hF⟩ := lt_ex hF
  have hf := Fr_sI emq3 hf (Or.inr (by decide))
  obtain ⟨mq4, emq4, hF⟩ := lt_ex hF
  have hf := Fr_sI emq4 hf (Or.inr (by decide))
  cases hF
  exact hf
set_option maxHeartbeats 4000000 in
theorem fr_M_readSigns_L21  (mB : Mem) (v : Bool) (m' : Mem) : ∀ (nf : Nat) (zq8 : Bool) (xq9 : Int32) (mq7 : Mem), Fr [] [(78, 0), (78, 8), (78, 9), (78, 10)] mB mq7 → F_M_readSigns_L21  nf zq8 xq9 mq7 = some (v, m') → Fr [] [(78, 0), (78, 8), (78, 9), (78, 10)] mB m' := by
  intro nf
  induction nf with
  | zero =>
    intro zq8 xq9 mq7 hf hF
    rw [F_M_readSigns_L21] at hF
    cases hF
  | succ nfq10 ih =>
    intro zq8 xq9 mq7 hf hF
    rw [F_M_readSigns_L21] at hF
    rcases if_ex hF with hF | hF
    · cases hF
      exact hf
    · obtain ⟨k63_13, ek63_13, hF⟩ := lt_ex hF
      have Jk63_13 : ∀ (zq13 : Bool) (mq12 : Mem), Fr [] [(78, 0), (78, 8), (78, 9), (78, 10)] mB mq12 → k63_13 zq13 mq12 = some (v, m') → Fr [] [(78, 0), (78, 8), (78, 9), (78, 10)] mB m' := by
        intro zq13 mq12 hf hF
        rw [ek63_13] at hF
        obtain ⟨xq14, exq14, hF⟩ := lt_ex hF
        exact ih zq13 xq14 mq12 hf hF
      obtain ⟨k62_15, ek62_15, hF⟩ := lt_ex hF
      have Jk62_15 : ∀ (mq15 : Mem), Fr [] [(78, 0), (78, 8), (78, 9), (78, 10)] mB mq15 → k62_15 mq15 = some (v, m') → Fr [] [(78, 0), (78, 8), (78, 9), (78, 10)] mB m' := by
        intro mq15 hf hF
        rw [ek62_15] at hF
        exact Jk63_13 false mq15 hf hF
      rcases if_ex hF with hF | hF
      · obtain ⟨-, hF⟩ := ckB_ex hF
        obtain ⟨xq17, exq17, hF⟩ := lt_ex hF
        obtain ⟨k52_19, ek52_19, hF⟩ := lt_ex hF
        have Jk52_19 : ∀ (xq19 : Int32) (mq18 : Mem), Fr [] [(78, 0), (78, 8), (78, 9), (78, 10)] mB mq18 → k52_19 xq19 mq18 = some (v, m') → Fr [] [(78, 0), (78, 8), (78, 9), (78, 10)] mB m' := by
          intro xq19 mq18 hf hF
          rw [ek52_19] at hF
          obtain ⟨zq22, mq20, hz, hF⟩ := bnd_ex hF
          have hf := Fr_tr hf (fr_M_in xq17 (0 : Int32) xq19 mq18 _ _ hz) (by decide) (by decide)
          rcases if_ex hF with hF | hF
          · exact Jk63_13 true mq20 hf hF
          · exact Jk62_15 mq20 hf hF
        rcases if_ex hF with hF | hF
        · exact Jk52_19 (1 : Int32) mq7 hf hF
        · exact Jk52_19 (3 : Int32) mq7 hf hF
      · exact Jk62_15 mq7 hf hF
set_option maxHeartbeats 4000000 in
theorem fr_M_readSigns (m0 : Mem) (v : Bool) (m' : Mem) (hF : F_M_readSigns m0 = some (v, m')) : Fr [] [(78, 0), (78, 8), (78, 9), (78, 10)] m0 m' := by
  unfold F_M_readSigns at hF
  have hf : Fr [] [(78, 0), (78, 8), (78, 9), (78, 10)] m0 m0 := Fr_rf
  obtain ⟨u_, mq1, hz, hF⟩ := bnd_ex hF
  have hf := Fr_tr hf (fr_M_uses m0 _ _ hz) (by decide) (by decide)
  obtain ⟨xq4, exq4, hF⟩ := lt_ex hF
  obtain ⟨k18_6, ek18_6, hF⟩ := lt_ex hF
  have Jk18_6 : ∀ (zq6 : Bool) (mq5 : Mem), Fr [] [(78, 0), (78, 8), (78, 9), (78, 10)] m0 mq5 → k18_6 zq6 mq5 = some (v, m') → Fr [] [(78, 0), (78, 8), (78, 9), (78, 10)] m0 m' := by
    intro zq6 mq5 hf hF
    rw [ek18_6] at hF
    exact fr_M_readSigns_L21  m0 _ _  1000000 zq6 (0 : Int32) mq5 hf hF
  rcases if_ex hF with hF | hF
  · exact Jk18_6 true mq1 hf hF
  · exact Jk18_6 false mq1 hf hF
set_option maxHeartbeats 4000000 in
theorem fr_M_mornings_L6 (a1 : Int32) (a2 : Int32) (a3 : Int32) (a4 : Int32) (a5 : Bool) (mB : Mem) (v : Int32) (m' : Mem) : ∀ (nf : Nat) (xq2 : Int32) (xq3 : Int32) (mq1 : Mem), Fr [] [] mB mq1 → F_M_mornings_L6 a1 a2 a3 a4 a5 nf xq2 xq3 mq1 = some (v, m') → Fr [] [] mB m' := by
  intro nf
  induction nf with
  | zero =>
    intro xq2 xq3 mq1 hf hF
    rw [F_M_mornings_L6] at hF
    cases hF
  | succ nfq4 ih =>
    intro xq2 xq3 mq1 hf hF
    rw [F_M_mornings_L6] at hF
    rcases if_ex hF with hF | hF
    · cases hF
      exact hf
    · obtain ⟨-, hF⟩ := ckB_ex hF
      obtain ⟨xq7, exq7, hF⟩ := lt_ex hF
      obtain ⟨k71_9, ek71_9, hF⟩ := lt_ex hF
      have Jk71_9 : ∀ (zq9 : Bool) (mq8 : Mem), Fr [] [] mB mq8 → k71_9 zq9 mq8 = some (v, m') → Fr [] [] mB m' := by
        intro zq9 mq8 hf hF
        rw [ek71_9] at hF
        obtain ⟨xq10, exq10, hF⟩ := lt_ex hF
        obtain ⟨xq11, exq11, hF⟩ := lt_ex hF
        exact ih xq10 xq11 mq8 hf hF
      obtain ⟨k70_12, ek70_12, hF⟩ := lt_ex hF
      have Jk70_12 : ∀ (mq12 : Mem), Fr [] [] mB mq12 → k70_12 mq12 = some (v, m') → Fr [] [] mB m' := by
        intro mq12 hf hF
        rw [ek70_12] at hF
        exact Jk71_9 false mq12 hf hF
      rcases if_ex hF with hF | hF
      · obtain ⟨k48_13, ek48_13, hF⟩ := lt_ex hF
        have Jk48_13 : ∀ (mq13 : Mem), Fr [] [] mB mq13 → k48_13 mq13 = some (v, m') → Fr [] [] mB m' := by
          intro mq13 hf hF
          rw [ek48_13] at hF
          obtain ⟨k66_14, ek66_14, hF⟩ := lt_ex hF
          have Jk66_14 : ∀ (mq14 : Mem), Fr [] [] mB mq14 → k66_14 mq14 = some (v, m') → Fr [] [] mB m' := by
            intro mq14 hf hF
            rw [ek66_14] at hF
            exact Jk71_9 true mq14 hf hF
          rcases if_ex hF with hF | hF
          · obtain ⟨-, hF⟩ := ckB_ex hF
            obtain ⟨xq16, exq16, hF⟩ := lt_ex hF
            rcases if_ex hF with hF | hF
            · exact Jk66_14 mq13 hf hF
            · exact Jk70_12 mq13 hf hF
          · exact Jk66_14 mq13 hf hF
        rcases if_ex hF with hF | hF
        · exact Jk48_13 mq1 hf hF
        · obtain ⟨-, hF⟩ := ckB_ex hF
          obtain ⟨xq18, exq18, hF⟩ := lt_ex hF
          rcases if_ex hF with hF | hF
          · exact Jk48_13 mq1 hf hF
          · exact Jk70_12 mq1 hf hF
      · exact Jk70_12 mq1 hf hF
set_option maxHeartbeats 4000000 in
theorem fr_M_mornings (a1 : Int32) (a2 : Int32) (a3 : Int32) (a4 : Int32) (a5 : Bool) (m0 : Mem) (v : Int32) (m' : Mem) (hF : F_M_mornings a1 a2 a3 a4 a5 m0 = some (v, m')) : Fr [] [] m0 m' := by
  unfold F_M_mornings at hF
  have hf : Fr [] [] m0 m0 := Fr_rf
  exact fr_M_mornings_L6 a1 a2 a3 a4 a5 m0 _ _  1000000 (0 : Int32) (0 : Int32) m0 hf hF
set_option maxHeartbeats 4000000 in
theorem fr_M_rightBy_L14 (a1 : Int32) (a2 : Int32) (xq3 : Int32) (k69_7 : Int32 → Mem → Option (Int32 × Mem)) (mB : Mem) (v : Int32) (m' : Mem) (Jk69_7 : ∀ (b0 : Int32) (b1 : Mem), Fr [] [] mB b1 → k69_7 b0 b1 = some (v, m') → Fr [] [] mB m') : ∀ (nf : Nat) (xq10 : Int32) (xq11 : Int32) (mq9 : Mem), Fr [] [] mB mq9 → F_M_rightBy_L14 a1 a2 xq3 k69_7 nf xq10 xq11 mq9 = some (v, m') → Fr [] [] mB m' := by
  intro nf
  induction nf with
  | zero =>
    intro xq10 xq11 mq9 hf hF
    rw [F_M_rightBy_L14] at hF
    cases hF
  | succ nfq12 ih =>
    intro xq10 xq11 mq9 hf hF
    rw [F_M_rightBy_L14] at hF
    obtain ⟨k25_15, ek25_15, hF⟩ := lt_ex hF
    have Jk25_15 : ∀ (xq15 : Int32) (mq14 : Mem), Fr [] [] mB mq14 → k25_15 xq15 mq14 = some (v, m') → Fr [] [] mB m' := by
      intro xq15 mq14 hf hF
      rw [ek25_15] at hF
      rcases if_ex hF with hF | hF
      · exact Jk69_7 xq10 mq14 hf hF
      · obtain ⟨xq18, mq16, hz, hF⟩ := bnd_ex hF
        have hf := Fr_tr hf (fr_M_mornings a1 xq3 a2 xq11 true mq14 _ _ hz) (by decide) (by decide)
        obtain ⟨xq21, mq19, hz, hF⟩ := bnd_ex hF
        have hf := Fr_tr hf (fr_M_mornings a1 xq3 a2 xq11 false mq16 _ _ hz) (by decide) (by decide)
        obtain ⟨xq22, exq22, hF⟩ := lt_ex hF
        obtain ⟨xq23, exq23, hF⟩ := lt_ex hF
        exact ih xq22 xq23 mq19 hf hF
    rcases if_ex hF with hF | hF
    · exact Jk25_15 (4 : Int32) mq9 hf hF
    · exact Jk25_15 (1 : Int32) mq9 hf hF
set_option maxHeartbeats 4000000 in
theorem fr_M_rightBy_L5 (a1 : Int32) (a2 : Int32) (mB : Mem) (v : Int32) (m' : Mem) : ∀ (nf : Nat) (xq2 : Int32) (xq3 : Int32) (mq1 : Mem), Fr [] [] mB mq1 → F_M_rightBy_L5 a1 a2 nf xq2 xq3 mq1 = some (v, m') → Fr [] [] mB m' := by
  intro nf
  induction nf with
  | zero =>
    intro xq2 xq3 mq1 hf hF
    rw [F_M_rightBy_L5] at hF
    cases hF
  | succ nfq4 ih =>
    intro xq2 xq3 mq1 hf hF
    rw [F_M_rightBy_L5] at hF
    rcases if_ex hF with hF | hF
    · cases hF
      exact hf
    · obtain ⟨k69_7, ek69_7, hF⟩ := lt_ex hF
      have Jk69_7 : ∀ (xq7 : Int32) (mq6 : Mem), Fr [] [] mB mq6 → k69_7 xq7 mq6 = some (v, m') → Fr [] [] mB m' := by
        intro xq7 mq6 hf hF
        rw [ek69_7] at hF
        obtain ⟨xq8, exq8, hF⟩ := lt_ex hF
        exact ih xq7 xq8 mq6 hf hF
      exact fr_M_rightBy_L14 a1 a2 xq3 k69_7 mB _ _ Jk69_7 1000000 xq2 (0 : Int32) mq1 hf hF
set_option maxHeartbeats 4000000 in
theorem fr_M_rightBy (a1 : Int32) (a2 : Int32) (m0 : Mem) (v : Int32) (m' : Mem) (hF : F_M_rightBy a1 a2 m0 = some (v, m')) : Fr [] [] m0 m' := by
  unfold F_M_rightBy at hF
  have hf : Fr [] [] m0 m0 := Fr_rf
  exact fr_M_rightBy_L5 a1 a2 m0 _ _  1000000 (0 : Int32) (0 : Int32) m0 hf hF
set_option maxHeartbeats 4000000 in
theorem fr_M_best_L33 (a1 : Bool) (k109_11 : Int32 → Int32 → Mem → Option (Int32 × Mem)) (mB : Mem) (v : Int32) (m' : Mem) (Jk109_11 : ∀ (b0 : Int32) (b1 : Int32) (b2 : Mem), Fr [] [(78, 0), (78, 8), (78, 9), (78, 10)] mB b2 → k109_11 b0 b1 b2 = some (v, m') → Fr [] [(78, 0), (78, 8), (78, 9), (78, 10)] mB m') : ∀ (nf : Nat) (xq13 : Int32) (xq14 : Int32) (xq15 : Int32) (mq12 : Mem), Fr [] [(78, 0), (78, 8), (78, 9), (78, 10)] mB mq12 → F_M_best_L33 a1 k109_11 nf xq13 xq14 xq15 mq12 = some (v, m') → Fr [] [(78, 0), (78, 8), (78, 9), (78, 10)] mB m' := by
  intro nf
  induction nf with
  | zero =>
    intro xq13 xq14 xq15 mq12 hf hF
    rw [F_M_best_L33] at hF
    cases hF
  | succ nfq16 ih =>
    intro xq13 xq14 xq15 mq12 hf hF
    rw [F_M_best_L33] at hF
    rcases if_ex hF with hF | hF
    · exact Jk109_11 xq13 xq14 mq12 hf hF
    · obtain ⟨k78_19, ek78_19, hF⟩ := lt_ex hF
      have Jk78_19 : ∀ (xq19 : Int32) (mq18 : Mem), Fr [] [(78, 0), (78, 8), (78, 9), (78, 10)] mB mq18 → k78_19 xq19 mq18 = some (v, m') → Fr [] [(78, 0), (78, 8), (78, 9), (78, 10)] mB m' := by
        intro xq19 mq18 hf hF
        rw [ek78_19] at hF
        obtain ⟨k103_22, ek103_22, hF⟩ := lt_ex hF
        have Jk103_22 : ∀ (xq21 : Int32) (xq22 : Int32) (mq20 : Mem), Fr [] [(78, 0), (78, 8), (78, 9), (78, 10)] mB mq20 → k103_22 xq21 xq22 mq20 = some (v, m') → Fr [] [(78, 0), (78, 8), (78, 9), (78, 10)] mB m' := by
          intro xq21 xq22 mq20 hf hF
          rw [ek103_22] at hF
          obtain ⟨xq23, exq23, hF⟩ := lt_ex hF
          exact ih xq21 xq22 xq23 mq20 hf hF
        obtain ⟨k95_24, ek95_24, hF⟩ := lt_ex hF
        have Jk95_24 : ∀ (mq24 : Mem), Fr [] [(78, 0), (78, 8), (78, 9), (78, 10)] mB mq24 → k95_24 mq24 = some (v, m') → Fr [] [(78, 0), (78, 8), (78, 9), (78, 10)] mB m' := by
          intro mq24 hf hF
          rw [ek95_24] at hF
          exact Jk103_22 xq15 xq19 mq24 hf hF
        rcases if_ex hF with hF | hF
        · exact Jk95_24 mq18 hf hF
        · rcases if_ex hF with hF | hF
          · exact Jk95_24 mq18 hf hF
          · exact Jk103_22 xq13 xq14 mq18 hf hF
      rcases if_ex hF with hF | hF
      · obtain ⟨k65_26, ek65_26, hF⟩ := lt_ex hF
        have Jk65_26 : ∀ (zq26 : Bool) (mq25 : Mem), Fr [] [(78, 0), (78, 8), (78, 9), (78, 10)] mB mq25 → k65_26 zq26 mq25 = some (v, m') → Fr [] [(78, 0), (78, 8), (78, 9), (78, 10)] mB m' := by
          intro zq26 mq25 hf hF
          rw [ek65_26] at hF
          obtain ⟨k75_28, ek75_28, hF⟩ := lt_ex hF
          have Jk75_28 : ∀ (xq28 : Int32) (mq27 : Mem), Fr [] [(78, 0), (78, 8), (78, 9), (78, 10)] mB mq27 → k75_28 xq28 mq27 = some (v, m') → Fr [] [(78, 0), (78, 8), (78, 9), (78, 10)] mB m' := by
            intro xq28 mq27 hf hF
            rw [ek75_28] at hF
            obtain ⟨xq31, mq29, hz, hF⟩ := bnd_ex hF
            have hf := Fr_tr hf (fr_M_rightBy (b2i zq26) xq28 mq27 _ _ hz) (by decide) (by decide)
            exact Jk78_19 xq31 mq29 hf hF
          rcases if_ex hF with hF | hF
          · exact Jk75_28 (1 : Int32) mq25 hf hF
          · exact Jk75_28 (2 : Int32) mq25 hf hF
        rcases if_ex hF with hF | hF
        · exact Jk65_26 true mq12 hf hF
        · exact Jk65_26 false mq12 hf hF
      · obtain ⟨xq34, mq32, hz, hF⟩ := bnd_ex hF
        have hf := Fr_tr hf (fr_M_rightBy xq15 (-1 : Int32) mq12 _ _ hz) (by decide) (by decide)
        exact Jk78_19 xq34 mq32 hf hF
set_option maxHeartbeats 4000000 in
theorem fr_M_best (a1 : Bool) (a2 : Bool) (m0 : Mem) (v : Int32) (m' : Mem) (hF : F_M_best a1 a2 m0 = some (v, m')) : Fr [] [(78, 0), (78, 8), (78, 9), (78, 10)] m0 m' := by
  unfold F_M_best at hF
  have hf : Fr [] [(78, 0), (78, 8), (78, 9), (78, 10)] m0 m0 := Fr_rf
  obtain ⟨zq3, mq1, hz, hF⟩ := bnd_ex hF
  have hf := Fr_tr hf (fr_M_readSigns m0 _ _ hz) (by decide) (by decide)
  obtain ⟨k15_5, ek15_5, hF⟩ := lt_ex hF
  have Jk15_5 : ∀ (zq5 : Bool) (mq4 : Mem), Fr [] [(78, 0), (78, 8), (78, 9), (78, 10)] m0 mq4 → k15_5 zq5 mq4 = some (v, m') → Fr [] [(78, 0), (78, 8), (78, 9), (78, 10)] m0 m' := by
    intro zq5 mq4 hf hF
    rw [ek15_5] at hF
    obtain ⟨zq8, mq6, hz, hF⟩ := bnd_ex hF
    have hf := Fr_tr hf (fr_M_throwsIf zq5 (1 : Int32) mq4 _ _ hz) (by decide) (by decide)
    rcases if_ex hF with hF | hF
    · cases hF
      exact hf
    · obtain ⟨k109_11, ek109_11, hF⟩ := lt_ex hF
      have Jk109_11 : ∀ (xq10 : Int32) (xq11 : Int32) (mq9 : Mem), Fr [] [(78, 0), (78, 8), (78, 9), (78, 10)] m0 mq9 → k109_11 xq10 xq11 mq9 = some (v, m') → Fr [] [(78, 0), (78, 8), (78, 9), (78, 10)] m0 m' := by
        intro xq10 xq11 mq9 hf hF
        rw [ek109_11] at hF
        rcases if_ex hF with hF | hF
        · cases hF
          exact hf
        · cases hF
          exact hf
      exact fr_M_best_L33 a1 k109_11 m0 _ _ Jk109_11 1000000 (-1 : Int32) (0 : Int32) (0 : Int32) mq6 hf hF
  rcases if_ex hF with hF | hF
  · exact Jk15_5 false mq1 hf hF
  · exact Jk15_5 true mq1 hf hF
set_option maxHeartbeats 4000000 in
theorem fr_M_takes (a1 : Int32) (a2 : Int32) (a3 : Int32) (a4 : Int32) (m0 : Mem) (v : Unit) (m' : Mem) (hF : F_M_takes a1 a2 a3 a4 m0 = some (v, m')) : Fr [] [(78, 23), (78, 24)] m0 m' := by
  unfold F_M_takes at hF
  have hf : Fr [] [(78, 23), (78, 24)] m0 m0 := Fr_rf
  obtain ⟨xq3, mq1, hz, hF⟩ := bnd_ex hF
  have hf := Fr_tr hf (fr_M_cell a1 a2 a3 a4 m0 _ _ hz) (by decide) (by decide)
  obtain ⟨-, hF⟩ := ckB_ex hF
  obtain ⟨xq5, exq5, hF⟩ := lt_ex hF
  obtain ⟨mq6, emq6, hF⟩ := lt_ex hF
  have hf := Fr_sI emq6 hf (Or.inr (by decide))
  obtain ⟨xq9, mq7, hz, hF⟩ := bnd_ex hF
  have hf := Fr_tr hf (fr_M_cell a1 a2 a3 a4 mq6 _ _ hz) (by decide) (by decide)
  obtain ⟨-, hF⟩ := ckB_ex hF
  obtain ⟨xq11, exq11, hF⟩ := lt_ex hF
  obtain ⟨mq12, emq12, hF⟩ := lt_ex hF
  have hf := Fr_sI emq12 hf (Or.inr (by decide))
  cases hF
  exact hf
set_option maxHeartbeats 4000000 in
theorem fr_M_countsNow (m0 : Mem) (v : Unit) (m' : Mem) (hF : F_M_countsNow m0 = some (v, m')) : Fr [85, 86, 87, 88] [(78, 20), (78, 21), (78, 23), (78, 24)] m0 m' := by
  unfold F_M_countsNow at hF
  have hf : Fr [85, 86, 87, 88] [(78, 20), (78, 21), (78, 23), (78, 24)] m0 m0 := Fr_rf
  obtain ⟨mq1, emq1, hF⟩ := lt_ex hF
  have hf := Fr_sI emq1 hf (Or.inr (by decide))
  obtain ⟨zq4, mq2, hz, hF⟩ := bnd_ex hF
  have hf := Fr_tr hf (fr_M_isOver mq1 _ _ hz) (by decide) (by decide)
  rcases if_ex hF with hF | hF
  · obtain ⟨k40_33, ek40_33, hF⟩ := lt_ex hF
    have Jk40_33 : ∀ (xq33 : Int32) (mq32 : Mem), Fr [85, 86, 87, 88] [(78, 20), (78, 21), (78, 23), (78, 24)] m0 mq32 → k40_33 xq33 mq32 = some (v, m') → Fr [85, 86, 87, 88] [(78, 20), (78, 21), (78, 23), (78, 24)] m0 m' := by
      intro xq33 mq32 hf hF
      rw [ek40_33] at hF
      obtain ⟨mq34, emq34, hF⟩ := lt_ex hF
      have hf := Fr_sI emq34 hf (Or.inr (by decide))
      obtain ⟨k67_36, ek67_36, hF⟩ := lt_ex hF
      have Jk67_36 : ∀ (xq36 : Int32) (mq35 : Mem), Fr [85, 86, 87, 88] [(78, 20), (78, 21), (78, 23), (78, 24)] m0 mq35 → k67_36 xq36 mq35 = some (v, m') → Fr [85, 86, 87, 88] [(78, 20), (78, 21), (78, 23), (78, 24)] m0 m' := by
        intro xq36 mq35 hf hF
        rw [ek67_36] at hF
        obtain ⟨mq37, emq37, hF⟩ := lt_ex hF
        have hf := Fr_sI emq37 hf (Or.inr (by decide))
        cases hF
        exact hf
      rcases if_ex hF with hF | hF
      · obtain ⟨xq40, mq38, hz, hF⟩ := bnd_ex hF
        have hf := Fr_tr hf (fr_M_played mq34 _ _ hz) (by decide) (by decide)
        obtain ⟨xq43, mq41, hz, hF⟩ := bnd_ex hF
        have hf := Fr_tr hf (fr_M_all xq40 mq38 _ _ hz) (by decide) (by decide)
        exact Jk67_36 xq43 mq41 hf hF
      · exact Jk67_36 (0 : Int32) mq34 hf hF
    rcases if_ex hF with hF | hF
    · obtain ⟨xq46, mq44, hz, hF⟩ := bnd_ex hF
      have hf := Fr_tr hf (fr_M_played mq2 _ _ hz) (by decide) (by decide)
      obtain ⟨xq49, mq47, hz, hF⟩ := bnd_ex hF
      have hf := Fr_tr hf (fr_M_all xq46 mq44 _ _ hz) (by decide) (by decide)
      exact Jk40_33 xq49 mq47 hf hF
    · exact Jk40_33 (0 : Int32) mq2 hf hF
  · obtain ⟨xq7, mq5, hz, hF⟩ := bnd_ex hF
    have hf := Fr_tr hf (fr_M_batter mq2 _ _ hz) (by decide) (by decide)
    obtain ⟨xq10, mq8, hz, hF⟩ := bnd_ex hF
    have hf := Fr_tr hf (fr_M_leadOf xq7 mq5 _ _ hz) (by decide) (by decide)
    obtain ⟨xq13, mq11, hz, hF⟩ := bnd_ex hF
    have hf := Fr_tr hf (fr_M_firstSide mq8 _ _ hz) (by decide) (by decide)
    obtain ⟨xq16, mq14, hz, hF⟩ := bnd_ex hF
    have hf := Fr_tr hf (fr_M_played mq11 _ _ hz) (by decide) (by decide)
    obtain ⟨u_, mq17, hz, hF⟩ := bnd_ex hF
    have hf := Fr_tr hf (fr_M_layers xq13 xq16 (abI xq10) mq14 _ _ hz) (by decide) (by decide)
    obtain ⟨xq22, mq20, hz, hF⟩ := bnd_ex hF
    have hf := Fr_tr hf (fr_M_played mq17 _ _ hz) (by decide) (by decide)
    obtain ⟨xq25, mq23, hz, hF⟩ := bnd_ex hF
    have hf := Fr_tr hf (fr_M_kindNow mq20 _ _ hz) (by decide) (by decide)
    obtain ⟨xq28, mq26, hz, hF⟩ := bnd_ex hF
    have hf := Fr_tr hf (fr_M_outNow mq23 _ _ hz) (by decide) (by decide)
    obtain ⟨u_, mq29, hz, hF⟩ := bnd_ex hF
    have hf := Fr_tr hf (fr_M_takes xq22 xq25 xq28 xq10 mq26 _ _ hz) (by decide) (by decide)
    cases hF
    exact hf
set_option maxHeartbeats 4000000 in
theorem fr_M_blind (a1 : Int32) (m0 : Mem) (v : Int64) (m' : Mem) (hF : F_M_blind a1 m0 = some (v, m')) : Fr [85, 86, 87, 88] [(78, 0), (78, 20), (78, 21), (78, 22), (78, 23), (78, 24)] m0 m' := by
  unfold F_M_blind at hF
  have hf : Fr [85, 86, 87, 88] [(78, 0), (78, 20), (78, 21), (78, 22), (78, 23), (78, 24)] m0 m0 := Fr_rf
  obtain ⟨mq1, emq1, hF⟩ := lt_ex hF
  have hf := Fr_sI emq1 hf (Or.inr (by decide))
  obtain ⟨xq4, mq2, hz, hF⟩ := bnd_ex hF
  have hf := Fr_tr hf (fr_M_firstSide mq1 _ _ hz) (by decide) (by decide)
  obtain ⟨k18_6, ek18_6, hF⟩ := lt_ex hF
  have Jk18_6 : ∀ (zq6 : Bool) (mq5 : Mem), Fr [85, 86, 87, 88] [(78, 0), (78, 20), (78, 21), (78, 22), (78, 23), (78, 24)] m0 mq5 → k18_6 zq6 mq5 = some (v, m') → Fr [85, 86, 87, 88] [(78, 0), (78, 20), (78, 21), (78, 22), (78, 23), (78, 24)] m0 m' := by
    intro zq6 mq5 hf hF
    rw [ek18_6] at hF
    obtain ⟨zq9, mq7, hz, hF⟩ := bnd_ex hF
    have hf := Fr_tr hf (fr_M_throwsIf zq6 (1 : Int32) mq5 _ _ hz) (by decide) (by decide)
    rcases if_ex hF with hF | hF
    · cases hF
      exact hf
    · obtain ⟨zq12, mq10, hz, hF⟩ := bnd_ex hF
      have hf := Fr_tr hf (fr_M_in a1 (0 : Int32) (3 : Int32) mq7 _ _ hz) (by decide) (by decide)
      obtain ⟨k40_14, ek40_14, hF⟩ := lt_ex hF
      have Jk40_14 : ∀ (zq14 : Bool) (mq13 : Mem), Fr [85, 86, 87, 88] [(78, 0), (78, 20), (78, 21), (78, 22), (78, 23), (78, 24)] m0 mq13 → k40_14 zq14 mq13 = some (v, m') → Fr [85, 86, 87, 88] [(78, 0), (78, 20), (78, 21), (78, 22), (78, 23), (78, 24)] m0 m' := by
        intro zq14 mq13 hf hF
        rw [ek40_14] at hF
        obtain ⟨zq17, mq15, hz, hF⟩ := bnd_ex hF
        have hf := Fr_tr hf (fr_M_throwsIf zq14 (2 : Int32) mq13 _ _ hz) (by decide) (by decide)
        rcases if_ex hF with hF | hF
        · cases hF
          exact hf
        · obtain ⟨mq18, emq18, hF⟩ := lt_ex hF
          have hf := Fr_sZ emq18 hf (Or.inr (by decide))
          obtain ⟨u_, mq19, hz, hF⟩ := bnd_ex hF
          have hf := Fr_tr hf (fr_M_countsNow mq18 _ _ hz) (by decide) (by decide)
          obtain ⟨mq22, emq22, hF⟩ := lt_ex hF
          have hf := Fr_sZ emq22 hf (Or.inr (by decide))
          obtain ⟨xq25, mq23, hz, hF⟩ := bnd_ex hF
          have hf := Fr_tr hf (fr_M_played mq22 _ _ hz) (by decide) (by decide)
          obtain ⟨zq28, mq26, hz, hF⟩ := bnd_ex hF
          have hf := Fr_tr hf (fr_M_isOver mq23 _ _ hz) (by decide) (by decide)
          obtain ⟨k84_30, ek84_30, hF⟩ := lt_ex hF
          have Jk84_30 : ∀ (xq30 : Int32) (mq29 : Mem), Fr [85, 86, 87, 88] [(78, 0), (78, 20), (78, 21), (78, 22), (78, 23), (78, 24)] m0 mq29 → k84_30 xq30 mq29 = some (v, m') → Fr [85, 86, 87, 88] [(78, 0), (78, 20), (78, 21), (78, 22), (78, 23), (78, 24)] m0 m' := by
            intro xq30 mq29 hf hF
            rw [ek84_30] at hF
            obtain ⟨yq33, mq31, hz, hF⟩ := bnd_ex hF
            have hf := Fr_tr hf (fr_M_waysOf a1 xq25 xq30 mq29 _ _ hz) (by decide) (by decide)
            cases hF
            exact hf
          rcases if_ex hF with hF | hF
          · exact Jk84_30 (0 : Int32) mq26 hf hF
          · obtain ⟨xq36, mq34, hz, hF⟩ := bnd_ex hF
            have hf := Fr_tr hf (fr_M_batter mq26 _ _ hz) (by decide) (by decide)
            exact Jk84_30 xq36 mq34 hf hF
      rcases if_ex hF with hF | hF
      · exact Jk40_14 false mq10 hf hF
      · exact Jk40_14 true mq10 hf hF
  rcases if_ex hF with hF | hF
  · exact Jk18_6 false mq2 hf hF
  · exact Jk18_6 true mq2 hf hF
set_option maxHeartbeats 4000000 in
theorem fr_M_ofBook (a1 : Int32) (a2 : Int32) (m0 : Mem) (v : Int32) (m' : Mem) (hF : F_M_ofBook a1 a2 m0 = some (v, m')) : Fr [] [] m0 m' := by
  unfold F_M_ofBook at hF
  have hf : Fr [] [] m0 m0 := Fr_rf
  obtain ⟨-, hF⟩ := ckB_ex hF
  obtain ⟨xq2, exq2, hF⟩ := lt_ex hF
  cases hF
  exact hf
set_option maxHeartbeats 4000000 in
theorem fr_M_isSuch (a1 : Int32) (a2 : Int32) (m0 : Mem) (v : Bool) (m' : Mem) (hF : F_M_isSuch a1 a2 m0 = some (v, m')) : Fr [] [] m0 m' := by
  unfold F_M_isSuch at hF
  have hf : Fr [] [] m0 m0 := Fr_rf
  obtain ⟨xq3, mq1, hz, hF⟩ := bnd_ex hF
  have hf := Fr_tr hf (fr_M_ofBook a1 (0 : Int32) m0 _ _ hz) (by decide) (by decide)
  obtain ⟨xq6, mq4, hz, hF⟩ := bnd_ex hF
  have hf := Fr_tr hf (fr_M_ofBook a1 (1 : Int32) mq1 _ _ hz) (by decide) (by decide)
  obtain ⟨xq9, mq7, hz, hF⟩ := bnd_ex hF
  have hf := Fr_tr hf (fr_M_ofBook a1 (2 : Int32) mq4 _ _ hz) (by decide) (by decide)
  rcases if_ex hF with hF | hF
  · rcases if_ex hF with hF | hF
    · cases hF
      exact hf
    · cases hF
      exact hf
  · rcases if_ex hF with hF | hF
    · rcases if_ex hF with hF | hF
      · rcases if_ex hF with hF | hF
        · cases hF
          exact hf
        · cases hF
          exact hf
      · cases hF
        exact hf
    · rcases if_ex hF with hF | hF
      · rcases if_ex hF with hF | hF
        · cases hF
          exact hf
        · cases hF
          exact hf
      · rcases if_ex hF with hF | hF
        · rcases if_ex hF with hF | hF
          · cases hF
            exact hf
          · cases hF
            exact hf
        · rcases if_ex hF with hF | hF
          · rcases if_ex hF with hF | hF
            · cases hF
              exact hf
            · cases hF
              exact hf
          · cases hF
            exact hf
set_option maxHeartbeats 4000000 in
theorem fr_M_bookOf_L4 (a1 : Int32) (mB : Mem) (v : Int32) (m' : Mem) : ∀ (nf : Nat) (xq2 : Int32) (xq3 : Int32) (mq1 : Mem), Fr [] [] mB mq1 → F_M_bookOf_L4 a1 nf xq2 xq3 mq1 = some (v, m') → Fr [] [] mB m' := by
  intro nf
  induction nf with
  | zero =>
    intro xq2 xq3 mq1 hf hF
    rw [F_M_bookOf_L4] at hF
    cases hF
  | succ nfq4 ih =>
    intro xq2 xq3 mq1 hf hF
    rw [F_M_bookOf_L4] at hF
    rcases if_ex hF with hF | hF
    · cases hF
      exact hf
    · obtain ⟨zq8, mq6, hz, hF⟩ := bnd_ex hF
      have hf := Fr_tr hf (fr_M_isSuch xq3 a1 mq1 _ _ hz) (by decide) (by decide)
      obtain ⟨k29_10, ek29_10, hF⟩ := lt_ex hF
      have Jk29_10 : ∀ (zq10 : Bool) (mq9 : Mem), Fr [] [] mB mq9 → k29_10 zq10 mq9 = some (v, m') → Fr [] [] mB m' := by
        intro zq10 mq9 hf hF
        rw [ek29_10] at hF
        obtain ⟨xq11, exq11, hF⟩ := lt_ex hF
        obtain ⟨xq12, exq12, hF⟩ := lt_ex hF
        exact ih xq11 xq12 mq9 hf hF
      rcases if_ex hF with hF | hF
      · exact Jk29_10 true mq6 hf hF
      · exact Jk29_10 false mq6 hf hF
set_option maxHeartbeats 4000000 in
theorem fr_M_bookOf (a1 : Int32) (m0 : Mem) (v : Int32) (m' : Mem) (hF : F_M_bookOf a1 m0 = some (v, m')) : Fr [] [] m0 m' := by
  unfold F_M_bookOf at hF
  have hf : Fr [] [] m0 m0 := Fr_rf
  exact fr_M_bookOf_L4 a1 m0 _ _  1000000 (0 : Int32) (0 : Int32) m0 hf hF
set_option maxHeartbeats 4000000 in
theorem fr_M_book (a1 : Int32) (m0 : Mem) (v : Int32) (m' : Mem) (hF : F_M_book a1 m0 = some (v, m')) : Fr [] [(78, 0)] m0 m' := by
  unfold F_M_book at hF
  have hf : Fr [] [(78, 0)] m0 m0 := Fr_rf
  obtain ⟨mq1, emq1, hF⟩ := lt_ex hF
  have hf := Fr_sI emq1 hf (Or.inr (by decide))
  obtain ⟨zq4, mq2, hz, hF⟩ := bnd_ex hF
  have hf := Fr_tr hf (fr_M_in a1 (0 : Int32) (5 : Int32) mq1 _ _ hz) (by decide) (by decide)
  obtain ⟨k20_6, ek20_6, hF⟩ := lt_ex hF
  have Jk20_6 : ∀ (zq6 : Bool) (mq5 : Mem), Fr [] [(78, 0)] m0 mq5 → k20_6 zq6 mq5 = some (v, m') → Fr [] [(78, 0)] m0 m' := by
    intro zq6 mq5 hf hF
    rw [ek20_6] at hF
    obtain ⟨zq9, mq7, hz, hF⟩ := bnd_ex hF
    have hf := Fr_tr hf (fr_M_throwsIf zq6 (1 : Int32) mq5 _ _ hz) (by decide) (by decide)
    rcases if_ex hF with hF | hF
    · cases hF
      exact hf
    · obtain ⟨xq12, mq10, hz, hF⟩ := bnd_ex hF
      have hf := Fr_tr hf (fr_M_bookOf a1 mq7 _ _ hz) (by decide) (by decide)
      cases hF
      exact hf
  rcases if_ex hF with hF | hF
  · exact Jk20_6 false mq2 hf hF
  · exact Jk20_6 true mq2 hf hF
set_option maxHeartbeats 4000000 in
theorem fr_M_nextInnings (m0 : Mem) (v : Unit) (m' : Mem) (hF : F_M_nextInnings m0 = some (v, m')) : Fr [79] [] m0 m' := by
  unfold F_M_nextInnings at hF
  have hf : Fr [79] [] m0 m0 := Fr_rf
  obtain ⟨mq1, emq1, hF⟩ := lt_ex hF
  have hf := Fr_sI emq1 hf (Or.inl (by decide))
  obtain ⟨k30_2, ek30_2, hF⟩ := lt_ex hF
  have Jk30_2 : ∀ (mq2 : Mem), Fr [79] [] m0 mq2 → k30_2 mq2 = some (v, m') → Fr [79] [] m0 m' := by
    intro mq2 hf hF
    rw [ek30_2] at hF
    obtain ⟨mq3, emq3, hF⟩ := lt_ex hF
    have hf := Fr_sI emq3 hf (Or.inl (by decide))
    obtain ⟨mq4, emq4, hF⟩ := lt_ex hF
    have hf := Fr_sI emq4 hf (Or.inl (by decide))
    rcases if_ex hF with hF | hF
    · obtain ⟨xq7, mq5, hz, hF⟩ := bnd_ex hF
      have hf := Fr_tr hf (fr_M_batter mq4 _ _ hz) (by decide) (by decide)
      obtain ⟨xq10, mq8, hz, hF⟩ := bnd_ex hF
      have hf := Fr_tr hf (fr_M_leadOf xq7 mq5 _ _ hz) (by decide) (by decide)
      rcases if_ex hF with hF | hF
      · cases hF
        exact hf
      · obtain ⟨xq13, mq11, hz, hF⟩ := bnd_ex hF
        have hf := Fr_tr hf (fr_M_batter mq8 _ _ hz) (by decide) (by decide)
        obtain ⟨mq14, emq14, hF⟩ := lt_ex hF
        have hf := Fr_sI emq14 hf (Or.inl (by decide))
        cases hF
        exact hf
    · cases hF
      exact hf
  rcases if_ex hF with hF | hF
  · obtain ⟨mq15, emq15, hF⟩ := lt_ex hF
    have hf := Fr_sI emq15 hf (Or.inl (by decide))
    exact Jk30_2 mq15 hf hF
  · exact Jk30_2 mq1 hf hF
set_option maxHeartbeats 4000000 in
theorem fr_M_settles (m0 : Mem) (v : Unit) (m' : Mem) (hF : F_M_settles m0 = some (v, m')) : Fr [79] [] m0 m' := by
  unfold F_M_settles at hF
  have hf : Fr [79] [] m0 m0 := Fr_rf
  obtain ⟨xq3, mq1, hz, hF⟩ := bnd_ex hF
  have hf := Fr_tr hf (fr_M_batter m0 _ _ hz) (by decide) (by decide)
  obtain ⟨xq6, mq4, hz, hF⟩ := bnd_ex hF
  have hf := Fr_tr hf (fr_M_leadOf xq3 mq1 _ _ hz) (by decide) (by decide)
  obtain ⟨k86_7, ek86_7, hF⟩ := lt_ex hF
  have Jk86_7 : ∀ (mq7 : Mem), Fr [79] [] m0 mq7 → k86_7 mq7 = some (v, m') → Fr [79] [] m0 m' := by
    intro mq7 hf hF
    rw [ek86_7] at hF
    obtain ⟨zq10, mq8, hz, hF⟩ := bnd_ex hF
    have hf := Fr_tr hf (fr_M_isOver mq7 _ _ hz) (by decide) (by decide)
    rcases if_ex hF with hF | hF
    · cases hF
      exact hf
    · obtain ⟨xq13, mq11, hz, hF⟩ := bnd_ex hF
      have hf := Fr_tr hf (fr_M_played mq8 _ _ hz) (by decide) (by decide)
      obtain ⟨xq16, mq14, hz, hF⟩ := bnd_ex hF
      have hf := Fr_tr hf (fr_M_size mq11 _ _ hz) (by decide) (by decide)
      rcases if_ex hF with hF | hF
      · obtain ⟨mq17, emq17, hF⟩ := lt_ex hF
        have hf := Fr_sI emq17 hf (Or.inl (by decide))
        cases hF
        exact hf
      · cases hF
        exact hf
  rcases if_ex hF with hF | hF
  · rcases if_ex hF with hF | hF
    · rcases if_ex hF with hF | hF
      · obtain ⟨k66_22, ek66_22, hF⟩ := lt_ex hF
        have Jk66_22 : ∀ (xq22 : Int32) (mq21 : Mem), Fr [79] [] m0 mq21 → k66_22 xq22 mq21 = some (v, m') → Fr [79] [] m0 m' := by
          intro xq22 mq21 hf hF
          rw [ek66_22] at hF
          obtain ⟨mq23, emq23, hF⟩ := lt_ex hF
          have hf := Fr_sI emq23 hf (Or.inl (by decide))
          exact Jk86_7 mq23 hf hF
        rcases if_ex hF with hF | hF
        · exact Jk66_22 (2 : Int32) mq4 hf hF
        · exact Jk66_22 ((1 : Int32) - xq3) mq4 hf hF
      · exact Jk86_7 mq4 hf hF
    · obtain ⟨mq24, emq24, hF⟩ := lt_ex hF
      have hf := Fr_sI emq24 hf (Or.inl (by decide))
      exact Jk86_7 mq24 hf hF
  · rcases if_ex hF with hF | hF
    · obtain ⟨u_, mq18, hz, hF⟩ := bnd_ex hF
      have hf := Fr_tr hf (fr_M_nextInnings mq4 _ _ hz) (by decide) (by decide)
      exact Jk86_7 mq18 hf hF
    · exact Jk86_7 mq4 hf hF
set_option maxHeartbeats 4000000 in
theorem fr_M_plays (a1 : Int32) (a2 : Bool) (m0 : Mem) (v : Int32) (m' : Mem) (hF : F_M_plays a1 a2 m0 = some (v, m')) : Fr [79, 85] [] m0 m' := by
  unfold F_M_plays at hF
  have hf : Fr [79, 85] [] m0 m0 := Fr_rf
  obtain ⟨xq3, mq1, hz, hF⟩ := bnd_ex hF
  have hf := Fr_tr hf (fr_M_played m0 _ _ hz) (by decide) (by decide)
  obtain ⟨xq6, mq4, hz, hF⟩ := bnd_ex hF
  have hf := Fr_tr hf (fr_M_batter mq1 _ _ hz) (by decide) (by decide)
  obtain ⟨xq9, mq7, hz, hF⟩ := bnd_ex hF
  have hf := Fr_tr hf (fr_M_levelOf xq3 (gI mq4 79 11) xq6 mq4 _ _ hz) (by decide) (by decide)
  obtain ⟨k51_11, ek51_11, hF⟩ := lt_ex hF
  have Jk51_11 : ∀ (xq11 : Int32) (mq10 : Mem), Fr [79, 85] [] m0 mq10 → k51_11 xq11 mq10 = some (v, m') → Fr [79, 85] [] m0 m' := by
    intro xq11 mq10 hf hF
    rw [ek51_11] at hF
    obtain ⟨zq14, mq12, hz, hF⟩ := bnd_ex hF
    have hf := Fr_tr hf (fr_M_isRain xq3 mq10 _ _ hz) (by decide) (by decide)
    obtain ⟨k73_16, ek73_16, hF⟩ := lt_ex hF
    have Jk73_16 : ∀ (xq16 : Int32) (mq15 : Mem), Fr [79, 85] [] m0 mq15 → k73_16 xq16 mq15 = some (v, m') → Fr [79, 85] [] m0 m' := by
      intro xq16 mq15 hf hF
      rw [ek73_16] at hF
      obtain ⟨xq17, exq17, hF⟩ := lt_ex hF
      obtain ⟨-, hF⟩ := ckB_ex hF
      obtain ⟨xq19, exq19, hF⟩ := lt_ex hF
      obtain ⟨-, hF⟩ := ckB_ex hF
      obtain ⟨mq20, emq20, hF⟩ := lt_ex hF
      have hf := Fr_sI emq20 hf (Or.inl (by decide))
      obtain ⟨k117_23, ek117_23, hF⟩ := lt_ex hF
      have Jk117_23 : ∀ (zq23 : Bool) (mq22 : Mem), Fr [79, 85] [] m0 mq22 → k117_23 zq23 mq22 = some (v, m') → Fr [79, 85] [] m0 m' := by
        intro zq23 mq22 hf hF
        rw [ek117_23] at hF
        obtain ⟨xq24, exq24, hF⟩ := lt_ex hF
        obtain ⟨mq25, emq25, hF⟩ := lt_ex hF
        have hf := Fr_sI emq25 hf (Or.inl (by decide))
        obtain ⟨mq26, emq26, hF⟩ := lt_ex hF
        have hf := Fr_sI emq26 hf (Or.inl (by decide))
        obtain ⟨xq29, mq27, hz, hF⟩ := bnd_ex hF
        have hf := Fr_tr hf (fr_M_leadOf xq6 mq26 _ _ hz) (by decide) (by decide)
        obtain ⟨xq30, exq30, hF⟩ := lt_ex hF
        obtain ⟨-, hF⟩ := ckB_ex hF
        obtain ⟨mq31, emq31, hF⟩ := lt_ex hF
        have hf := Fr_sI emq31 hf (Or.inl (by decide))
        obtain ⟨-, hF⟩ := ckB_ex hF
        obtain ⟨mq33, emq33, hF⟩ := lt_ex hF
        have hf := Fr_sI emq33 hf (Or.inl (by decide))
        obtain ⟨-, hF⟩ := ckB_ex hF
        obtain ⟨mq35, emq35, hF⟩ := lt_ex hF
        have hf := Fr_sI emq35 hf (Or.inl (by decide))
        obtain ⟨-, hF⟩ := ckB_ex hF
        obtain ⟨mq37, emq37, hF⟩ := lt_ex hF
        have hf := Fr_sI emq37 hf (Or.inl (by decide))
        obtain ⟨-, hF⟩ := ckB_ex hF
        obtain ⟨mq39, emq39, hF⟩ := lt_ex hF
        have hf := Fr_sI emq39 hf (Or.inl (by decide))
        obtain ⟨-, hF⟩ := ckB_ex hF
        obtain ⟨mq41, emq41, hF⟩ := lt_ex hF
        have hf := Fr_sI emq41 hf (Or.inl (by decide))
        obtain ⟨-, hF⟩ := ckB_ex hF
        obtain ⟨mq43, emq43, hF⟩ := lt_ex hF
        have hf := Fr_sI emq43 hf (Or.inl (by decide))
        obtain ⟨mq45, emq45, hF⟩ := lt_ex hF
        have hf := Fr_sI emq45 hf (Or.inl (by decide))
        obtain ⟨u_, mq46, hz, hF⟩ := bnd_ex hF
        have hf := Fr_tr hf (fr_M_settles mq45 _ _ hz) (by decide) (by decide)
        cases hF
        exact hf
      rcases if_ex hF with hF | hF
      · exact Jk117_23 true mq20 hf hF
      · exact Jk117_23 false mq20 hf hF
    rcases if_ex hF with hF | hF
    · exact Jk73_16 (0 : Int32) mq12 hf hF
    · obtain ⟨xq51, mq49, hz, hF⟩ := bnd_ex hF
      have hf := Fr_tr hf (fr_M_ofSlot xq9 a1 (1 : Int32) mq12 _ _ hz) (by decide) (by decide)
      exact Jk73_16 xq51 mq49 hf hF
  obtain ⟨k39_52, ek39_52, hF⟩ := lt_ex hF
  have Jk39_52 : ∀ (mq52 : Mem), Fr [79, 85] [] m0 mq52 → k39_52 mq52 = some (v, m') → Fr [79, 85] [] m0 m' := by
    intro mq52 hf hF
    rw [ek39_52] at hF
    exact Jk51_11 (0 : Int32) mq52 hf hF
  rcases if_ex hF with hF | hF
  · exact Jk39_52 mq7 hf hF
  · obtain ⟨zq55, mq53, hz, hF⟩ := bnd_ex hF
    have hf := Fr_tr hf (fr_M_isRain xq3 mq7 _ _ hz) (by decide) (by decide)
    rcases if_ex hF with hF | hF
    · exact Jk39_52 mq53 hf hF
    · obtain ⟨xq58, mq56, hz, hF⟩ := bnd_ex hF
      have hf := Fr_tr hf (fr_M_ofSlot xq9 a1 (0 : Int32) mq53 _ _ hz) (by decide) (by decide)
      exact Jk51_11 xq58 mq56 hf hF
set_option maxHeartbeats 4000000 in
theorem fr_M_bring (a1 : Int32) (m0 : Mem) (v : Int32) (m' : Mem) (hF : F_M_bring a1 m0 = some (v, m')) : Fr [79, 82, 85] [(78, 0), (78, 6)] m0 m' := by
  unfold F_M_bring at hF
  have hf : Fr [79, 82, 85] [(78, 0), (78, 6)] m0 m0 := Fr_rf
  obtain ⟨mq1, emq1, hF⟩ := lt_ex hF
  have hf := Fr_sI emq1 hf (Or.inr (by decide))
  obtain ⟨zq4, mq2, hz, hF⟩ := bnd_ex hF
  have hf := Fr_tr hf (fr_M_noSlot a1 mq1 _ _ hz) (by decide) (by decide)
  obtain ⟨zq7, mq5, hz, hF⟩ := bnd_ex hF
  have hf := Fr_tr hf (fr_M_throwsIf zq4 (1 : Int32) mq2 _ _ hz) (by decide) (by decide)
  rcases if_ex hF with hF | hF
  · cases hF
    exact hf
  · obtain ⟨zq10, mq8, hz, hF⟩ := bnd_ex hF
    have hf := Fr_tr hf (fr_M_isOn mq5 _ _ hz) (by decide) (by decide)
    obtain ⟨k30_12, ek30_12, hF⟩ := lt_ex hF
    have Jk30_12 : ∀ (zq12 : Bool) (mq11 : Mem), Fr [79, 82, 85] [(78, 0), (78, 6)] m0 mq11 → k30_12 zq12 mq11 = some (v, m') → Fr [79, 82, 85] [(78, 0), (78, 6)] m0 m' := by
      intro zq12 mq11 hf hF
      rw [ek30_12] at hF
      obtain ⟨zq15, mq13, hz, hF⟩ := bnd_ex hF
      have hf := Fr_tr hf (fr_M_throwsIf zq12 (2 : Int32) mq11 _ _ hz) (by decide) (by decide)
      rcases if_ex hF with hF | hF
      · cases hF
        exact hf
      · obtain ⟨u_, mq16, hz, hF⟩ := bnd_ex hF
        have hf := Fr_tr hf (fr_M_remembers mq13 _ _ hz) (by decide) (by decide)
        obtain ⟨xq21, mq19, hz, hF⟩ := bnd_ex hF
        have hf := Fr_tr hf (fr_M_plays a1 false mq16 _ _ hz) (by decide) (by decide)
        cases hF
        exact hf
    rcases if_ex hF with hF | hF
    · exact Jk30_12 false mq8 hf hF
    · exact Jk30_12 true mq8 hf hF
set_option maxHeartbeats 4000000 in
theorem fr_M_noPlayed (a1 : Int32) (m0 : Mem) (v : Bool) (m' : Mem) (hF : F_M_noPlayed a1 m0 = some (v, m')) : Fr [] [] m0 m' := by
  unfold F_M_noPlayed at hF
  have hf : Fr [] [] m0 m0 := Fr_rf
  obtain ⟨xq3, mq1, hz, hF⟩ := bnd_ex hF
  have hf := Fr_tr hf (fr_M_size m0 _ _ hz) (by decide) (by decide)
  obtain ⟨zq6, mq4, hz, hF⟩ := bnd_ex hF
  have hf := Fr_tr hf (fr_M_in a1 (0 : Int32) xq3 mq1 _ _ hz) (by decide) (by decide)
  rcases if_ex hF with hF | hF
  · cases hF
    exact hf
  · cases hF
    exact hf
set_option maxHeartbeats 4000000 in
theorem fr_M_countsFrom (a1 : Int32) (a2 : Int32) (m0 : Mem) (v : Unit) (m' : Mem) (hF : F_M_countsFrom a1 a2 m0 = some (v, m')) : Fr [85, 86, 87, 88] [(78, 20), (78, 21), (78, 23), (78, 24)] m0 m' := by
  unfold F_M_countsFrom at hF
  have hf : Fr [85, 86, 87, 88] [(78, 20), (78, 21), (78, 23), (78, 24)] m0 m0 := Fr_rf
  obtain ⟨mq1, emq1, hF⟩ := lt_ex hF
  have hf := Fr_sI emq1 hf (Or.inr (by decide))
  obtain ⟨u_, mq2, hz, hF⟩ := bnd_ex hF
  have hf := Fr_tr hf (fr_M_layers (0 : Int32) a1 (abI a2) mq1 _ _ hz) (by decide) (by decide)
  obtain ⟨xq7, mq5, hz, hF⟩ := bnd_ex hF
  have hf := Fr_tr hf (fr_M_size mq2 _ _ hz) (by decide) (by decide)
  rcases if_ex hF with hF | hF
  · cases hF
    exact hf
  · obtain ⟨u_, mq8, hz, hF⟩ := bnd_ex hF
    have hf := Fr_tr hf (fr_M_laysLevels a1 mq5 _ _ hz) (by decide) (by decide)
    cases hF
    exact hf
set_option maxHeartbeats 4000000 in
theorem fr_M_chased_L41 (a1 : Int32) (mB : Mem) (v : Int32) (m' : Mem) : ∀ (nf : Nat) (xq15 : Int32) (mq14 : Mem), Fr [85, 86, 87, 88] [(78, 0), (78, 20), (78, 21), (78, 23), (78, 24)] mB mq14 → F_M_chased_L41 a1 nf xq15 mq14 = some (v, m') → Fr [85, 86, 87, 88] [(78, 0), (78, 20), (78, 21), (78, 23), (78, 24)] mB m' := by
  intro nf
  induction nf with
  | zero =>
    intro xq15 mq14 hf hF
    rw [F_M_chased_L41] at hF
    cases hF
  | succ nfq16 ih =>
    intro xq15 mq14 hf hF
    rw [F_M_chased_L41] at hF
    rcases if_ex hF with hF | hF
    · cases hF
      exact hf
    · obtain ⟨u_, mq18, hz, hF⟩ := bnd_ex hF
      have hf := Fr_tr hf (fr_M_takes a1 (4 : Int32) (0 : Int32) (-xq15) mq14 _ _ hz) (by decide) (by decide)
      rcases if_ex hF with hF | hF
      · obtain ⟨xq21, exq21, hF⟩ := lt_ex hF
        exact ih xq21 mq18 hf hF
      · cases hF
        exact hf
set_option maxHeartbeats 4000000 in
theorem fr_M_chased (a1 : Int32) (m0 : Mem) (v : Int32) (m' : Mem) (hF : F_M_chased a1 m0 = some (v, m')) : Fr [85, 86, 87, 88] [(78, 0), (78, 20), (78, 21), (78, 23), (78, 24)] m0 m' := by
  unfold F_M_chased at hF
  have hf : Fr [85, 86, 87, 88] [(78, 0), (78, 20), (78, 21), (78, 23), (78, 24)] m0 m0 := Fr_rf
  obtain ⟨mq1, emq1, hF⟩ := lt_ex hF
  have hf := Fr_sI emq1 hf (Or.inr (by decide))
  obtain ⟨zq4, mq2, hz, hF⟩ := bnd_ex hF
  have hf := Fr_tr hf (fr_M_noPlayed a1 mq1 _ _ hz) (by decide) (by decide)
  obtain ⟨zq7, mq5, hz, hF⟩ := bnd_ex hF
  have hf := Fr_tr hf (fr_M_throwsIf zq4 (1 : Int32) mq2 _ _ hz) (by decide) (by decide)
  rcases if_ex hF with hF | hF
  · cases hF
    exact hf
  · obtain ⟨xq10, mq8, hz, hF⟩ := bnd_ex hF
    have hf := Fr_tr hf (fr_M_size mq5 _ _ hz) (by decide) (by decide)
    rcases if_ex hF with hF | hF
    · cases hF
      exact hf
    · obtain ⟨u_, mq11, hz, hF⟩ := bnd_ex hF
      have hf := Fr_tr hf (fr_M_countsFrom a1 (81 : Int32) mq8 _ _ hz) (by decide) (by decide)
      exact fr_M_chased_L41 a1 m0 _ _  1000000 (81 : Int32) mq11 hf hF
set_option maxHeartbeats 4000000 in
theorem fr_M_canHold (m0 : Mem) (v : Bool) (m' : Mem) (hF : F_M_canHold m0 = some (v, m')) : Fr [] [] m0 m' := by
  unfold F_M_canHold at hF
  have hf : Fr [] [] m0 m0 := Fr_rf
  obtain ⟨zq3, mq1, hz, hF⟩ := bnd_ex hF
  have hf := Fr_tr hf (fr_M_isOn m0 _ _ hz) (by decide) (by decide)
  rcases if_ex hF with hF | hF
  · rcases if_ex hF with hF | hF
    · cases hF
      exact hf
    · cases hF
      exact hf
  · cases hF
    exact hf
set_option maxHeartbeats 4000000 in
theorem fr_M_canFollow (m0 : Mem) (v : Bool) (m' : Mem) (hF : F_M_canFollow m0 = some (v, m')) : Fr [] [] m0 m' := by
  unfold F_M_canFollow at hF
  have hf : Fr [] [] m0 m0 := Fr_rf
  obtain ⟨zq3, mq1, hz, hF⟩ := bnd_ex hF
  have hf := Fr_tr hf (fr_M_isOn m0 _ _ hz) (by decide) (by decide)
  rcases if_ex hF with hF | hF
  · rcases if_ex hF with hF | hF
    · rcases if_ex hF with hF | hF
      · obtain ⟨zq6, mq4, hz, hF⟩ := bnd_ex hF
        have hf := Fr_tr hf (fr_M_isFollowed mq1 _ _ hz) (by decide) (by decide)
        rcases if_ex hF with hF | hF
        · cases hF
          exact hf
        · obtain ⟨xq9, mq7, hz, hF⟩ := bnd_ex hF
          have hf := Fr_tr hf (fr_M_firstSide mq4 _ _ hz) (by decide) (by decide)
          obtain ⟨xq12, mq10, hz, hF⟩ := bnd_ex hF
          have hf := Fr_tr hf (fr_M_leadOf xq9 mq7 _ _ hz) (by decide) (by decide)
          rcases if_ex hF with hF | hF
          · cases hF
            exact hf
          · cases hF
            exact hf
      · cases hF
        exact hf
    · cases hF
      exact hf
  · cases hF
    exact hf
set_option maxHeartbeats 4000000 in
theorem fr_M_canDeclare (m0 : Mem) (v : Bool) (m' : Mem) (hF : F_M_canDeclare m0 = some (v, m')) : Fr [] [] m0 m' := by
  unfold F_M_canDeclare at hF
  have hf : Fr [] [] m0 m0 := Fr_rf
  obtain ⟨zq3, mq1, hz, hF⟩ := bnd_ex hF
  have hf := Fr_tr hf (fr_M_isOn m0 _ _ hz) (by decide) (by decide)
  rcases if_ex hF with hF | hF
  · rcases if_ex hF with hF | hF
    · cases hF
      exact hf
    · rcases if_ex hF with hF | hF
      · cases hF
        exact hf
      · cases hF
        exact hf
  · cases hF
    exact hf
set_option maxHeartbeats 4000000 in
theorem fr_M_canBe (a1 : Int32) (m0 : Mem) (v : Bool) (m' : Mem) (hF : F_M_canBe a1 m0 = some (v, m')) : Fr [] [] m0 m' := by
  unfold F_M_canBe at hF
  have hf : Fr [] [] m0 m0 := Fr_rf
  rcases if_ex hF with hF | hF
  · obtain ⟨zq12, mq10, hz, hF⟩ := bnd_ex hF
    have hf := Fr_tr hf (fr_M_isOn m0 _ _ hz) (by decide) (by decide)
    cases hF
    exact hf
  · rcases if_ex hF with hF | hF
    · obtain ⟨zq9, mq7, hz, hF⟩ := bnd_ex hF
      have hf := Fr_tr hf (fr_M_canDeclare m0 _ _ hz) (by decide) (by decide)
      cases hF
      exact hf
    · rcases if_ex hF with hF | hF
      · obtain ⟨zq6, mq4, hz, hF⟩ := bnd_ex hF
        have hf := Fr_tr hf (fr_M_canFollow m0 _ _ hz) (by decide) (by decide)
        cases hF
        exact hf
      · obtain ⟨zq3, mq1, hz, hF⟩ := bnd_ex hF
        have hf := Fr_tr hf (fr_M_canHold m0 _ _ hz) (by decide) (by decide)
        cases hF
        exact hf
set_option maxHeartbeats 4000000 in
theorem fr_M_worthBy (a1 : Int32) (m0 : Mem) (v : Int64) (m' : Mem) (hF : F_M_worthBy a1 m0 = some (v, m')) : Fr [] [(78, 23), (78, 24)] m0 m' := by
  unfold F_M_worthBy at hF
  have hf : Fr [] [(78, 23), (78, 24)] m0 m0 := Fr_rf
  obtain ⟨xq3, mq1, hz, hF⟩ := bnd_ex hF
  have hf := Fr_tr hf (fr_M_played m0 _ _ hz) (by decide) (by decide)
  obtain ⟨xq6, mq4, hz, hF⟩ := bnd_ex hF
  have hf := Fr_tr hf (fr_M_batter mq1 _ _ hz) (by decide) (by decide)
  obtain ⟨xq9, mq7, hz, hF⟩ := bnd_ex hF
  have hf := Fr_tr hf (fr_M_leadOf xq6 mq4 _ _ hz) (by decide) (by decide)
  obtain ⟨k72_10, ek72_10, hF⟩ := lt_ex hF
  have Jk72_10 : ∀ (mq10 : Mem), Fr [] [(78, 23), (78, 24)] m0 mq10 → k72_10 mq10 = some (v, m') → Fr [] [(78, 23), (78, 24)] m0 m' := by
    intro mq10 hf hF
    rw [ek72_10] at hF
    obtain ⟨yq13, mq11, hz, hF⟩ := bnd_ex hF
    have hf := Fr_tr hf (fr_M_got xq3 mq10 _ _ hz) (by decide) (by decide)
    cases hF
    exact hf
  obtain ⟨k23_14, ek23_14, hF⟩ := lt_ex hF
  have Jk23_14 : ∀ (mq14 : Mem), Fr [] [(78, 23), (78, 24)] m0 mq14 → k23_14 mq14 = some (v, m') → Fr [] [(78, 23), (78, 24)] m0 m' := by
    intro mq14 hf hF
    rw [ek23_14] at hF
    obtain ⟨xq17, mq15, hz, hF⟩ := bnd_ex hF
    have hf := Fr_tr hf (fr_M_kindNow mq14 _ _ hz) (by decide) (by decide)
    obtain ⟨xq20, mq18, hz, hF⟩ := bnd_ex hF
    have hf := Fr_tr hf (fr_M_outNow mq15 _ _ hz) (by decide) (by decide)
    obtain ⟨k44_22, ek44_22, hF⟩ := lt_ex hF
    have Jk44_22 : ∀ (zq22 : Bool) (mq21 : Mem), Fr [] [(78, 23), (78, 24)] m0 mq21 → k44_22 zq22 mq21 = some (v, m') → Fr [] [(78, 23), (78, 24)] m0 m' := by
      intro zq22 mq21 hf hF
      rw [ek44_22] at hF
      obtain ⟨u_, mq23, hz, hF⟩ := bnd_ex hF
      have hf := Fr_tr hf (fr_M_goesOn xq3 xq17 xq20 xq9 zq22 mq21 _ _ hz) (by decide) (by decide)
      exact Jk72_10 mq23 hf hF
    rcases if_ex hF with hF | hF
    · exact Jk44_22 true mq18 hf hF
    · exact Jk44_22 false mq18 hf hF
  rcases if_ex hF with hF | hF
  · exact Jk23_14 mq7 hf hF
  · rcases if_ex hF with hF | hF
    · exact Jk23_14 mq7 hf hF
    · obtain ⟨k68_27, ek68_27, hF⟩ := lt_ex hF
      have Jk68_27 : ∀ (xq27 : Int32) (mq26 : Mem), Fr [] [(78, 23), (78, 24)] m0 mq26 → k68_27 xq27 mq26 = some (v, m') → Fr [] [(78, 23), (78, 24)] m0 m' := by
        intro xq27 mq26 hf hF
        rw [ek68_27] at hF
        obtain ⟨u_, mq28, hz, hF⟩ := bnd_ex hF
        have hf := Fr_tr hf (fr_M_handsOver xq3 xq27 xq9 mq26 _ _ hz) (by decide) (by decide)
        exact Jk72_10 mq28 hf hF
      rcases if_ex hF with hF | hF
      · obtain ⟨xq33, mq31, hz, hF⟩ := bnd_ex hF
        have hf := Fr_tr hf (fr_M_kindNow mq7 _ _ hz) (by decide) (by decide)
        obtain ⟨xq36, mq34, hz, hF⟩ := bnd_ex hF
        have hf := Fr_tr hf (fr_M_nextKind xq33 mq31 _ _ hz) (by decide) (by decide)
        exact Jk68_27 xq36 mq34 hf hF
      · exact Jk68_27 (3 : Int32) mq7 hf hF
set_option maxHeartbeats 4000000 in
theorem fr_M_cost_L67 (k103_28 : Int64 → Mem → Option (Int64 × Mem)) (mB : Mem) (v : Int64) (m' : Mem) (Jk103_28 : ∀ (b0 : Int64) (b1 : Mem), Fr [85, 86, 87, 88] [(78, 0), (78, 20), (78, 21), (78, 23), (78, 24)] mB b1 → k103_28 b0 b1 = some (v, m') → Fr [85, 86, 87, 88] [(78, 0), (78, 20), (78, 21), (78, 23), (78, 24)] mB m') : ∀ (nf : Nat) (yq33 : Int64) (xq34 : Int32) (mq32 : Mem), Fr [85, 86, 87, 88] [(78, 0), (78, 20), (78, 21), (78, 23), (78, 24)] mB mq32 → F_M_cost_L67 k103_28 nf yq33 xq34 mq32 = some (v, m') → Fr [85, 86, 87, 88] [(78, 0), (78, 20), (78, 21), (78, 23), (78, 24)] mB m' := by
  intro nf
  induction nf with
  | zero =>
    intro yq33 xq34 mq32 hf hF
    rw [F_M_cost_L67] at hF
    cases hF
  | succ nfq35 ih =>
    intro yq33 xq34 mq32 hf hF
    rw [F_M_cost_L67] at hF
    rcases if_ex hF with hF | hF
    · exact Jk103_28 yq33 mq32 hf hF
    · obtain ⟨zq39, mq37, hz, hF⟩ := bnd_ex hF
      have hf := Fr_tr hf (fr_M_canBe xq34 mq32 _ _ hz) (by decide) (by decide)
      obtain ⟨k96_41, ek96_41, hF⟩ := lt_ex hF
      have Jk96_41 : ∀ (yq41 : Int64) (mq40 : Mem), Fr [85, 86, 87, 88] [(78, 0), (78, 20), (78, 21), (78, 23), (78, 24)] mB mq40 → k96_41 yq41 mq40 = some (v, m') → Fr [85, 86, 87, 88] [(78, 0), (78, 20), (78, 21), (78, 23), (78, 24)] mB m' := by
        intro yq41 mq40 hf hF
        rw [ek96_41] at hF
        obtain ⟨xq42, exq42, hF⟩ := lt_ex hF
        exact ih yq41 xq42 mq40 hf hF
      rcases if_ex hF with hF | hF
      · obtain ⟨yq45, mq43, hz, hF⟩ := bnd_ex hF
        have hf := Fr_tr hf (fr_M_worthBy xq34 mq37 _ _ hz) (by decide) (by decide)
        exact Jk96_41 (mxL yq33 yq45) mq43 hf hF
      · exact Jk96_41 yq33 mq37 hf hF
set_option maxHeartbeats 4000000 in
theorem fr_M_cost (a1 : Int32) (m0 : Mem) (v : Int64) (m' : Mem) (hF : F_M_cost a1 m0 = some (v, m')) : Fr [85, 86, 87, 88] [(78, 0), (78, 20), (78, 21), (78, 23), (78, 24)] m0 m' := by
  unfold F_M_cost at hF
  have hf : Fr [85, 86, 87, 88] [(78, 0), (78, 20), (78, 21), (78, 23), (78, 24)] m0 m0 := Fr_rf
  obtain ⟨mq1, emq1, hF⟩ := lt_ex hF
  have hf := Fr_sI emq1 hf (Or.inr (by decide))
  obtain ⟨zq4, mq2, hz, hF⟩ := bnd_ex hF
  have hf := Fr_tr hf (fr_M_in a1 (0 : Int32) (3 : Int32) mq1 _ _ hz) (by decide) (by decide)
  obtain ⟨k20_6, ek20_6, hF⟩ := lt_ex hF
  have Jk20_6 : ∀ (zq6 : Bool) (mq5 : Mem), Fr [85, 86, 87, 88] [(78, 0), (78, 20), (78, 21), (78, 23), (78, 24)] m0 mq5 → k20_6 zq6 mq5 = some (v, m') → Fr [85, 86, 87, 88] [(78, 0), (78, 20), (78, 21), (78, 23), (78, 24)] m0 m' := by
    intro zq6 mq5 hf hF
    rw [ek20_6] at hF
    obtain ⟨zq9, mq7, hz, hF⟩ := bnd_ex hF
    have hf := Fr_tr hf (fr_M_throwsIf zq6 (1 : Int32) mq5 _ _ hz) (by decide) (by decide)
    rcases if_ex hF with hF | hF
    · cases hF
      exact hf
    · obtain ⟨zq12, mq10, hz, hF⟩ := bnd_ex hF
      have hf := Fr_tr hf (fr_M_canBe a1 mq7 _ _ hz) (by decide) (by decide)
      obtain ⟨k41_14, ek41_14, hF⟩ := lt_ex hF
      have Jk41_14 : ∀ (zq14 : Bool) (mq13 : Mem), Fr [85, 86, 87, 88] [(78, 0), (78, 20), (78, 21), (78, 23), (78, 24)] m0 mq13 → k41_14 zq14 mq13 = some (v, m') → Fr [85, 86, 87, 88] [(78, 0), (78, 20), (78, 21), (78, 23), (78, 24)] m0 m' := by
        intro zq14 mq13 hf hF
        rw [ek41_14] at hF
        obtain ⟨zq17, mq15, hz, hF⟩ := bnd_ex hF
        have hf := Fr_tr hf (fr_M_throwsIf zq14 (2 : Int32) mq13 _ _ hz) (by decide) (by decide)
        rcases if_ex hF with hF | hF
        · cases hF
          exact hf
        · obtain ⟨u_, mq18, hz, hF⟩ := bnd_ex hF
          have hf := Fr_tr hf (fr_M_countsNow mq15 _ _ hz) (by decide) (by decide)
          obtain ⟨xq23, mq21, hz, hF⟩ := bnd_ex hF
          have hf := Fr_tr hf (fr_M_played mq18 _ _ hz) (by decide) (by decide)
          obtain ⟨u_, mq24, hz, hF⟩ := bnd_ex hF
          have hf := Fr_tr hf (fr_M_laysLevels xq23 mq21 _ _ hz) (by decide) (by decide)
          obtain ⟨k103_28, ek103_28, hF⟩ := lt_ex hF
          have Jk103_28 : ∀ (yq28 : Int64) (mq27 : Mem), Fr [85, 86, 87, 88] [(78, 0), (78, 20), (78, 21), (78, 23), (78, 24)] m0 mq27 → k103_28 yq28 mq27 = some (v, m') → Fr [85, 86, 87, 88] [(78, 0), (78, 20), (78, 21), (78, 23), (78, 24)] m0 m' := by
            intro yq28 mq27 hf hF
            rw [ek103_28] at hF
            obtain ⟨yq31, mq29, hz, hF⟩ := bnd_ex hF
            have hf := Fr_tr hf (fr_M_worthBy a1 mq27 _ _ hz) (by decide) (by decide)
            cases hF
            exact hf
          exact fr_M_cost_L67 k103_28 m0 _ _ Jk103_28 1000000 (0 : Int64) (0 : Int32) mq24 hf hF
      rcases if_ex hF with hF | hF
      · exact Jk41_14 false mq10 hf hF
      · exact Jk41_14 true mq10 hf hF
  rcases if_ex hF with hF | hF
  · exact Jk20_6 false mq2 hf hF
  · exact Jk20_6 true mq2 hf hF
set_option maxHeartbeats 4000000 in
theorem fr_M_count (a1 : Int32) (m0 : Mem) (v : Int32) (m' : Mem) (hF : F_M_count a1 m0 = some (v, m')) : Fr [] [(78, 0)] m0 m' := by
  unfold F_M_count at hF
  have hf : Fr [] [(78, 0)] m0 m0 := Fr_rf
  obtain ⟨mq1, emq1, hF⟩ := lt_ex hF
  have hf := Fr_sI emq1 hf (Or.inr (by decide))
  rcases if_ex hF with hF | hF
  · rcases if_ex hF with hF | hF
    · cases hF
      exact hf
    · cases hF
      exact hf
  · rcases if_ex hF with hF | hF
    · obtain ⟨xq4, mq2, hz, hF⟩ := bnd_ex hF
      have hf := Fr_tr hf (fr_M_size mq1 _ _ hz) (by decide) (by decide)
      obtain ⟨xq7, mq5, hz, hF⟩ := bnd_ex hF
      have hf := Fr_tr hf (fr_M_played mq2 _ _ hz) (by decide) (by decide)
      cases hF
      exact hf
    · rcases if_ex hF with hF | hF
      · cases hF
        exact hf
      · obtain ⟨zq10, mq8, hz, hF⟩ := bnd_ex hF
        have hf := Fr_tr hf (fr_M_in a1 (0 : Int32) (8 : Int32) mq1 _ _ hz) (by decide) (by decide)
        rcases if_ex hF with hF | hF
        · obtain ⟨-, hF⟩ := ckB_ex hF
          obtain ⟨xq12, exq12, hF⟩ := lt_ex hF
          cases hF
          exact hf
        · cases hF
          exact hf
set_option maxHeartbeats 4000000 in
theorem fr_M_declare (m0 : Mem) (v : Int32) (m' : Mem) (hF : F_M_declare m0 = some (v, m')) : Fr [79, 82] [(78, 0), (78, 6)] m0 m' := by
  unfold F_M_declare at hF
  have hf : Fr [79, 82] [(78, 0), (78, 6)] m0 m0 := Fr_rf
  obtain ⟨mq1, emq1, hF⟩ := lt_ex hF
  have hf := Fr_sI emq1 hf (Or.inr (by decide))
  obtain ⟨zq4, mq2, hz, hF⟩ := bnd_ex hF
  have hf := Fr_tr hf (fr_M_canDeclare mq1 _ _ hz) (by decide) (by decide)
  obtain ⟨k18_6, ek18_6, hF⟩ := lt_ex hF
  have Jk18_6 : ∀ (zq6 : Bool) (mq5 : Mem), Fr [79, 82] [(78, 0), (78, 6)] m0 mq5 → k18_6 zq6 mq5 = some (v, m') → Fr [79, 82] [(78, 0), (78, 6)] m0 m' := by
    intro zq6 mq5 hf hF
    rw [ek18_6] at hF
    obtain ⟨zq9, mq7, hz, hF⟩ := bnd_ex hF
    have hf := Fr_tr hf (fr_M_throwsIf zq6 (1 : Int32) mq5 _ _ hz) (by decide) (by decide)
    rcases if_ex hF with hF | hF
    · cases hF
      exact hf
    · obtain ⟨u_, mq10, hz, hF⟩ := bnd_ex hF
      have hf := Fr_tr hf (fr_M_remembers mq7 _ _ hz) (by decide) (by decide)
      obtain ⟨xq15, mq13, hz, hF⟩ := bnd_ex hF
      have hf := Fr_tr hf (fr_M_batter mq10 _ _ hz) (by decide) (by decide)
      obtain ⟨xq18, mq16, hz, hF⟩ := bnd_ex hF
      have hf := Fr_tr hf (fr_M_leadOf xq15 mq13 _ _ hz) (by decide) (by decide)
      obtain ⟨u_, mq19, hz, hF⟩ := bnd_ex hF
      have hf := Fr_tr hf (fr_M_nextInnings mq16 _ _ hz) (by decide) (by decide)
      cases hF
      exact hf
  rcases if_ex hF with hF | hF
  · exact Jk18_6 false mq2 hf hF
  · exact Jk18_6 true mq2 hf hF
set_option maxHeartbeats 4000000 in
theorem fr_M_noState (a1 : Int32) (a2 : Int32) (m0 : Mem) (v : Bool) (m' : Mem) (hF : F_M_noState a1 a2 m0 = some (v, m')) : Fr [] [] m0 m' := by
  unfold F_M_noState at hF
  have hf : Fr [] [] m0 m0 := Fr_rf
  obtain ⟨zq3, mq1, hz, hF⟩ := bnd_ex hF
  have hf := Fr_tr hf (fr_M_in a1 (-81 : Int32) (81 : Int32) m0 _ _ hz) (by decide) (by decide)
  rcases if_ex hF with hF | hF
  · obtain ⟨zq6, mq4, hz, hF⟩ := bnd_ex hF
    have hf := Fr_tr hf (fr_M_in a2 (0 : Int32) (9 : Int32) mq1 _ _ hz) (by decide) (by decide)
    rcases if_ex hF with hF | hF
    · cases hF
      exact hf
    · cases hF
      exact hf
  · cases hF
    exact hf
set_option maxHeartbeats 4000000 in
theorem fr_M_isChosen (a1 : Int32) (a2 : Int32) (a3 : Int32) (a4 : Int32) (m0 : Mem) (v : Bool) (m' : Mem) (hF : F_M_isChosen a1 a2 a3 a4 m0 = some (v, m')) : Fr [] [(78, 23), (78, 24)] m0 m' := by
  unfold F_M_isChosen at hF
  have hf : Fr [] [(78, 23), (78, 24)] m0 m0 := Fr_rf
  obtain ⟨u_, mq1, hz, hF⟩ := bnd_ex hF
  have hf := Fr_tr hf (fr_M_goesOn a1 a2 a3 a4 false m0 _ _ hz) (by decide) (by decide)
  obtain ⟨zq6, mq4, hz, hF⟩ := bnd_ex hF
  have hf := Fr_tr hf (fr_M_chooses a1 a2 a3 a4 mq1 _ _ hz) (by decide) (by decide)
  cases hF
  exact hf
set_option maxHeartbeats 4000000 in
theorem fr_M_noInnings (a0 : Int32) (m0 : Mem) (v : Bool) (m' : Mem) (hF : F_M_noInnings a0 m0 = some (v, m')) : Fr [] [] m0 m' := by
  unfold F_M_noInnings at hF
  have hf : Fr [] [] m0 m0 := Fr_rf
  obtain ⟨zq3, mq1, hz, hF⟩ := bnd_ex hF
  have hf := Fr_tr hf (fr_M_in a0 (0 : Int32) (3 : Int32) m0 _ _ hz) (by decide) (by decide)
  rcases if_ex hF with hF | hF
  · cases hF
    exact hf
  · cases hF
    exact hf
set_option maxHeartbeats 4000000 in
theorem fr_M_declares (a1 : Int32) (a2 : Int32) (a3 : Bool) (a4 : Int32) (a5 : Int32) (m0 : Mem) (v : Bool) (m' : Mem) (hF : F_M_declares a1 a2 a3 a4 a5 m0 = some (v, m')) : Fr [85, 86, 87, 88] [(78, 0), (78, 20), (78, 21), (78, 23), (78, 24)] m0 m' := by
  unfold F_M_declares at hF
  have hf : Fr [85, 86, 87, 88] [(78, 0), (78, 20), (78, 21), (78, 23), (78, 24)] m0 m0 := Fr_rf
  obtain ⟨mq1, emq1, hF⟩ := lt_ex hF
  have hf := Fr_sI emq1 hf (Or.inr (by decide))
  obtain ⟨zq4, mq2, hz, hF⟩ := bnd_ex hF
  have hf := Fr_tr hf (fr_M_noPlayed a1 mq1 _ _ hz) (by decide) (by decide)
  obtain ⟨k26_6, ek26_6, hF⟩ := lt_ex hF
  have Jk26_6 : ∀ (zq6 : Bool) (mq5 : Mem), Fr [85, 86, 87, 88] [(78, 0), (78, 20), (78, 21), (78, 23), (78, 24)] m0 mq5 → k26_6 zq6 mq5 = some (v, m') → Fr [85, 86, 87, 88] [(78, 0), (78, 20), (78, 21), (78, 23), (78, 24)] m0 m' := by
    intro zq6 mq5 hf hF
    rw [ek26_6] at hF
    obtain ⟨zq9, mq7, hz, hF⟩ := bnd_ex hF
    have hf := Fr_tr hf (fr_M_throwsIf zq6 (1 : Int32) mq5 _ _ hz) (by decide) (by decide)
    rcases if_ex hF with hF | hF
    · cases hF
      exact hf
    · obtain ⟨zq12, mq10, hz, hF⟩ := bnd_ex hF
      have hf := Fr_tr hf (fr_M_noState a4 a5 mq7 _ _ hz) (by decide) (by decide)
      obtain ⟨zq15, mq13, hz, hF⟩ := bnd_ex hF
      have hf := Fr_tr hf (fr_M_throwsIf zq12 (2 : Int32) mq10 _ _ hz) (by decide) (by decide)
      rcases if_ex hF with hF | hF
      · cases hF
        exact hf
      · rcases if_ex hF with hF | hF
        · cases hF
          exact hf
        · obtain ⟨xq18, mq16, hz, hF⟩ := bnd_ex hF
          have hf := Fr_tr hf (fr_M_size mq13 _ _ hz) (by decide) (by decide)
          rcases if_ex hF with hF | hF
          · cases hF
            exact hf
          · obtain ⟨u_, mq19, hz, hF⟩ := bnd_ex hF
            have hf := Fr_tr hf (fr_M_countsFrom a1 a4 mq16 _ _ hz) (by decide) (by decide)
            obtain ⟨xq24, mq22, hz, hF⟩ := bnd_ex hF
            have hf := Fr_tr hf (fr_M_kindOf a2 a3 mq19 _ _ hz) (by decide) (by decide)
            obtain ⟨zq27, mq25, hz, hF⟩ := bnd_ex hF
            have hf := Fr_tr hf (fr_M_isChosen a1 xq24 a5 a4 mq22 _ _ hz) (by decide) (by decide)
            cases hF
            exact hf
  obtain ⟨k21_28, ek21_28, hF⟩ := lt_ex hF
  have Jk21_28 : ∀ (mq28 : Mem), Fr [85, 86, 87, 88] [(78, 0), (78, 20), (78, 21), (78, 23), (78, 24)] m0 mq28 → k21_28 mq28 = some (v, m') → Fr [85, 86, 87, 88] [(78, 0), (78, 20), (78, 21), (78, 23), (78, 24)] m0 m' := by
    intro mq28 hf hF
    rw [ek21_28] at hF
    exact Jk26_6 true mq28 hf hF
  rcases if_ex hF with hF | hF
  · exact Jk21_28 mq2 hf hF
  · obtain ⟨zq31, mq29, hz, hF⟩ := bnd_ex hF
    have hf := Fr_tr hf (fr_M_noInnings a2 mq2 _ _ hz) (by decide) (by decide)
    rcases if_ex hF with hF | hF
    · exact Jk21_28 mq29 hf hF
    · exact Jk26_6 false mq29 hf hF
set_option maxHeartbeats 4000000 in
theorem fr_M_end (a1 : Int32) (m0 : Mem) (v : Bool) (m' : Mem) (hF : F_M_end a1 m0 = some (v, m')) : Fr [] [(78, 0), (78, 8)] m0 m' := by
  unfold F_M_end at hF
  have hf : Fr [] [(78, 0), (78, 8)] m0 m0 := Fr_rf
  obtain ⟨mq1, emq1, hF⟩ := lt_ex hF
  have hf := Fr_sI emq1 hf (Or.inr (by decide))
  rcases if_ex hF with hF | hF
  · cases hF
    exact hf
  · rcases if_ex hF with hF | hF
    · obtain ⟨mq2, emq2, hF⟩ := lt_ex hF
      have hf := Fr_sI emq2 hf (Or.inr (by decide))
      cases hF
      exact hf
    · cases hF
      exact hf
set_option maxHeartbeats 4000000 in
theorem fr_M_enforces (a1 : Int32) (a2 : Int32) (m0 : Mem) (v : Bool) (m' : Mem) (hF : F_M_enforces a1 a2 m0 = some (v, m')) : Fr [85, 86, 87, 88] [(78, 0), (78, 20), (78, 21), (78, 23), (78, 24)] m0 m' := by
  unfold F_M_enforces at hF
  have hf : Fr [85, 86, 87, 88] [(78, 0), (78, 20), (78, 21), (78, 23), (78, 24)] m0 m0 := Fr_rf
  obtain ⟨mq1, emq1, hF⟩ := lt_ex hF
  have hf := Fr_sI emq1 hf (Or.inr (by decide))
  obtain ⟨zq4, mq2, hz, hF⟩ := bnd_ex hF
  have hf := Fr_tr hf (fr_M_noPlayed a1 mq1 _ _ hz) (by decide) (by decide)
  obtain ⟨zq7, mq5, hz, hF⟩ := bnd_ex hF
  have hf := Fr_tr hf (fr_M_throwsIf zq4 (1 : Int32) mq2 _ _ hz) (by decide) (by decide)
  rcases if_ex hF with hF | hF
  · cases hF
    exact hf
  · obtain ⟨zq10, mq8, hz, hF⟩ := bnd_ex hF
    have hf := Fr_tr hf (fr_M_noState a2 (0 : Int32) mq5 _ _ hz) (by decide) (by decide)
    obtain ⟨zq13, mq11, hz, hF⟩ := bnd_ex hF
    have hf := Fr_tr hf (fr_M_throwsIf zq10 (2 : Int32) mq8 _ _ hz) (by decide) (by decide)
    rcases if_ex hF with hF | hF
    · cases hF
      exact hf
    · rcases if_ex hF with hF | hF
      · cases hF
        exact hf
      · obtain ⟨xq16, mq14, hz, hF⟩ := bnd_ex hF
        have hf := Fr_tr hf (fr_M_size mq11 _ _ hz) (by decide) (by decide)
        rcases if_ex hF with hF | hF
        · cases hF
          exact hf
        · obtain ⟨u_, mq17, hz, hF⟩ := bnd_ex hF
          have hf := Fr_tr hf (fr_M_countsFrom a1 a2 mq14 _ _ hz) (by decide) (by decide)
          obtain ⟨zq22, mq20, hz, hF⟩ := bnd_ex hF
          have hf := Fr_tr hf (fr_M_isChosen a1 (2 : Int32) (10 : Int32) a2 mq17 _ _ hz) (by decide) (by decide)
          cases hF
          exact hf
set_option maxHeartbeats 4000000 in
theorem fr_M_noSide (a0 : Int32) (m0 : Mem) (v : Bool) (m' : Mem) (hF : F_M_noSide a0 m0 = some (v, m')) : Fr [] [] m0 m' := by
  unfold F_M_noSide at hF
  have hf : Fr [] [] m0 m0 := Fr_rf
  obtain ⟨zq3, mq1, hz, hF⟩ := bnd_ex hF
  have hf := Fr_tr hf (fr_M_in a0 (0 : Int32) (1 : Int32) m0 _ _ hz) (by decide) (by decide)
  rcases if_ex hF with hF | hF
  · cases hF
    exact hf
  · cases hF
    exact hf
set_option maxHeartbeats 4000000 in
theorem fr_M_tossWorth (a1 : Int32) (a2 : Bool) (m0 : Mem) (v : Int64) (m' : Mem) (hF : F_M_tossWorth a1 a2 m0 = some (v, m')) : Fr [85, 86, 87, 88] [(78, 20), (78, 21), (78, 23), (78, 24)] m0 m' := by
  unfold F_M_tossWorth at hF
  have hf : Fr [85, 86, 87, 88] [(78, 20), (78, 21), (78, 23), (78, 24)] m0 m0 := Fr_rf
  obtain ⟨mq1, emq1, hF⟩ := lt_ex hF
  have hf := Fr_sI emq1 hf (Or.inr (by decide))
  obtain ⟨k22_3, ek22_3, hF⟩ := lt_ex hF
  have Jk22_3 : ∀ (xq3 : Int32) (mq2 : Mem), Fr [85, 86, 87, 88] [(78, 20), (78, 21), (78, 23), (78, 24)] m0 mq2 → k22_3 xq3 mq2 = some (v, m') → Fr [85, 86, 87, 88] [(78, 20), (78, 21), (78, 23), (78, 24)] m0 m' := by
    intro xq3 mq2 hf hF
    rw [ek22_3] at hF
    obtain ⟨u_, mq4, hz, hF⟩ := bnd_ex hF
    have hf := Fr_tr hf (fr_M_layers xq3 (0 : Int32) (0 : Int32) mq2 _ _ hz) (by decide) (by decide)
    obtain ⟨u_, mq7, hz, hF⟩ := bnd_ex hF
    have hf := Fr_tr hf (fr_M_takes (0 : Int32) (0 : Int32) (10 : Int32) (0 : Int32) mq4 _ _ hz) (by decide) (by decide)
    rcases if_ex hF with hF | hF
    · obtain ⟨yq15, mq13, hz, hF⟩ := bnd_ex hF
      have hf := Fr_tr hf (fr_M_got (0 : Int32) mq7 _ _ hz) (by decide) (by decide)
      cases hF
      exact hf
    · obtain ⟨yq12, mq10, hz, hF⟩ := bnd_ex hF
      have hf := Fr_tr hf (fr_M_worthOf (0 : Int32) (gI mq7 78 24) (gI mq7 78 23) mq7 _ _ hz) (by decide) (by decide)
      cases hF
      exact hf
  rcases if_ex hF with hF | hF
  · exact Jk22_3 a1 mq1 hf hF
  · exact Jk22_3 ((1 : Int32) - a1) mq1 hf hF
set_option maxHeartbeats 4000000 in
theorem fr_M_betterOf (a1 : Int32) (m0 : Mem) (v : Int64) (m' : Mem) (hF : F_M_betterOf a1 m0 = some (v, m')) : Fr [85, 86, 87, 88] [(78, 20), (78, 21), (78, 23), (78, 24)] m0 m' := by
  unfold F_M_betterOf at hF
  have hf : Fr [85, 86, 87, 88] [(78, 20), (78, 21), (78, 23), (78, 24)] m0 m0 := Fr_rf
  obtain ⟨yq3, mq1, hz, hF⟩ := bnd_ex hF
  have hf := Fr_tr hf (fr_M_tossWorth a1 true m0 _ _ hz) (by decide) (by decide)
  obtain ⟨yq6, mq4, hz, hF⟩ := bnd_ex hF
  have hf := Fr_tr hf (fr_M_tossWorth a1 false mq1 _ _ hz) (by decide) (by decide)
  cases hF
  exact hf
set_option maxHeartbeats 4000000 in
theorem fr_M_leftTo (a1 : Int32) (m0 : Mem) (v : Int64) (m' : Mem) (hF : F_M_leftTo a1 m0 = some (v, m')) : Fr [85, 86, 87, 88] [(78, 20), (78, 21), (78, 23), (78, 24)] m0 m' := by
  unfold F_M_leftTo at hF
  have hf : Fr [85, 86, 87, 88] [(78, 20), (78, 21), (78, 23), (78, 24)] m0 m0 := Fr_rf
  obtain ⟨yq3, mq1, hz, hF⟩ := bnd_ex hF
  have hf := Fr_tr hf (fr_M_tossWorth ((1 : Int32) - a1) true m0 _ _ hz) (by decide) (by decide)
  obtain ⟨yq6, mq4, hz, hF⟩ := bnd_ex hF
  have hf := Fr_tr hf (fr_M_tossWorth ((1 : Int32) - a1) false mq1 _ _ hz) (by decide) (by decide)
  obtain ⟨k27_8, ek27_8, hF⟩ := lt_ex hF
  have Jk27_8 : ∀ (zq8 : Bool) (mq7 : Mem), Fr [85, 86, 87, 88] [(78, 20), (78, 21), (78, 23), (78, 24)] m0 mq7 → k27_8 zq8 mq7 = some (v, m') → Fr [85, 86, 87, 88] [(78, 20), (78, 21), (78, 23), (78, 24)] m0 m' := by
    intro zq8 mq7 hf hF
    rw [ek27_8] at hF
    obtain ⟨yq11, mq9, hz, hF⟩ := bnd_ex hF
    have hf := Fr_tr hf (fr_M_tossWorth a1 zq8 mq7 _ _ hz) (by decide) (by decide)
    cases hF
    exact hf
  rcases if_ex hF with hF | hF
  · exact Jk27_8 false mq4 hf hF
  · exact Jk27_8 true mq4 hf hF
set_option maxHeartbeats 4000000 in
theorem fr_M_evens (a1 : Int32) (m0 : Mem) (v : Int64) (m' : Mem) (hF : F_M_evens a1 m0 = some (v, m')) : Fr [85, 86, 87, 88] [(78, 0), (78, 20), (78, 21), (78, 23), (78, 24)] m0 m' := by
  unfold F_M_evens at hF
  have hf : Fr [85, 86, 87, 88] [(78, 0), (78, 20), (78, 21), (78, 23), (78, 24)] m0 m0 := Fr_rf
  obtain ⟨mq1, emq1, hF⟩ := lt_ex hF
  have hf := Fr_sI emq1 hf (Or.inr (by decide))
  obtain ⟨zq4, mq2, hz, hF⟩ := bnd_ex hF
  have hf := Fr_tr hf (fr_M_noSide a1 mq1 _ _ hz) (by decide) (by decide)
  obtain ⟨zq7, mq5, hz, hF⟩ := bnd_ex hF
  have hf := Fr_tr hf (fr_M_throwsIf zq4 (1 : Int32) mq2 _ _ hz) (by decide) (by decide)
  rcases if_ex hF with hF | hF
  · cases hF
    exact hf
  · obtain ⟨yq10, mq8, hz, hF⟩ := bnd_ex hF
    have hf := Fr_tr hf (fr_M_betterOf a1 mq5 _ _ hz) (by decide) (by decide)
    obtain ⟨yq13, mq11, hz, hF⟩ := bnd_ex hF
    have hf := Fr_tr hf (fr_M_leftTo a1 mq8 _ _ hz) (by decide) (by decide)
    cases hF
    exact hf
set_option maxHeartbeats 4000000 in
theorem fr_M_fault (m0 : Mem) (v : Int32) (m' : Mem) (hF : F_M_fault m0 = some (v, m')) : Fr [] [(78, 0)] m0 m' := by
  unfold F_M_fault at hF
  have hf : Fr [] [(78, 0)] m0 m0 := Fr_rf
  obtain ⟨mq1, emq1, hF⟩ := lt_ex hF
  have hf := Fr_sI emq1 hf (Or.inr (by decide))
  cases hF
  exact hf
set_option maxHeartbeats 4000000 in
theorem fr_M_feed_L60 (k106_7 : Mem → Option (Int32 × Mem)) (mB : Mem) (v : Int32) (m' : Mem) (Jk106_7 : ∀ (b0 : Mem), Fr [83, 84] [(78, 0), (78, 8)] mB b0 → k106_7 b0 = some (v, m') → Fr [83, 84] [(78, 0), (78, 8)] mB m') : ∀ (nf : Nat) (xq10 : Int32) (mq9 : Mem), Fr [83, 84] [(78, 0), (78, 8)] mB mq9 → F_M_feed_L60 k106_7 nf xq10 mq9 = some (v, m') → Fr [83, 84] [(78, 0), (78, 8)] mB m' := by
  intro nf
  induction nf with
  | zero =>
    intro xq10 mq9 hf hF
    rw [F_M_feed_L60] at hF
    cases hF
  | succ nfq11 ih =>
    intro xq10 mq9 hf hF
    rw [F_M_feed_L60] at hF
    rcases if_ex hF with hF | hF
    · exact Jk106_7 mq9 hf hF
    · obtain ⟨-, hF⟩ := ckB_ex hF
      obtain ⟨xq14, exq14, hF⟩ := lt_ex hF
      obtain ⟨xq15, exq15, hF⟩ := lt_ex hF
      obtain ⟨-, hF⟩ := ckB_ex hF
      obtain ⟨mq16, emq16, hF⟩ := lt_ex hF
      have hf := Fr_sI emq16 hf (Or.inl (by decide))
      obtain ⟨xq18, exq18, hF⟩ := lt_ex hF
      exact ih xq18 mq16 hf hF
set_option maxHeartbeats 4000000 in
theorem fr_M_feed (a1 : Int32) (a2 : Int32) (a3 : Int32) (a4 : Int32) (a5 : Int32) (m0 : Mem) (v : Int32) (m' : Mem) (hF : F_M_feed a1 a2 a3 a4 a5 m0 = some (v, m')) : Fr [83, 84] [(78, 0), (78, 8)] m0 m' := by
  unfold F_M_feed at hF
  have hf : Fr [83, 84] [(78, 0), (78, 8)] m0 m0 := Fr_rf
  obtain ⟨mq1, emq1, hF⟩ := lt_ex hF
  have hf := Fr_sI emq1 hf (Or.inr (by decide))
  rcases if_ex hF with hF | hF
  · obtain ⟨mq2, emq2, hF⟩ := lt_ex hF
    have hf := Fr_sI emq2 hf (Or.inl (by decide))
    obtain ⟨mq3, emq3, hF⟩ := lt_ex hF
    have hf := Fr_sI emq3 hf (Or.inl (by decide))
    obtain ⟨mq4, emq4, hF⟩ := lt_ex hF
    have hf := Fr_sI emq4 hf (Or.inl (by decide))
    obtain ⟨mq5, emq5, hF⟩ := lt_ex hF
    have hf := Fr_sI emq5 hf (Or.inl (by decide))
    obtain ⟨mq6, emq6, hF⟩ := lt_ex hF
    have hf := Fr_sI emq6 hf (Or.inl (by decide))
    obtain ⟨k106_7, ek106_7, hF⟩ := lt_ex hF
    have Jk106_7 : ∀ (mq7 : Mem), Fr [83, 84] [(78, 0), (78, 8)] m0 mq7 → k106_7 mq7 = some (v, m') → Fr [83, 84] [(78, 0), (78, 8)] m0 m' := by
      intro mq7 hf hF
      rw [ek106_7] at hF
      obtain ⟨mq8, emq8, hF⟩ := lt_ex hF
      have hf := Fr_sI emq8 hf (Or.inr (by decide))
      cases hF
      exact hf
    exact fr_M_feed_L60 k106_7 m0 _ _ Jk106_7 1000000 (0 : Int32) mq6 hf hF
  · cases hF
    exact hf
set_option maxHeartbeats 4000000 in
theorem fr_M_follow (m0 : Mem) (v : Int32) (m' : Mem) (hF : F_M_follow m0 = some (v, m')) : Fr [79, 82] [(78, 0), (78, 6)] m0 m' := by
  unfold F_M_follow at hF
  have hf : Fr [79, 82] [(78, 0), (78, 6)] m0 m0 := Fr_rf
  obtain ⟨mq1, emq1, hF⟩ := lt_ex hF
  have hf := Fr_sI emq1 hf (Or.inr (by decide))
  obtain ⟨zq4, mq2, hz, hF⟩ := bnd_ex hF
  have hf := Fr_tr hf (fr_M_canFollow mq1 _ _ hz) (by decide) (by decide)
  obtain ⟨k18_6, ek18_6, hF⟩ := lt_ex hF
  have Jk18_6 : ∀ (zq6 : Bool) (mq5 : Mem), Fr [79, 82] [(78, 0), (78, 6)] m0 mq5 → k18_6 zq6 mq5 = some (v, m') → Fr [79, 82] [(78, 0), (78, 6)] m0 m' := by
    intro zq6 mq5 hf hF
    rw [ek18_6] at hF
    obtain ⟨zq9, mq7, hz, hF⟩ := bnd_ex hF
    have hf := Fr_tr hf (fr_M_throwsIf zq6 (1 : Int32) mq5 _ _ hz) (by decide) (by decide)
    rcases if_ex hF with hF | hF
    · cases hF
      exact hf
    · obtain ⟨u_, mq10, hz, hF⟩ := bnd_ex hF
      have hf := Fr_tr hf (fr_M_remembers mq7 _ _ hz) (by decide) (by decide)
      obtain ⟨mq13, emq13, hF⟩ := lt_ex hF
      have hf := Fr_sI emq13 hf (Or.inl (by decide))
      obtain ⟨xq16, mq14, hz, hF⟩ := bnd_ex hF
      have hf := Fr_tr hf (fr_M_firstSide mq13 _ _ hz) (by decide) (by decide)
      obtain ⟨xq19, mq17, hz, hF⟩ := bnd_ex hF
      have hf := Fr_tr hf (fr_M_leadOf xq16 mq14 _ _ hz) (by decide) (by decide)
      cases hF
      exact hf
  rcases if_ex hF with hF | hF
  · exact Jk18_6 false mq2 hf hF
  · exact Jk18_6 true mq2 hf hF
set_option maxHeartbeats 4000000 in
theorem fr_M_ofLog (a1 : Int32) (a2 : Int32) (m0 : Mem) (v : Int32) (m' : Mem) (hF : F_M_ofLog a1 a2 m0 = some (v, m')) : Fr [] [] m0 m' := by
  unfold F_M_ofLog at hF
  have hf : Fr [] [] m0 m0 := Fr_rf
  obtain ⟨-, hF⟩ := ckB_ex hF
  obtain ⟨xq2, exq2, hF⟩ := lt_ex hF
  cases hF
  exact hf
set_option maxHeartbeats 4000000 in
theorem fr_M_form_L46 (a1 : Int32) (a2 : Int32) (mB : Mem) (v : Int32) (m' : Mem) : ∀ (nf : Nat) (xq17 : Int32) (xq18 : Int32) (mq16 : Mem), Fr [] [(78, 0)] mB mq16 → F_M_form_L46 a1 a2 nf xq17 xq18 mq16 = some (v, m') → Fr [] [(78, 0)] mB m' := by
  intro nf
  induction nf with
  | zero =>
    intro xq17 xq18 mq16 hf hF
    rw [F_M_form_L46] at hF
    cases hF
  | succ nfq19 ih =>
    intro xq17 xq18 mq16 hf hF
    rw [F_M_form_L46] at hF
    obtain ⟨xq23, mq21, hz, hF⟩ := bnd_ex hF
    have hf := Fr_tr hf (fr_M_played mq16 _ _ hz) (by decide) (by decide)
    rcases if_ex hF with hF | hF
    · cases hF
      exact hf
    · obtain ⟨k87_25, ek87_25, hF⟩ := lt_ex hF
      have Jk87_25 : ∀ (xq25 : Int32) (mq24 : Mem), Fr [] [(78, 0)] mB mq24 → k87_25 xq25 mq24 = some (v, m') → Fr [] [(78, 0)] mB m' := by
        intro xq25 mq24 hf hF
        rw [ek87_25] at hF
        obtain ⟨xq26, exq26, hF⟩ := lt_ex hF
        obtain ⟨xq27, exq27, hF⟩ := lt_ex hF
        exact ih xq26 xq27 mq24 hf hF
      obtain ⟨k86_28, ek86_28, hF⟩ := lt_ex hF
      have Jk86_28 : ∀ (mq28 : Mem), Fr [] [(78, 0)] mB mq28 → k86_28 mq28 = some (v, m') → Fr [] [(78, 0)] mB m' := by
        intro mq28 hf hF
        rw [ek86_28] at hF
        exact Jk87_25 (0 : Int32) mq28 hf hF
      rcases if_ex hF with hF | hF
      · obtain ⟨xq31, mq29, hz, hF⟩ := bnd_ex hF
        have hf := Fr_tr hf (fr_M_ofLog xq18 (1 : Int32) mq21 _ _ hz) (by decide) (by decide)
        rcases if_ex hF with hF | hF
        · obtain ⟨xq34, mq32, hz, hF⟩ := bnd_ex hF
          have hf := Fr_tr hf (fr_M_ofLog xq18 (6 : Int32) mq29 _ _ hz) (by decide) (by decide)
          exact Jk87_25 xq34 mq32 hf hF
        · exact Jk86_28 mq29 hf hF
      · exact Jk86_28 mq21 hf hF
set_option maxHeartbeats 4000000 in
theorem fr_M_form (a1 : Int32) (a2 : Int32) (m0 : Mem) (v : Int32) (m' : Mem) (hF : F_M_form a1 a2 m0 = some (v, m')) : Fr [] [(78, 0)] m0 m' := by
  unfold F_M_form at hF
  have hf : Fr [] [(78, 0)] m0 m0 := Fr_rf
  obtain ⟨mq1, emq1, hF⟩ := lt_ex hF
  have hf := Fr_sI emq1 hf (Or.inr (by decide))
  obtain ⟨zq4, mq2, hz, hF⟩ := bnd_ex hF
  have hf := Fr_tr hf (fr_M_noSide a1 mq1 _ _ hz) (by decide) (by decide)
  obtain ⟨zq7, mq5, hz, hF⟩ := bnd_ex hF
  have hf := Fr_tr hf (fr_M_throwsIf zq4 (1 : Int32) mq2 _ _ hz) (by decide) (by decide)
  rcases if_ex hF with hF | hF
  · cases hF
    exact hf
  · obtain ⟨zq10, mq8, hz, hF⟩ := bnd_ex hF
    have hf := Fr_tr hf (fr_M_in a2 (0 : Int32) (2 : Int32) mq5 _ _ hz) (by decide) (by decide)
    obtain ⟨k32_12, ek32_12, hF⟩ := lt_ex hF
    have Jk32_12 : ∀ (zq12 : Bool) (mq11 : Mem), Fr [] [(78, 0)] m0 mq11 → k32_12 zq12 mq11 = some (v, m') → Fr [] [(78, 0)] m0 m' := by
      intro zq12 mq11 hf hF
      rw [ek32_12] at hF
      obtain ⟨zq15, mq13, hz, hF⟩ := bnd_ex hF
      have hf := Fr_tr hf (fr_M_throwsIf zq12 (2 : Int32) mq11 _ _ hz) (by decide) (by decide)
      rcases if_ex hF with hF | hF
      · cases hF
        exact hf
      · exact fr_M_form_L46 a1 a2 m0 _ _  1000000 (0 : Int32) (0 : Int32) mq13 hf hF
    rcases if_ex hF with hF | hF
    · exact Jk32_12 false mq8 hf hF
    · exact Jk32_12 true mq8 hf hF
set_option maxHeartbeats 4000000 in
theorem fr_M_isAt (a1 : Int32) (a2 : Int32) (m0 : Mem) (v : Bool) (m' : Mem) (hF : F_M_isAt a1 a2 m0 = some (v, m')) : Fr [] [] m0 m' := by
  unfold F_M_isAt at hF
  have hf : Fr [] [] m0 m0 := Fr_rf
  rcases if_ex hF with hF | hF
  · cases hF
    exact hf
  · obtain ⟨-, hF⟩ := ckB_ex hF
    obtain ⟨xq2, exq2, hF⟩ := lt_ex hF
    rcases if_ex hF with hF | hF
    · cases hF
      exact hf
    · obtain ⟨-, hF⟩ := ckB_ex hF
      obtain ⟨xq4, exq4, hF⟩ := lt_ex hF
      rcases if_ex hF with hF | hF
      · cases hF
        exact hf
      · cases hF
        exact hf
set_option maxHeartbeats 4000000 in
theorem fr_M_blanks_L0 (k24_1 : Mem → Option (Unit × Mem)) (mB : Mem) (v : Unit) (m' : Mem) (Jk24_1 : ∀ (b0 : Mem), Fr [] [(78, 9), (78, 11)] mB b0 → k24_1 b0 = some (v, m') → Fr [] [(78, 9), (78, 11)] mB m') : ∀ (nf : Nat) (mq3 : Mem), Fr [] [(78, 9), (78, 11)] mB mq3 → F_M_blanks_L0 k24_1 nf mq3 = some (v, m') → Fr [] [(78, 9), (78, 11)] mB m' := by
  intro nf
  induction nf with
  | zero =>
    intro mq3 hf hF
    rw [F_M_blanks_L0] at hF
    cases hF
  | succ nfq4 ih =>
    intro mq3 hf hF
    rw [F_M_blanks_L0] at hF
    obtain ⟨zq8, mq6, hz, hF⟩ := bnd_ex hF
    have hf := Fr_tr hf (fr_M_isAt (32 : Int32) (32 : Int32) mq3 _ _ hz) (by decide) (by decide)
    rcases if_ex hF with hF | hF
    · obtain ⟨mq9, emq9, hF⟩ := lt_ex hF
      have hf := Fr_sI emq9 hf (Or.inr (by decide))
      exact ih mq9 hf hF
    · exact Jk24_1 mq6 hf hF
set_option maxHeartbeats 4000000 in
theorem fr_M_blanks (m0 : Mem) (v : Unit) (m' : Mem) (hF : F_M_blanks m0 = some (v, m')) : Fr [] [(78, 9), (78, 11)] m0 m' := by
  unfold F_M_blanks at hF
  have hf : Fr [] [(78, 9), (78, 11)] m0 m0 := Fr_rf
  obtain ⟨k24_1, ek24_1, hF⟩ := lt_ex hF
  have Jk24_1 : ∀ (mq1 : Mem), Fr [] [(78, 9), (78, 11)] m0 mq1 → k24_1 mq1 = some (v, m') → Fr [] [(78, 9), (78, 11)] m0 m' := by
    intro mq1 hf hF
    rw [ek24_1] at hF
    obtain ⟨mq2, emq2, hF⟩ := lt_ex hF
    have hf := Fr_sI emq2 hf (Or.inr (by decide))
    cases hF
    exact hf
  exact fr_M_blanks_L0 k24_1 m0 _ _ Jk24_1 1000000 m0 hf hF
set_option maxHeartbeats 4000000 in
theorem fr_M_letters_L4  (mB : Mem) (v : Unit) (m' : Mem) : ∀ (nf : Nat) (mq4 : Mem), Fr [] [(78, 9), (78, 11)] mB mq4 → F_M_letters_L4  nf mq4 = some (v, m') → Fr [] [(78, 9), (78, 11)] mB m' := by
  intro nf
  induction nf with
  | zero =>
    intro mq4 hf hF
    rw [F_M_letters_L4] at hF
    cases hF
  | succ nfq5 ih =>
    intro mq4 hf hF
    rw [F_M_letters_L4] at hF
    obtain ⟨zq9, mq7, hz, hF⟩ := bnd_ex hF
    have hf := Fr_tr hf (fr_M_isAt (97 : Int32) (122 : Int32) mq4 _ _ hz) (by decide) (by decide)
    rcases if_ex hF with hF | hF
    · obtain ⟨mq10, emq10, hF⟩ := lt_ex hF
      have hf := Fr_sI emq10 hf (Or.inr (by decide))
      exact ih mq10 hf hF
    · cases hF
      exact hf
set_option maxHeartbeats 4000000 in
theorem fr_M_letters (m0 : Mem) (v : Unit) (m' : Mem) (hF : F_M_letters m0 = some (v, m')) : Fr [] [(78, 9), (78, 11)] m0 m' := by
  unfold F_M_letters at hF
  have hf : Fr [] [(78, 9), (78, 11)] m0 m0 := Fr_rf
  obtain ⟨u_, mq1, hz, hF⟩ := bnd_ex hF
  have hf := Fr_tr hf (fr_M_blanks m0 _ _ hz) (by decide) (by decide)
  exact fr_M_letters_L4  m0 _ _  1000000 mq1 hf hF
set_option maxHeartbeats 4000000 in
theorem fr_M_isWord_L24 (tx1 : String) (mB : Mem) (v : Bool) (m' : Mem) : ∀ (nf : Nat) (zq4 : Bool) (xq5 : Int32) (mq3 : Mem), Fr [] [] mB mq3 → F_M_isWord_L24 tx1 nf zq4 xq5 mq3 = some (v, m') → Fr [] [] mB m' := by
  intro nf
  induction nf with
  | zero =>
    intro zq4 xq5 mq3 hf hF
    rw [F_M_isWord_L24] at hF
    cases hF
  | succ nfq6 ih =>
    intro zq4 xq5 mq3 hf hF
    rw [F_M_isWord_L24] at hF
    rcases if_ex hF with hF | hF
    · rcases if_ex hF with hF | hF
      · cases hF
        exact hf
      · obtain ⟨-, hF⟩ := ckB_ex hF
        obtain ⟨xq9, exq9, hF⟩ := lt_ex hF
        obtain ⟨-, hF⟩ := ckB_ex hF
        obtain ⟨k60_12, ek60_12, hF⟩ := lt_ex hF
        have Jk60_12 : ∀ (zq12 : Bool) (mq11 : Mem), Fr [] [] mB mq11 → k60_12 zq12 mq11 = some (v, m') → Fr [] [] mB m' := by
          intro zq12 mq11 hf hF
          rw [ek60_12] at hF
          obtain ⟨xq13, exq13, hF⟩ := lt_ex hF
          exact ih zq12 xq13 mq11 hf hF
        rcases if_ex hF with hF | hF
        · exact Jk60_12 true mq3 hf hF
        · exact Jk60_12 false mq3 hf hF
    · cases hF
      exact hf
set_option maxHeartbeats 4000000 in
theorem fr_M_isWord (tx1 : String) (m0 : Mem) (v : Bool) (m' : Mem) (hF : F_M_isWord tx1 m0 = some (v, m')) : Fr [] [] m0 m' := by
  unfold F_M_isWord at hF
  have hf : Fr [] [] m0 m0 := Fr_rf
  obtain ⟨k21_2, ek21_2, hF⟩ := lt_ex hF
  have Jk21_2 : ∀ (zq2 : Bool) (mq1 : Mem), Fr [] [] m0 mq1 → k21_2 zq2 mq1 = some (v, m') → Fr [] [] m0 m' := by
    intro zq2 mq1 hf hF
    rw [ek21_2] at hF
    exact fr_M_isWord_L24 tx1 m0 _ _  1000000 zq2 (0 : Int32) mq1 hf hF
  rcases if_ex hF with hF | hF
  · exact Jk21_2 true m0 hf hF
  · exact Jk21_2 false m0 hf hF
set_option maxHeartbeats 4000000 in
theorem fr_M_number_L6 (k65_5 : Int32 → Mem → Option (Int32 × Mem)) (mB : Mem) (v : Int32) (m' : Mem) (Jk65_5 : ∀ (b0 : Int32) (b1 : Mem), Fr [] [(78, 9), (78, 11)] mB b1 → k65_5 b0 b1 = some (v, m') → Fr [] [(78, 9), (78, 11)] mB m') : ∀ (nf : Nat) (xq7 : Int32) (mq6 : Mem), Fr [] [(78, 9), (78, 11)] mB mq6 → F_M_number_L6 k65_5 nf xq7 mq6 = some (v, m') → Fr [] [(78, 9), (78, 11)] mB m' := by
  intro nf
  induction nf with
  | zero =>
    intro xq7 mq6 hf hF
    rw [F_M_number_L6] at hF
    cases hF
  | succ nfq8 ih =>
    intro xq7 mq6 hf hF
    rw [F_M_number_L6] at hF
    obtain ⟨zq12, mq10, hz, hF⟩ := bnd_ex hF
    have hf := Fr_tr hf (fr_M_isAt (48 : Int32) (57 : Int32) mq6 _ _ hz) (by decide) (by decide)
    rcases if_ex hF with hF | hF
    · obtain ⟨k51_14, ek51_14, hF⟩ := lt_ex hF
      have Jk51_14 : ∀ (xq14 : Int32) (mq13 : Mem), Fr [] [(78, 9), (78, 11)] mB mq13 → k51_14 xq14 mq13 = some (v, m') → Fr [] [(78, 9), (78, 11)] mB m' := by
        intro xq14 mq13 hf hF
        rw [ek51_14] at hF
        obtain ⟨mq15, emq15, hF⟩ := lt_ex hF
        have hf := Fr_sI emq15 hf (Or.inr (by decide))
        exact ih xq14 mq15 hf hF
      rcases if_ex hF with hF | hF
      · exact Jk51_14 xq7 mq10 hf hF
      · obtain ⟨-, hF⟩ := ckB_ex hF
        obtain ⟨xq17, exq17, hF⟩ := lt_ex hF
        exact Jk51_14 ((((10 : Int32) * xq7) + xq17) - (48 : Int32)) mq10 hf hF
    · exact Jk65_5 xq7 mq10 hf hF
set_option maxHeartbeats 4000000 in
theorem fr_M_number (a1 : Int32) (a2 : Int32) (m0 : Mem) (v : Int32) (m' : Mem) (hF : F_M_number a1 a2 m0 = some (v, m')) : Fr [] [(78, 9), (78, 11)] m0 m' := by
  unfold F_M_number at hF
  have hf : Fr [] [(78, 9), (78, 11)] m0 m0 := Fr_rf
  obtain ⟨u_, mq1, hz, hF⟩ := bnd_ex hF
  have hf := Fr_tr hf (fr_M_blanks m0 _ _ hz) (by decide) (by decide)
  obtain ⟨k65_5, ek65_5, hF⟩ := lt_ex hF
  have Jk65_5 : ∀ (xq5 : Int32) (mq4 : Mem), Fr [] [(78, 9), (78, 11)] m0 mq4 → k65_5 xq5 mq4 = some (v, m') → Fr [] [(78, 9), (78, 11)] m0 m' := by
    intro xq5 mq4 hf hF
    rw [ek65_5] at hF
    rcases if_ex hF with hF | hF
    · cases hF
      exact hf
    · rcases if_ex hF with hF | hF
      · cases hF
        exact hf
      · rcases if_ex hF with hF | hF
        · cases hF
          exact hf
        · rcases if_ex hF with hF | hF
          · cases hF
            exact hf
          · cases hF
            exact hf
  exact fr_M_number_L6 k65_5 m0 _ _ Jk65_5 1000000 (0 : Int32) mq1 hf hF
set_option maxHeartbeats 4000000 in
theorem fr_M_passes (tx1 : String) (m0 : Mem) (v : Bool) (m' : Mem) (hF : F_M_passes tx1 m0 = some (v, m')) : Fr [] [(78, 9), (78, 11)] m0 m' := by
  unfold F_M_passes at hF
  have hf : Fr [] [(78, 9), (78, 11)] m0 m0 := Fr_rf
  obtain ⟨u_, mq1, hz, hF⟩ := bnd_ex hF
  have hf := Fr_tr hf (fr_M_letters m0 _ _ hz) (by decide) (by decide)
  obtain ⟨zq6, mq4, hz, hF⟩ := bnd_ex hF
  have hf := Fr_tr hf (fr_M_isWord tx1 mq1 _ _ hz) (by decide) (by decide)
  rcases if_ex hF with hF | hF
  · cases hF
    exact hf
  · obtain ⟨mq7, emq7, hF⟩ := lt_ex hF
    have hf := Fr_sI emq7 hf (Or.inr (by decide))
    cases hF
    exact hf
set_option maxHeartbeats 4000000 in
theorem fr_M_emits (a1 : Int32) (a2 : Int32) (m0 : Mem) (v : Unit) (m' : Mem) (hF : F_M_emits a1 a2 m0 = some (v, m')) : Fr [79] [(78, 15)] m0 m' := by
  unfold F_M_emits at hF
  have hf : Fr [79] [(78, 15)] m0 m0 := Fr_rf
  obtain ⟨-, hF⟩ := ckB_ex hF
  obtain ⟨mq1, emq1, hF⟩ := lt_ex hF
  have hf := Fr_sI emq1 hf (Or.inl (by decide))
  obtain ⟨xq3, exq3, hF⟩ := lt_ex hF
  obtain ⟨-, hF⟩ := ckB_ex hF
  obtain ⟨mq4, emq4, hF⟩ := lt_ex hF
  have hf := Fr_sI emq4 hf (Or.inl (by decide))
  obtain ⟨mq6, emq6, hF⟩ := lt_ex hF
  have hf := Fr_sI emq6 hf (Or.inr (by decide))
  cases hF
  exact hf
set_option maxHeartbeats 4000000 in
theorem fr_M_readAllOf_L9 (rc : Mem → Option (Bool × Mem)) (mB : Mem) (v : Bool) (m' : Mem) (hrc : ∀  (m : Mem) (v : Bool) (m' : Mem), rc  m = some (v, m') → Fr [79] [(78, 9), (78, 11), (78, 12), (78, 15)] m m') : ∀ (nf : Nat) (mq4 : Mem), Fr [79] [(78, 9), (78, 11), (78, 12), (78, 15)] mB mq4 → F_M_readAllOf_L9 rc nf mq4 = some (v, m') → Fr [79] [(78, 9), (78, 11), (78, 12), (78, 15)] mB m' := by
  intro nf
  induction nf with
  | zero =>
    intro mq4 hf hF
    rw [F_M_readAllOf_L9] at hF
    cases hF
  | succ nfq5 ih =>
    intro mq4 hf hF
    rw [F_M_readAllOf_L9] at hF
    obtain ⟨zq9, mq7, hz, hF⟩ := bnd_ex hF
    have hf := Fr_tr hf (fr_M_passes ("and") mq4 _ _ hz) (by decide) (by decide)
    rcases if_ex hF with hF | hF
    · obtain ⟨zq12, mq10, hz, hF⟩ := bnd_ex hF
      have hf := Fr_tr hf (hrc mq7 _ _ hz) (by decide) (by decide)
      rcases if_ex hF with hF | hF
      · obtain ⟨u_, mq13, hz, hF⟩ := bnd_ex hF
        have hf := Fr_tr hf (fr_M_emits (13 : Int32) (0 : Int32) mq10 _ _ hz) (by decide) (by decide)
        exact ih mq13 hf hF
      · cases hF
        exact hf
    · cases hF
      exact hf
set_option maxHeartbeats 4000000 in
theorem fr_M_readAllOf (rc : Mem → Option (Bool × Mem)) (hrc : ∀  (m : Mem) (v : Bool) (m' : Mem), rc  m = some (v, m') → Fr [79] [(78, 9), (78, 11), (78, 12), (78, 15)] m m') (m0 : Mem) (v : Bool) (m' : Mem) (hF : F_M_readAllOf rc m0 = some (v, m')) : Fr [79] [(78, 9), (78, 11), (78, 12), (78, 15)] m0 m' := by
  unfold F_M_readAllOf at hF
  have hf : Fr [79] [(78, 9), (78, 11), (78, 12), (78, 15)] m0 m0 := Fr_rf
  obtain ⟨zq3, mq1, hz, hF⟩ := bnd_ex hF
  have hf := Fr_tr hf (hrc m0 _ _ hz) (by decide) (by decide)
  rcases if_ex hF with hF | hF
  · exact fr_M_readAllOf_L9 rc m0 _ _ hrc  1000000 mq1 hf hF
  · cases hF
    exact hf
set_option maxHeartbeats 4000000 in
theorem fr_M_readCond_L9 (rc : Mem → Option (Bool × Mem)) (mB : Mem) (v : Bool) (m' : Mem) (hrc : ∀  (m : Mem) (v : Bool) (m' : Mem), rc  m = some (v, m') → Fr [79] [(78, 9), (78, 11), (78, 12), (78, 15)] m m') : ∀ (nf : Nat) (mq4 : Mem), Fr [79] [(78, 9), (78, 11), (78, 12), (78, 15)] mB mq4 → F_M_readCond_L9 rc nf mq4 = some (v, m') → Fr [79] [(78, 9), (78, 11), (78, 12), (78, 15)] mB m' := by
  intro nf
  induction nf with
  | zero =>
    intro mq4 hf hF
    rw [F_M_readCond_L9] at hF
    cases hF
  | succ nfq5 ih =>
    intro mq4 hf hF
    rw [F_M_readCond_L9] at hF
    obtain ⟨zq9, mq7, hz, hF⟩ := bnd_ex hF
    have hf := Fr_tr hf (fr_M_passes ("or") mq4 _ _ hz) (by decide) (by decide)
    rcases if_ex hF with hF | hF
    · obtain ⟨zq12, mq10, hz, hF⟩ := bnd_ex hF
      have hf := Fr_tr hf (fr_M_readAllOf rc hrc mq7 _ _ hz) (by decide) (by decide)
      rcases if_ex hF with hF | hF
      · obtain ⟨u_, mq13, hz, hF⟩ := bnd_ex hF
        have hf := Fr_tr hf (fr_M_emits (14 : Int32) (0 : Int32) mq10 _ _ hz) (by decide) (by decide)
        exact ih mq13 hf hF
      · cases hF
        exact hf
    · cases hF
      exact hf
set_option maxHeartbeats 4000000 in
theorem fr_M_readCond (rc : Mem → Option (Bool × Mem)) (hrc : ∀  (m : Mem) (v : Bool) (m' : Mem), rc  m = some (v, m') → Fr [79] [(78, 9), (78, 11), (78, 12), (78, 15)] m m') (m0 : Mem) (v : Bool) (m' : Mem) (hF : F_M_readCond rc m0 = some (v, m')) : Fr [79] [(78, 9), (78, 11), (78, 12), (78, 15)] m0 m' := by
  unfold F_M_readCond at hF
  have hf : Fr [79] [(78, 9), (78, 11), (78, 12), (78, 15)] m0 m0 := Fr_rf
  obtain ⟨zq3, mq1, hz, hF⟩ := bnd_ex hF
  have hf := Fr_tr hf (fr_M_readAllOf rc hrc m0 _ _ hz) (by decide) (by decide)
  rcases if_ex hF with hF | hF
  · exact fr_M_readCond_L9 rc m0 _ _ hrc  1000000 mq1 hf hF
  · cases hF
    exact hf
set_option maxHeartbeats 4000000 in
theorem fr_M_sign (a1 : Int32) (m0 : Mem) (v : Bool) (m' : Mem) (hF : F_M_sign a1 m0 = some (v, m')) : Fr [] [(78, 9), (78, 11)] m0 m' := by
  unfold F_M_sign at hF
  have hf : Fr [] [(78, 9), (78, 11)] m0 m0 := Fr_rf
  obtain ⟨u_, mq1, hz, hF⟩ := bnd_ex hF
  have hf := Fr_tr hf (fr_M_blanks m0 _ _ hz) (by decide) (by decide)
  obtain ⟨zq6, mq4, hz, hF⟩ := bnd_ex hF
  have hf := Fr_tr hf (fr_M_isAt a1 a1 mq1 _ _ hz) (by decide) (by decide)
  rcases if_ex hF with hF | hF
  · obtain ⟨mq7, emq7, hF⟩ := lt_ex hF
    have hf := Fr_sI emq7 hf (Or.inr (by decide))
    cases hF
    exact hf
  · cases hF
    exact hf
set_option maxHeartbeats 4000000 in
theorem fr_M_readPart (m0 : Mem) (v : Bool) (m' : Mem) (hF : F_M_readPart m0 = some (v, m')) : Fr [79] [(78, 9), (78, 11), (78, 15)] m0 m' := by
  unfold F_M_readPart at hF
  have hf : Fr [79] [(78, 9), (78, 11), (78, 15)] m0 m0 := Fr_rf
  obtain ⟨u_, mq1, hz, hF⟩ := bnd_ex hF
  have hf := Fr_tr hf (fr_M_letters m0 _ _ hz) (by decide) (by decide)
  obtain ⟨k120_5, ek120_5, hF⟩ := lt_ex hF
  have Jk120_5 : ∀ (xq5 : Int32) (mq4 : Mem), Fr [79] [(78, 9), (78, 11), (78, 15)] m0 mq4 → k120_5 xq5 mq4 = some (v, m') → Fr [79] [(78, 9), (78, 11), (78, 15)] m0 m' := by
    intro xq5 mq4 hf hF
    rw [ek120_5] at hF
    rcases if_ex hF with hF | hF
    · cases hF
      exact hf
    · cases hF
      exact hf
  rcases if_ex hF with hF | hF
  · obtain ⟨xq31, mq29, hz, hF⟩ := bnd_ex hF
    have hf := Fr_tr hf (fr_M_number (0 : Int32) (999 : Int32) mq1 _ _ hz) (by decide) (by decide)
    obtain ⟨u_, mq32, hz, hF⟩ := bnd_ex hF
    have hf := Fr_tr hf (fr_M_emits (8 : Int32) xq31 mq29 _ _ hz) (by decide) (by decide)
    exact Jk120_5 xq31 mq32 hf hF
  · obtain ⟨zq8, mq6, hz, hF⟩ := bnd_ex hF
    have hf := Fr_tr hf (fr_M_isWord ("session") mq1 _ _ hz) (by decide) (by decide)
    obtain ⟨k113_10, ek113_10, hF⟩ := lt_ex hF
    have Jk113_10 : ∀ (xq10 : Int32) (mq9 : Mem), Fr [79] [(78, 9), (78, 11), (78, 15)] m0 mq9 → k113_10 xq10 mq9 = some (v, m') → Fr [79] [(78, 9), (78, 11), (78, 15)] m0 m' := by
      intro xq10 mq9 hf hF
      rw [ek113_10] at hF
      obtain ⟨u_, mq11, hz, hF⟩ := bnd_ex hF
      have hf := Fr_tr hf (fr_M_emits xq10 (0 : Int32) mq9 _ _ hz) (by decide) (by decide)
      exact Jk120_5 xq10 mq11 hf hF
    rcases if_ex hF with hF | hF
    · exact Jk113_10 (0 : Int32) mq6 hf hF
    · obtain ⟨zq16, mq14, hz, hF⟩ := bnd_ex hF
      have hf := Fr_tr hf (fr_M_isWord ("day") mq6 _ _ hz) (by decide) (by decide)
      rcases if_ex hF with hF | hF
      · exact Jk113_10 (1 : Int32) mq14 hf hF
      · obtain ⟨zq19, mq17, hz, hF⟩ := bnd_ex hF
        have hf := Fr_tr hf (fr_M_isWord ("innings") mq14 _ _ hz) (by decide) (by decide)
        rcases if_ex hF with hF | hF
        · exact Jk113_10 (2 : Int32) mq17 hf hF
        · obtain ⟨zq22, mq20, hz, hF⟩ := bnd_ex hF
          have hf := Fr_tr hf (fr_M_isWord ("side") mq17 _ _ hz) (by decide) (by decide)
          rcases if_ex hF with hF | hF
          · exact Jk113_10 (3 : Int32) mq20 hf hF
          · obtain ⟨zq25, mq23, hz, hF⟩ := bnd_ex hF
            have hf := Fr_tr hf (fr_M_isWord ("bat") mq20 _ _ hz) (by decide) (by decide)
            rcases if_ex hF with hF | hF
            · exact Jk113_10 (4 : Int32) mq23 hf hF
            · obtain ⟨zq28, mq26, hz, hF⟩ := bnd_ex hF
              have hf := Fr_tr hf (fr_M_isWord ("bowl") mq23 _ _ hz) (by decide) (by decide)
              rcases if_ex hF with hF | hF
              · exact Jk113_10 (5 : Int32) mq26 hf hF
              · exact Jk113_10 (-1 : Int32) mq26 hf hF
set_option maxHeartbeats 4000000 in
theorem fr_M_readSum_L9  (mB : Mem) (v : Bool) (m' : Mem) : ∀ (nf : Nat) (mq4 : Mem), Fr [79] [(78, 9), (78, 11), (78, 15)] mB mq4 → F_M_readSum_L9  nf mq4 = some (v, m') → Fr [79] [(78, 9), (78, 11), (78, 15)] mB m' := by
  intro nf
  induction nf with
  | zero =>
    intro mq4 hf hF
    rw [F_M_readSum_L9] at hF
    cases hF
  | succ nfq5 ih =>
    intro mq4 hf hF
    rw [F_M_readSum_L9] at hF
    obtain ⟨zq9, mq7, hz, hF⟩ := bnd_ex hF
    have hf := Fr_tr hf (fr_M_sign (43 : Int32) mq4 _ _ hz) (by decide) (by decide)
    rcases if_ex hF with hF | hF
    · obtain ⟨zq12, mq10, hz, hF⟩ := bnd_ex hF
      have hf := Fr_tr hf (fr_M_readPart mq7 _ _ hz) (by decide) (by decide)
      rcases if_ex hF with hF | hF
      · obtain ⟨u_, mq13, hz, hF⟩ := bnd_ex hF
        have hf := Fr_tr hf (fr_M_emits (9 : Int32) (0 : Int32) mq10 _ _ hz) (by decide) (by decide)
        exact ih mq13 hf hF
      · cases hF
        exact hf
    · cases hF
      exact hf
set_option maxHeartbeats 4000000 in
theorem fr_M_readSum (m0 : Mem) (v : Bool) (m' : Mem) (hF : F_M_readSum m0 = some (v, m')) : Fr [79] [(78, 9), (78, 11), (78, 15)] m0 m' := by
  unfold F_M_readSum at hF
  have hf : Fr [79] [(78, 9), (78, 11), (78, 15)] m0 m0 := Fr_rf
  obtain ⟨zq3, mq1, hz, hF⟩ := bnd_ex hF
  have hf := Fr_tr hf (fr_M_readPart m0 _ _ hz) (by decide) (by decide)
  rcases if_ex hF with hF | hF
  · exact fr_M_readSum_L9  m0 _ _  1000000 mq1 hf hF
  · cases hF
    exact hf
set_option maxHeartbeats 4000000 in
theorem fr_M_readAtom_b (rc : Mem → Option (Bool × Mem)) (hrc : ∀  (m : Mem) (v : Bool) (m' : Mem), rc  m = some (v, m') → Fr [79] [(78, 9), (78, 11), (78, 12), (78, 15)] m m') (m0 : Mem) (v : Bool) (m' : Mem) (hF : F_M_readAtom_b rc m0 = some (v, m')) : Fr [79] [(78, 9), (78, 11), (78, 12), (78, 15)] m0 m' := by
  unfold F_M_readAtom_b at hF
  have hf : Fr [79] [(78, 9), (78, 11), (78, 12), (78, 15)] m0 m0 := Fr_rf
  obtain ⟨zq3, mq1, hz, hF⟩ := bnd_ex hF
  have hf := Fr_tr hf (fr_M_sign (40 : Int32) m0 _ _ hz) (by decide) (by decide)
  rcases if_ex hF with hF | hF
  · rcases if_ex hF with hF | hF
    · cases hF
      exact hf
    · obtain ⟨mq45, emq45, hF⟩ := lt_ex hF
      have hf := Fr_sI emq45 hf (Or.inr (by decide))
      obtain ⟨zq48, mq46, hz, hF⟩ := bnd_ex hF
      have hf := Fr_tr hf (fr_M_readCond rc hrc mq45 _ _ hz) (by decide) (by decide)
      rcases if_ex hF with hF | hF
      · obtain ⟨mq49, emq49, hF⟩ := lt_ex hF
        have hf := Fr_sI emq49 hf (Or.inr (by decide))
        obtain ⟨zq52, mq50, hz, hF⟩ := bnd_ex hF
        have hf := Fr_tr hf (fr_M_sign (41 : Int32) mq49 _ _ hz) (by decide) (by decide)
        cases hF
        exact hf
      · cases hF
        exact hf
  · obtain ⟨zq6, mq4, hz, hF⟩ := bnd_ex hF
    have hf := Fr_tr hf (fr_M_passes ("not") mq1 _ _ hz) (by decide) (by decide)
    rcases if_ex hF with hF | hF
    · rcases if_ex hF with hF | hF
      · cases hF
        exact hf
      · obtain ⟨mq37, emq37, hF⟩ := lt_ex hF
        have hf := Fr_sI emq37 hf (Or.inr (by decide))
        obtain ⟨zq40, mq38, hz, hF⟩ := bnd_ex hF
        have hf := Fr_tr hf (hrc mq37 _ _ hz) (by decide) (by decide)
        rcases if_ex hF with hF | hF
        · obtain ⟨mq41, emq41, hF⟩ := lt_ex hF
          have hf := Fr_sI emq41 hf (Or.inr (by decide))
          obtain ⟨u_, mq42, hz, hF⟩ := bnd_ex hF
          have hf := Fr_tr hf (fr_M_emits (12 : Int32) (0 : Int32) mq41 _ _ hz) (by decide) (by decide)
          cases hF
          exact hf
        · cases hF
          exact hf
    · obtain ⟨zq9, mq7, hz, hF⟩ := bnd_ex hF
      have hf := Fr_tr hf (fr_M_passes ("cloud") mq4 _ _ hz) (by decide) (by decide)
      obtain ⟨k134_10, ek134_10, hF⟩ := lt_ex hF
      have Jk134_10 : ∀ (mq10 : Mem), Fr [79] [(78, 9), (78, 11), (78, 12), (78, 15)] m0 mq10 → k134_10 mq10 = some (v, m') → Fr [79] [(78, 9), (78, 11), (78, 12), (78, 15)] m0 m' := by
        intro mq10 hf hF
        rw [ek134_10] at hF
        obtain ⟨k146_12, ek146_12, hF⟩ := lt_ex hF
        have Jk146_12 : ∀ (xq12 : Int32) (mq11 : Mem), Fr [79] [(78, 9), (78, 11), (78, 12), (78, 15)] m0 mq11 → k146_12 xq12 mq11 = some (v, m') → Fr [79] [(78, 9), (78, 11), (78, 12), (78, 15)] m0 m' := by
          intro xq12 mq11 hf hF
          rw [ek146_12] at hF
          obtain ⟨u_, mq13, hz, hF⟩ := bnd_ex hF
          have hf := Fr_tr hf (fr_M_emits xq12 (0 : Int32) mq11 _ _ hz) (by decide) (by decide)
          cases hF
          exact hf
        rcases if_ex hF with hF | hF
        · exact Jk146_12 (6 : Int32) mq10 hf hF
        · exact Jk146_12 (7 : Int32) mq10 hf hF
      rcases if_ex hF with hF | hF
      · exact Jk134_10 mq7 hf hF
      · obtain ⟨zq18, mq16, hz, hF⟩ := bnd_ex hF
        have hf := Fr_tr hf (fr_M_passes ("tide") mq7 _ _ hz) (by decide) (by decide)
        rcases if_ex hF with hF | hF
        · exact Jk134_10 mq16 hf hF
        · obtain ⟨zq21, mq19, hz, hF⟩ := bnd_ex hF
          have hf := Fr_tr hf (fr_M_readSum mq16 _ _ hz) (by decide) (by decide)
          rcases if_ex hF with hF | hF
          · obtain ⟨zq24, mq22, hz, hF⟩ := bnd_ex hF
            have hf := Fr_tr hf (fr_M_sign (60 : Int32) mq19 _ _ hz) (by decide) (by decide)
            obtain ⟨k181_25, ek181_25, hF⟩ := lt_ex hF
            have Jk181_25 : ∀ (mq25 : Mem), Fr [79] [(78, 9), (78, 11), (78, 12), (78, 15)] m0 mq25 → k181_25 mq25 = some (v, m') → Fr [79] [(78, 9), (78, 11), (78, 12), (78, 15)] m0 m' := by
              intro mq25 hf hF
              rw [ek181_25] at hF
              obtain ⟨zq28, mq26, hz, hF⟩ := bnd_ex hF
              have hf := Fr_tr hf (fr_M_readSum mq25 _ _ hz) (by decide) (by decide)
              rcases if_ex hF with hF | hF
              · obtain ⟨k202_30, ek202_30, hF⟩ := lt_ex hF
                have Jk202_30 : ∀ (xq30 : Int32) (mq29 : Mem), Fr [79] [(78, 9), (78, 11), (78, 12), (78, 15)] m0 mq29 → k202_30 xq30 mq29 = some (v, m') → Fr [79] [(78, 9), (78, 11), (78, 12), (78, 15)] m0 m' := by
                  intro xq30 mq29 hf hF
                  rw [ek202_30] at hF
                  obtain ⟨u_, mq31, hz, hF⟩ := bnd_ex hF
                  have hf := Fr_tr hf (fr_M_emits xq30 (0 : Int32) mq29 _ _ hz) (by decide) (by decide)
                  cases hF
                  exact hf
                rcases if_ex hF with hF | hF
                · exact Jk202_30 (10 : Int32) mq26 hf hF
                · exact Jk202_30 (11 : Int32) mq26 hf hF
              · cases hF
                exact hf
            rcases if_ex hF with hF | hF
            · exact Jk181_25 mq22 hf hF
            · obtain ⟨zq36, mq34, hz, hF⟩ := bnd_ex hF
              have hf := Fr_tr hf (fr_M_sign (62 : Int32) mq22 _ _ hz) (by decide) (by decide)
              rcases if_ex hF with hF | hF
              · exact Jk181_25 mq34 hf hF
              · cases hF
                exact hf
          · cases hF
            exact hf
set_option maxHeartbeats 4000000 in
theorem fr_M_readAtom : ∀ (k : Nat) (b0 : Mem) (v : Bool) (m' : Mem), F_M_readAtom k b0 = some (v, m') → Fr [79] [(78, 9), (78, 11), (78, 12), (78, 15)] b0 m' := by
  intro k
  induction k with
  | zero =>
    intro b0 v m' h
    rw [F_M_readAtom] at h
    cases h
  | succ k ih =>
    intro b0 v m' h
    rw [F_M_readAtom] at h
    exact fr_M_readAtom_b (F_M_readAtom k) ih b0 v m' h
set_option maxHeartbeats 4000000 in
theorem fr_M_readLawLine (a1 : Int32) (m0 : Mem) (v : Bool) (m' : Mem) (hF : F_M_readLawLine a1 m0 = some (v, m')) : Fr [79] [(78, 9), (78, 11), (78, 12), (78, 15)] m0 m' := by
  unfold F_M_readLawLine at hF
  have hf : Fr [79] [(78, 9), (78, 11), (78, 12), (78, 15)] m0 m0 := Fr_rf
  obtain ⟨xq1, exq1, hF⟩ := lt_ex hF
  obtain ⟨zq4, mq2, hz, hF⟩ := bnd_ex hF
  have hf := Fr_tr hf (fr_M_isWord ("hard") m0 _ _ hz) (by decide) (by decide)
  rcases if_ex hF with hF | hF
  · obtain ⟨xq7, mq5, hz, hF⟩ := bnd_ex hF
    have hf := Fr_tr hf (fr_M_number (0 : Int32) (9 : Int32) mq2 _ _ hz) (by decide) (by decide)
    obtain ⟨-, hF⟩ := ckB_ex hF
    obtain ⟨mq8, emq8, hF⟩ := lt_ex hF
    have hf := Fr_sI emq8 hf (Or.inl (by decide))
    obtain ⟨-, hF⟩ := ckB_ex hF
    obtain ⟨xq11, exq11, hF⟩ := lt_ex hF
    rcases if_ex hF with hF | hF
    · obtain ⟨-, hF⟩ := ckB_ex hF
      obtain ⟨mq12, emq12, hF⟩ := lt_ex hF
      have hf := Fr_sI emq12 hf (Or.inl (by decide))
      obtain ⟨mq14, emq14, hF⟩ := lt_ex hF
      have hf := Fr_sI emq14 hf (Or.inr (by decide))
      obtain ⟨zq17, mq15, hz, hF⟩ := bnd_ex hF
      have hf := Fr_tr hf (fr_M_passes ("if") mq14 _ _ hz) (by decide) (by decide)
      obtain ⟨k78_18, ek78_18, hF⟩ := lt_ex hF
      have Jk78_18 : ∀ (mq18 : Mem), Fr [79] [(78, 9), (78, 11), (78, 12), (78, 15)] m0 mq18 → k78_18 mq18 = some (v, m') → Fr [79] [(78, 9), (78, 11), (78, 12), (78, 15)] m0 m' := by
        intro mq18 hf hF
        rw [ek78_18] at hF
        obtain ⟨-, hF⟩ := ckB_ex hF
        obtain ⟨mq19, emq19, hF⟩ := lt_ex hF
        have hf := Fr_sI emq19 hf (Or.inl (by decide))
        cases hF
        exact hf
      rcases if_ex hF with hF | hF
      · obtain ⟨zq23, mq21, hz, hF⟩ := bnd_ex hF
        have hf := Fr_tr hf (fr_M_readCond (F_M_readAtom 8) (fr_M_readAtom 8) mq15 _ _ hz) (by decide) (by decide)
        rcases if_ex hF with hF | hF
        · exact Jk78_18 mq21 hf hF
        · cases hF
          exact hf
      · exact Jk78_18 mq15 hf hF
    · cases hF
      exact hf
  · cases hF
    exact hf
set_option maxHeartbeats 4000000 in
theorem fr_M_readBook (m0 : Mem) (v : Bool) (m' : Mem) (hF : F_M_readBook m0 = some (v, m')) : Fr [79] [(78, 9), (78, 11)] m0 m' := by
  unfold F_M_readBook at hF
  have hf : Fr [79] [(78, 9), (78, 11)] m0 m0 := Fr_rf
  obtain ⟨xq1, exq1, hF⟩ := lt_ex hF
  rcases if_ex hF with hF | hF
  · cases hF
    exact hf
  · obtain ⟨xq4, mq2, hz, hF⟩ := bnd_ex hF
    have hf := Fr_tr hf (fr_M_number (0 : Int32) (1 : Int32) m0 _ _ hz) (by decide) (by decide)
    obtain ⟨k46_6, ek46_6, hF⟩ := lt_ex hF
    have Jk46_6 : ∀ (xq6 : Int32) (mq5 : Mem), Fr [79] [(78, 9), (78, 11)] m0 mq5 → k46_6 xq6 mq5 = some (v, m') → Fr [79] [(78, 9), (78, 11)] m0 m' := by
      intro xq6 mq5 hf hF
      rw [ek46_6] at hF
      obtain ⟨k61_8, ek61_8, hF⟩ := lt_ex hF
      have Jk61_8 : ∀ (xq8 : Int32) (mq7 : Mem), Fr [79] [(78, 9), (78, 11)] m0 mq7 → k61_8 xq8 mq7 = some (v, m') → Fr [79] [(78, 9), (78, 11)] m0 m' := by
        intro xq8 mq7 hf hF
        rw [ek61_8] at hF
        rcases if_ex hF with hF | hF
        · obtain ⟨-, hF⟩ := ckB_ex hF
          obtain ⟨mq9, emq9, hF⟩ := lt_ex hF
          have hf := Fr_sI emq9 hf (Or.inl (by decide))
          obtain ⟨-, hF⟩ := ckB_ex hF
          obtain ⟨mq11, emq11, hF⟩ := lt_ex hF
          have hf := Fr_sI emq11 hf (Or.inl (by decide))
          obtain ⟨-, hF⟩ := ckB_ex hF
          obtain ⟨mq13, emq13, hF⟩ := lt_ex hF
          have hf := Fr_sI emq13 hf (Or.inl (by decide))
          obtain ⟨mq15, emq15, hF⟩ := lt_ex hF
          have hf := Fr_sI emq15 hf (Or.inl (by decide))
          cases hF
          exact hf
        · cases hF
          exact hf
      rcases if_ex hF with hF | hF
      · obtain ⟨xq18, mq16, hz, hF⟩ := bnd_ex hF
        have hf := Fr_tr hf (fr_M_number (0 : Int32) (2 : Int32) mq5 _ _ hz) (by decide) (by decide)
        exact Jk61_8 xq18 mq16 hf hF
      · exact Jk61_8 (-1 : Int32) mq5 hf hF
    rcases if_ex hF with hF | hF
    · obtain ⟨xq21, mq19, hz, hF⟩ := bnd_ex hF
      have hf := Fr_tr hf (fr_M_number (0 : Int32) (1 : Int32) mq2 _ _ hz) (by decide) (by decide)
      exact Jk46_6 xq21 mq19 hf hF
    · exact Jk46_6 (-1 : Int32) mq2 hf hF
set_option maxHeartbeats 4000000 in
theorem fr_M_readNumber (a1 : Int32) (a2 : Int32) (m0 : Mem) (v : Bool) (m' : Mem) (hF : F_M_readNumber a1 a2 m0 = some (v, m')) : Fr [79] [(78, 9), (78, 11)] m0 m' := by
  unfold F_M_readNumber at hF
  have hf : Fr [79] [(78, 9), (78, 11)] m0 m0 := Fr_rf
  obtain ⟨xq3, mq1, hz, hF⟩ := bnd_ex hF
  have hf := Fr_tr hf (fr_M_number (0 : Int32) a2 m0 _ _ hz) (by decide) (by decide)
  obtain ⟨-, hF⟩ := ckB_ex hF
  obtain ⟨mq4, emq4, hF⟩ := lt_ex hF
  have hf := Fr_sI emq4 hf (Or.inl (by decide))
  rcases if_ex hF with hF | hF
  · cases hF
    exact hf
  · cases hF
    exact hf
set_option maxHeartbeats 4000000 in
theorem fr_M_isFigure (m0 : Mem) (v : Bool) (m' : Mem) (hF : F_M_isFigure m0 = some (v, m')) : Fr [] [(78, 9), (78, 11)] m0 m' := by
  unfold F_M_isFigure at hF
  have hf : Fr [] [(78, 9), (78, 11)] m0 m0 := Fr_rf
  obtain ⟨u_, mq1, hz, hF⟩ := bnd_ex hF
  have hf := Fr_tr hf (fr_M_blanks m0 _ _ hz) (by decide) (by decide)
  obtain ⟨zq6, mq4, hz, hF⟩ := bnd_ex hF
  have hf := Fr_tr hf (fr_M_isAt (48 : Int32) (57 : Int32) mq1 _ _ hz) (by decide) (by decide)
  cases hF
  exact hf
set_option maxHeartbeats 4000000 in
theorem fr_M_readSet_L0 (a1 : Int32) (mB : Mem) (v : Bool) (m' : Mem) : ∀ (nf : Nat) (mq1 : Mem), Fr [79] [(78, 9), (78, 11)] mB mq1 → F_M_readSet_L0 a1 nf mq1 = some (v, m') → Fr [79] [(78, 9), (78, 11)] mB m' := by
  intro nf
  induction nf with
  | zero =>
    intro mq1 hf hF
    rw [F_M_readSet_L0] at hF
    cases hF
  | succ nfq2 ih =>
    intro mq1 hf hF
    rw [F_M_readSet_L0] at hF
    obtain ⟨xq6, mq4, hz, hF⟩ := bnd_ex hF
    have hf := Fr_tr hf (fr_M_number (0 : Int32) (8 : Int32) mq1 _ _ hz) (by decide) (by decide)
    rcases if_ex hF with hF | hF
    · obtain ⟨-, hF⟩ := ckB_ex hF
      obtain ⟨xq8, exq8, hF⟩ := lt_ex hF
      obtain ⟨-, hF⟩ := ckB_ex hF
      obtain ⟨mq9, emq9, hF⟩ := lt_ex hF
      have hf := Fr_sI emq9 hf (Or.inl (by decide))
      obtain ⟨zq13, mq11, hz, hF⟩ := bnd_ex hF
      have hf := Fr_tr hf (fr_M_isFigure mq9 _ _ hz) (by decide) (by decide)
      rcases if_ex hF with hF | hF
      · exact ih mq11 hf hF
      · cases hF
        exact hf
    · cases hF
      exact hf
set_option maxHeartbeats 4000000 in
theorem fr_M_readSet (a1 : Int32) (m0 : Mem) (v : Bool) (m' : Mem) (hF : F_M_readSet a1 m0 = some (v, m')) : Fr [79] [(78, 9), (78, 11)] m0 m' := by
  unfold F_M_readSet at hF
  have hf : Fr [79] [(78, 9), (78, 11)] m0 m0 := Fr_rf
  exact fr_M_readSet_L0 a1 m0 _ _  1000000 m0 hf hF
set_option maxHeartbeats 4000000 in
theorem fr_M_after_LjavalangStringIII (tx1 : String) (a2 : Int32) (a3 : Int32) (m0 : Mem) (v : Int32) (m' : Mem) (hF : F_M_after_LjavalangStringIII tx1 a2 a3 m0 = some (v, m')) : Fr [] [(78, 9), (78, 11)] m0 m' := by
  unfold F_M_after_LjavalangStringIII at hF
  have hf : Fr [] [(78, 9), (78, 11)] m0 m0 := Fr_rf
  obtain ⟨u_, mq1, hz, hF⟩ := bnd_ex hF
  have hf := Fr_tr hf (fr_M_letters m0 _ _ hz) (by decide) (by decide)
  obtain ⟨zq6, mq4, hz, hF⟩ := bnd_ex hF
  have hf := Fr_tr hf (fr_M_isWord tx1 mq1 _ _ hz) (by decide) (by decide)
  rcases if_ex hF with hF | hF
  · obtain ⟨xq9, mq7, hz, hF⟩ := bnd_ex hF
    have hf := Fr_tr hf (fr_M_number a2 a3 mq4 _ _ hz) (by decide) (by decide)
    cases hF
    exact hf
  · cases hF
    exact hf
set_option maxHeartbeats 4000000 in
theorem fr_M_readSlot (m0 : Mem) (v : Bool) (m' : Mem) (hF : F_M_readSlot m0 = some (v, m')) : Fr [79] [(78, 9), (78, 11)] m0 m' := by
  unfold F_M_readSlot at hF
  have hf : Fr [79] [(78, 9), (78, 11)] m0 m0 := Fr_rf
  obtain ⟨xq3, mq1, hz, hF⟩ := bnd_ex hF
  have hf := Fr_tr hf (fr_M_number (0 : Int32) (3 : Int32) m0 _ _ hz) (by decide) (by decide)
  obtain ⟨k21_5, ek21_5, hF⟩ := lt_ex hF
  have Jk21_5 : ∀ (xq5 : Int32) (mq4 : Mem), Fr [79] [(78, 9), (78, 11)] m0 mq4 → k21_5 xq5 mq4 = some (v, m') → Fr [79] [(78, 9), (78, 11)] m0 m' := by
    intro xq5 mq4 hf hF
    rw [ek21_5] at hF
    obtain ⟨k39_7, ek39_7, hF⟩ := lt_ex hF
    have Jk39_7 : ∀ (xq7 : Int32) (mq6 : Mem), Fr [79] [(78, 9), (78, 11)] m0 mq6 → k39_7 xq7 mq6 = some (v, m') → Fr [79] [(78, 9), (78, 11)] m0 m' := by
      intro xq7 mq6 hf hF
      rw [ek39_7] at hF
      obtain ⟨k57_9, ek57_9, hF⟩ := lt_ex hF
      have Jk57_9 : ∀ (xq9 : Int32) (mq8 : Mem), Fr [79] [(78, 9), (78, 11)] m0 mq8 → k57_9 xq9 mq8 = some (v, m') → Fr [79] [(78, 9), (78, 11)] m0 m' := by
        intro xq9 mq8 hf hF
        rw [ek57_9] at hF
        rcases if_ex hF with hF | hF
        · obtain ⟨xq10, exq10, hF⟩ := lt_ex hF
          obtain ⟨-, hF⟩ := ckB_ex hF
          obtain ⟨mq11, emq11, hF⟩ := lt_ex hF
          have hf := Fr_sI emq11 hf (Or.inl (by decide))
          obtain ⟨xq13, exq13, hF⟩ := lt_ex hF
          obtain ⟨-, hF⟩ := ckB_ex hF
          obtain ⟨mq14, emq14, hF⟩ := lt_ex hF
          have hf := Fr_sI emq14 hf (Or.inl (by decide))
          cases hF
          exact hf
        · cases hF
          exact hf
      rcases if_ex hF with hF | hF
      · obtain ⟨xq18, mq16, hz, hF⟩ := bnd_ex hF
        have hf := Fr_tr hf (fr_M_after_LjavalangStringIII ("outs") (0 : Int32) (9 : Int32) mq6 _ _ hz) (by decide) (by decide)
        exact Jk57_9 xq18 mq16 hf hF
      · exact Jk57_9 (-1 : Int32) mq6 hf hF
    rcases if_ex hF with hF | hF
    · obtain ⟨xq21, mq19, hz, hF⟩ := bnd_ex hF
      have hf := Fr_tr hf (fr_M_after_LjavalangStringIII ("runs") (0 : Int32) (9 : Int32) mq4 _ _ hz) (by decide) (by decide)
      exact Jk39_7 xq21 mq19 hf hF
    · exact Jk39_7 (-1 : Int32) mq4 hf hF
  rcases if_ex hF with hF | hF
  · obtain ⟨xq24, mq22, hz, hF⟩ := bnd_ex hF
    have hf := Fr_tr hf (fr_M_number (0 : Int32) (3 : Int32) mq1 _ _ hz) (by decide) (by decide)
    exact Jk21_5 xq24 mq22 hf hF
  · exact Jk21_5 (-1 : Int32) mq1 hf hF
set_option maxHeartbeats 4000000 in
theorem fr_M_readSide (m0 : Mem) (v : Bool) (m' : Mem) (hF : F_M_readSide m0 = some (v, m')) : Fr [79] [(78, 9), (78, 11)] m0 m' := by
  unfold F_M_readSide at hF
  have hf : Fr [79] [(78, 9), (78, 11)] m0 m0 := Fr_rf
  obtain ⟨xq3, mq1, hz, hF⟩ := bnd_ex hF
  have hf := Fr_tr hf (fr_M_number (0 : Int32) (1 : Int32) m0 _ _ hz) (by decide) (by decide)
  obtain ⟨k24_5, ek24_5, hF⟩ := lt_ex hF
  have Jk24_5 : ∀ (xq5 : Int32) (mq4 : Mem), Fr [79] [(78, 9), (78, 11)] m0 mq4 → k24_5 xq5 mq4 = some (v, m') → Fr [79] [(78, 9), (78, 11)] m0 m' := by
    intro xq5 mq4 hf hF
    rw [ek24_5] at hF
    obtain ⟨k42_7, ek42_7, hF⟩ := lt_ex hF
    have Jk42_7 : ∀ (xq7 : Int32) (mq6 : Mem), Fr [79] [(78, 9), (78, 11)] m0 mq6 → k42_7 xq7 mq6 = some (v, m') → Fr [79] [(78, 9), (78, 11)] m0 m' := by
      intro xq7 mq6 hf hF
      rw [ek42_7] at hF
      rcases if_ex hF with hF | hF
      · obtain ⟨-, hF⟩ := ckB_ex hF
        obtain ⟨mq8, emq8, hF⟩ := lt_ex hF
        have hf := Fr_sI emq8 hf (Or.inl (by decide))
        obtain ⟨xq10, exq10, hF⟩ := lt_ex hF
        obtain ⟨-, hF⟩ := ckB_ex hF
        obtain ⟨mq11, emq11, hF⟩ := lt_ex hF
        have hf := Fr_sI emq11 hf (Or.inl (by decide))
        cases hF
        exact hf
      · cases hF
        exact hf
    rcases if_ex hF with hF | hF
    · obtain ⟨xq15, mq13, hz, hF⟩ := bnd_ex hF
      have hf := Fr_tr hf (fr_M_after_LjavalangStringIII ("bowl") (0 : Int32) (9 : Int32) mq4 _ _ hz) (by decide) (by decide)
      exact Jk42_7 xq15 mq13 hf hF
    · exact Jk42_7 (-1 : Int32) mq4 hf hF
  rcases if_ex hF with hF | hF
  · obtain ⟨xq18, mq16, hz, hF⟩ := bnd_ex hF
    have hf := Fr_tr hf (fr_M_after_LjavalangStringIII ("bat") (0 : Int32) (9 : Int32) mq1 _ _ hz) (by decide) (by decide)
    exact Jk24_5 xq18 mq16 hf hF
  · exact Jk24_5 (-1 : Int32) mq1 hf hF
set_option maxHeartbeats 4000000 in
theorem fr_M_readSessions (m0 : Mem) (v : Bool) (m' : Mem) (hF : F_M_readSessions m0 = some (v, m')) : Fr [79] [(78, 9), (78, 11)] m0 m' := by
  unfold F_M_readSessions at hF
  have hf : Fr [79] [(78, 9), (78, 11)] m0 m0 := Fr_rf
  rcases if_ex hF with hF | hF
  · obtain ⟨xq3, mq1, hz, hF⟩ := bnd_ex hF
    have hf := Fr_tr hf (fr_M_number (1 : Int32) (9 : Int32) m0 _ _ hz) (by decide) (by decide)
    obtain ⟨k31_4, ek31_4, hF⟩ := lt_ex hF
    have Jk31_4 : ∀ (mq4 : Mem), Fr [79] [(78, 9), (78, 11)] m0 mq4 → k31_4 mq4 = some (v, m') → Fr [79] [(78, 9), (78, 11)] m0 m' := by
      intro mq4 hf hF
      rw [ek31_4] at hF
      rcases if_ex hF with hF | hF
      · cases hF
        exact hf
      · cases hF
        exact hf
    rcases if_ex hF with hF | hF
    · exact Jk31_4 mq1 hf hF
    · obtain ⟨mq5, emq5, hF⟩ := lt_ex hF
      have hf := Fr_sI emq5 hf (Or.inl (by decide))
      exact Jk31_4 mq5 hf hF
  · cases hF
    exact hf
set_option maxHeartbeats 4000000 in
theorem fr_M_readGroundLine (m0 : Mem) (v : Bool) (m' : Mem) (hF : F_M_readGroundLine m0 = some (v, m')) : Fr [79] [(78, 9), (78, 11)] m0 m' := by
  unfold F_M_readGroundLine at hF
  have hf : Fr [79] [(78, 9), (78, 11)] m0 m0 := Fr_rf
  obtain ⟨zq3, mq1, hz, hF⟩ := bnd_ex hF
  have hf := Fr_tr hf (fr_M_isWord ("sessions") m0 _ _ hz) (by decide) (by decide)
  rcases if_ex hF with hF | hF
  · obtain ⟨zq54, mq52, hz, hF⟩ := bnd_ex hF
    have hf := Fr_tr hf (fr_M_readSessions mq1 _ _ hz) (by decide) (by decide)
    cases hF
    exact hf
  · obtain ⟨zq6, mq4, hz, hF⟩ := bnd_ex hF
    have hf := Fr_tr hf (fr_M_isWord ("side") mq1 _ _ hz) (by decide) (by decide)
    rcases if_ex hF with hF | hF
    · obtain ⟨zq51, mq49, hz, hF⟩ := bnd_ex hF
      have hf := Fr_tr hf (fr_M_readSide mq4 _ _ hz) (by decide) (by decide)
      cases hF
      exact hf
    · obtain ⟨zq9, mq7, hz, hF⟩ := bnd_ex hF
      have hf := Fr_tr hf (fr_M_isWord ("slot") mq4 _ _ hz) (by decide) (by decide)
      rcases if_ex hF with hF | hF
      · obtain ⟨zq48, mq46, hz, hF⟩ := bnd_ex hF
        have hf := Fr_tr hf (fr_M_readSlot mq7 _ _ hz) (by decide) (by decide)
        cases hF
        exact hf
      · obtain ⟨zq12, mq10, hz, hF⟩ := bnd_ex hF
        have hf := Fr_tr hf (fr_M_isWord ("cloud") mq7 _ _ hz) (by decide) (by decide)
        rcases if_ex hF with hF | hF
        · obtain ⟨zq45, mq43, hz, hF⟩ := bnd_ex hF
          have hf := Fr_tr hf (fr_M_readSet (6 : Int32) mq10 _ _ hz) (by decide) (by decide)
          cases hF
          exact hf
        · obtain ⟨zq15, mq13, hz, hF⟩ := bnd_ex hF
          have hf := Fr_tr hf (fr_M_isWord ("tide") mq10 _ _ hz) (by decide) (by decide)
          rcases if_ex hF with hF | hF
          · obtain ⟨zq42, mq40, hz, hF⟩ := bnd_ex hF
            have hf := Fr_tr hf (fr_M_readSet (7 : Int32) mq13 _ _ hz) (by decide) (by decide)
            cases hF
            exact hf
          · obtain ⟨zq18, mq16, hz, hF⟩ := bnd_ex hF
            have hf := Fr_tr hf (fr_M_isWord ("rain") mq13 _ _ hz) (by decide) (by decide)
            rcases if_ex hF with hF | hF
            · obtain ⟨zq39, mq37, hz, hF⟩ := bnd_ex hF
              have hf := Fr_tr hf (fr_M_readSet (8 : Int32) mq16 _ _ hz) (by decide) (by decide)
              cases hF
              exact hf
            · obtain ⟨zq21, mq19, hz, hF⟩ := bnd_ex hF
              have hf := Fr_tr hf (fr_M_isWord ("margin") mq16 _ _ hz) (by decide) (by decide)
              rcases if_ex hF with hF | hF
              · obtain ⟨zq36, mq34, hz, hF⟩ := bnd_ex hF
                have hf := Fr_tr hf (fr_M_readNumber (1 : Int32) (99 : Int32) mq19 _ _ hz) (by decide) (by decide)
                cases hF
                exact hf
              · obtain ⟨zq24, mq22, hz, hF⟩ := bnd_ex hF
                have hf := Fr_tr hf (fr_M_isWord ("drawworth") mq19 _ _ hz) (by decide) (by decide)
                rcases if_ex hF with hF | hF
                · obtain ⟨zq33, mq31, hz, hF⟩ := bnd_ex hF
                  have hf := Fr_tr hf (fr_M_readNumber (2 : Int32) (100 : Int32) mq22 _ _ hz) (by decide) (by decide)
                  cases hF
                  exact hf
                · obtain ⟨zq27, mq25, hz, hF⟩ := bnd_ex hF
                  have hf := Fr_tr hf (fr_M_isWord ("book") mq22 _ _ hz) (by decide) (by decide)
                  rcases if_ex hF with hF | hF
                  · obtain ⟨zq30, mq28, hz, hF⟩ := bnd_ex hF
                    have hf := Fr_tr hf (fr_M_readBook mq25 _ _ hz) (by decide) (by decide)
                    rcases if_ex hF with hF | hF
                    · cases hF
                      exact hf
                    · cases hF
                      exact hf
                  · cases hF
                    exact hf
set_option maxHeartbeats 4000000 in
theorem fr_M_readLine (a1 : Bool) (a2 : Int32) (m0 : Mem) (v : Bool) (m' : Mem) (hF : F_M_readLine a1 a2 m0 = some (v, m')) : Fr [79] [(78, 9), (78, 11), (78, 12), (78, 15)] m0 m' := by
  unfold F_M_readLine at hF
  have hf : Fr [79] [(78, 9), (78, 11), (78, 12), (78, 15)] m0 m0 := Fr_rf
  obtain ⟨u_, mq1, hz, hF⟩ := bnd_ex hF
  have hf := Fr_tr hf (fr_M_letters m0 _ _ hz) (by decide) (by decide)
  obtain ⟨k16_5, ek16_5, hF⟩ := lt_ex hF
  have Jk16_5 : ∀ (xq5 : Int32) (mq4 : Mem), Fr [79] [(78, 9), (78, 11), (78, 12), (78, 15)] m0 mq4 → k16_5 xq5 mq4 = some (v, m') → Fr [79] [(78, 9), (78, 11), (78, 12), (78, 15)] m0 m' := by
    intro xq5 mq4 hf hF
    rw [ek16_5] at hF
    rcases if_ex hF with hF | hF
    · cases hF
      exact hf
    · rcases if_ex hF with hF | hF
      · obtain ⟨zq11, mq9, hz, hF⟩ := bnd_ex hF
        have hf := Fr_tr hf (fr_M_readGroundLine mq4 _ _ hz) (by decide) (by decide)
        rcases if_ex hF with hF | hF
        · cases hF
          exact hf
        · cases hF
          exact hf
      · obtain ⟨zq8, mq6, hz, hF⟩ := bnd_ex hF
        have hf := Fr_tr hf (fr_M_readLawLine a2 mq4 _ _ hz) (by decide) (by decide)
        rcases if_ex hF with hF | hF
        · cases hF
          exact hf
        · cases hF
          exact hf
  rcases if_ex hF with hF | hF
  · exact Jk16_5 (14 : Int32) mq1 hf hF
  · exact Jk16_5 (12 : Int32) mq1 hf hF
set_option maxHeartbeats 4000000 in
theorem fr_M_readAll_L28 (a1 : Bool) (k54_9 : Int32 → Mem → Option (Int32 × Mem)) (mB : Mem) (v : Int32) (m' : Mem) (Jk54_9 : ∀ (b0 : Int32) (b1 : Mem), Fr [79] [(78, 0), (78, 8), (78, 9), (78, 10), (78, 11), (78, 12), (78, 15)] mB b1 → k54_9 b0 b1 = some (v, m') → Fr [79] [(78, 0), (78, 8), (78, 9), (78, 10), (78, 11), (78, 12), (78, 15)] mB m') : ∀ (nf : Nat) (xq11 : Int32) (mq10 : Mem), Fr [79] [(78, 0), (78, 8), (78, 9), (78, 10), (78, 11), (78, 12), (78, 15)] mB mq10 → F_M_readAll_L28 a1 k54_9 nf xq11 mq10 = some (v, m') → Fr [79] [(78, 0), (78, 8), (78, 9), (78, 10), (78, 11), (78, 12), (78, 15)] mB m' := by
  intro nf
  induction nf with
  | zero =>
    intro xq11 mq10 hf hF
    rw [F_M_readAll_L28] at hF
    cases hF
  | succ nfq12 ih =>
    intro xq11 mq10 hf hF
    rw [F_M_readAll_L28] at hF
    obtain ⟨zq16, mq14, hz, hF⟩ := bnd_ex hF
    have hf := Fr_tr hf (fr_M_readLine a1 xq11 mq10 _ _ hz) (by decide) (by decide)
    rcases if_ex hF with hF | hF
    · obtain ⟨u_, mq17, hz, hF⟩ := bnd_ex hF
      have hf := Fr_tr hf (fr_M_blanks mq14 _ _ hz) (by decide) (by decide)
      rcases if_ex hF with hF | hF
      · exact Jk54_9 xq11 mq17 hf hF
      · obtain ⟨zq22, mq20, hz, hF⟩ := bnd_ex hF
        have hf := Fr_tr hf (fr_M_isAt (59 : Int32) (59 : Int32) mq17 _ _ hz) (by decide) (by decide)
        rcases if_ex hF with hF | hF
        · obtain ⟨mq23, emq23, hF⟩ := lt_ex hF
          have hf := Fr_sI emq23 hf (Or.inr (by decide))
          obtain ⟨xq24, exq24, hF⟩ := lt_ex hF
          exact ih xq24 mq23 hf hF
        · cases hF
          exact hf
    · cases hF
      exact hf
set_option maxHeartbeats 4000000 in
theorem fr_M_readAll (a1 : Bool) (m0 : Mem) (v : Int32) (m' : Mem) (hF : F_M_readAll a1 m0 = some (v, m')) : Fr [79] [(78, 0), (78, 8), (78, 9), (78, 10), (78, 11), (78, 12), (78, 15)] m0 m' := by
  unfold F_M_readAll at hF
  have hf : Fr [79] [(78, 0), (78, 8), (78, 9), (78, 10), (78, 11), (78, 12), (78, 15)] m0 m0 := Fr_rf
  obtain ⟨u_, mq1, hz, hF⟩ := bnd_ex hF
  have hf := Fr_tr hf (fr_M_uses m0 _ _ hz) (by decide) (by decide)
  obtain ⟨mq4, emq4, hF⟩ := lt_ex hF
  have hf := Fr_sI emq4 hf (Or.inr (by decide))
  obtain ⟨u_, mq5, hz, hF⟩ := bnd_ex hF
  have hf := Fr_tr hf (fr_M_blanks mq4 _ _ hz) (by decide) (by decide)
  rcases if_ex hF with hF | hF
  · cases hF
    exact hf
  · obtain ⟨k54_9, ek54_9, hF⟩ := lt_ex hF
    have Jk54_9 : ∀ (xq9 : Int32) (mq8 : Mem), Fr [79] [(78, 0), (78, 8), (78, 9), (78, 10), (78, 11), (78, 12), (78, 15)] m0 mq8 → k54_9 xq9 mq8 = some (v, m') → Fr [79] [(78, 0), (78, 8), (78, 9), (78, 10), (78, 11), (78, 12), (78, 15)] m0 m' := by
      intro xq9 mq8 hf hF
      rw [ek54_9] at hF
      cases hF
      exact hf
    exact fr_M_readAll_L28 a1 k54_9 m0 _ _ Jk54_9 1000000 (0 : Int32) mq5 hf hF
set_option maxHeartbeats 4000000 in
theorem fr_M_ground_L92  (mB : Mem) (v : Int32) (m' : Mem) : ∀ (nf : Nat) (xq15 : Int32) (mq14 : Mem), Fr [79, 81] [(78, 0), (78, 6), (78, 8), (78, 9), (78, 10), (78, 11), (78, 12), (78, 13), (78, 15)] mB mq14 → F_M_ground_L92  nf xq15 mq14 = some (v, m') → Fr [79, 81] [(78, 0), (78, 6), (78, 8), (78, 9), (78, 10), (78, 11), (78, 12), (78, 13), (78, 15)] mB m' := by
  intro nf
  induction nf with
  | zero =>
    intro xq15 mq14 hf hF
    rw [F_M_ground_L92] at hF
    cases hF
  | succ nfq16 ih =>
    intro xq15 mq14 hf hF
    rw [F_M_ground_L92] at hF
    rcases if_ex hF with hF | hF
    · cases hF
      exact hf
    · obtain ⟨-, hF⟩ := ckB_ex hF
      obtain ⟨xq19, exq19, hF⟩ := lt_ex hF
      obtain ⟨-, hF⟩ := ckB_ex hF
      obtain ⟨mq20, emq20, hF⟩ := lt_ex hF
      have hf := Fr_sI emq20 hf (Or.inl (by decide))
      obtain ⟨xq22, exq22, hF⟩ := lt_ex hF
      exact ih xq22 mq20 hf hF
set_option maxHeartbeats 4000000 in
theorem fr_M_ground_L2 (k27_1 : Mem → Option (Int32 × Mem)) (mB : Mem) (v : Int32) (m' : Mem) (Jk27_1 : ∀ (b0 : Mem), Fr [79, 81] [(78, 0), (78, 6), (78, 8), (78, 9), (78, 10), (78, 11), (78, 12), (78, 13), (78, 15)] mB b0 → k27_1 b0 = some (v, m') → Fr [79, 81] [(78, 0), (78, 6), (78, 8), (78, 9), (78, 10), (78, 11), (78, 12), (78, 13), (78, 15)] mB m') : ∀ (nf : Nat) (xq31 : Int32) (mq30 : Mem), Fr [79, 81] [(78, 0), (78, 6), (78, 8), (78, 9), (78, 10), (78, 11), (78, 12), (78, 13), (78, 15)] mB mq30 → F_M_ground_L2 k27_1 nf xq31 mq30 = some (v, m') → Fr [79, 81] [(78, 0), (78, 6), (78, 8), (78, 9), (78, 10), (78, 11), (78, 12), (78, 13), (78, 15)] mB m' := by
  intro nf
  induction nf with
  | zero =>
    intro xq31 mq30 hf hF
    rw [F_M_ground_L2] at hF
    cases hF
  | succ nfq32 ih =>
    intro xq31 mq30 hf hF
    rw [F_M_ground_L2] at hF
    rcases if_ex hF with hF | hF
    · exact Jk27_1 mq30 hf hF
    · obtain ⟨-, hF⟩ := ckB_ex hF
      obtain ⟨xq35, exq35, hF⟩ := lt_ex hF
      obtain ⟨-, hF⟩ := ckB_ex hF
      obtain ⟨mq36, emq36, hF⟩ := lt_ex hF
      have hf := Fr_sI emq36 hf (Or.inl (by decide))
      obtain ⟨xq38, exq38, hF⟩ := lt_ex hF
      exact ih xq38 mq36 hf hF
set_option maxHeartbeats 4000000 in
theorem fr_M_ground (m0 : Mem) (v : Int32) (m' : Mem) (hF : F_M_ground m0 = some (v, m')) : Fr [79, 81] [(78, 0), (78, 6), (78, 8), (78, 9), (78, 10), (78, 11), (78, 12), (78, 13), (78, 15)] m0 m' := by
  unfold F_M_ground at hF
  have hf : Fr [79, 81] [(78, 0), (78, 6), (78, 8), (78, 9), (78, 10), (78, 11), (78, 12), (78, 13), (78, 15)] m0 m0 := Fr_rf
  obtain ⟨k27_1, ek27_1, hF⟩ := lt_ex hF
  have Jk27_1 : ∀ (mq1 : Mem), Fr [79, 81] [(78, 0), (78, 6), (78, 8), (78, 9), (78, 10), (78, 11), (78, 12), (78, 13), (78, 15)] m0 mq1 → k27_1 mq1 = some (v, m') → Fr [79, 81] [(78, 0), (78, 6), (78, 8), (78, 9), (78, 10), (78, 11), (78, 12), (78, 13), (78, 15)] m0 m' := by
    intro mq1 hf hF
    rw [ek27_1] at hF
    obtain ⟨xq4, mq2, hz, hF⟩ := bnd_ex hF
    have hf := Fr_tr hf (fr_M_readAll true mq1 _ _ hz) (by decide) (by decide)
    obtain ⟨k46_6, ek46_6, hF⟩ := lt_ex hF
    have Jk46_6 : ∀ (xq6 : Int32) (mq5 : Mem), Fr [79, 81] [(78, 0), (78, 6), (78, 8), (78, 9), (78, 10), (78, 11), (78, 12), (78, 13), (78, 15)] m0 mq5 → k46_6 xq6 mq5 = some (v, m') → Fr [79, 81] [(78, 0), (78, 6), (78, 8), (78, 9), (78, 10), (78, 11), (78, 12), (78, 13), (78, 15)] m0 m' := by
      intro xq6 mq5 hf hF
      rw [ek46_6] at hF
      obtain ⟨mq7, emq7, hF⟩ := lt_ex hF
      have hf := Fr_sI emq7 hf (Or.inr (by decide))
      obtain ⟨k59_9, ek59_9, hF⟩ := lt_ex hF
      have Jk59_9 : ∀ (zq9 : Bool) (mq8 : Mem), Fr [79, 81] [(78, 0), (78, 6), (78, 8), (78, 9), (78, 10), (78, 11), (78, 12), (78, 13), (78, 15)] m0 mq8 → k59_9 zq9 mq8 = some (v, m') → Fr [79, 81] [(78, 0), (78, 6), (78, 8), (78, 9), (78, 10), (78, 11), (78, 12), (78, 13), (78, 15)] m0 m' := by
        intro zq9 mq8 hf hF
        rw [ek59_9] at hF
        obtain ⟨zq12, mq10, hz, hF⟩ := bnd_ex hF
        have hf := Fr_tr hf (fr_M_throwsIf zq9 (1 : Int32) mq8 _ _ hz) (by decide) (by decide)
        obtain ⟨k90_13, ek90_13, hF⟩ := lt_ex hF
        have Jk90_13 : ∀ (mq13 : Mem), Fr [79, 81] [(78, 0), (78, 6), (78, 8), (78, 9), (78, 10), (78, 11), (78, 12), (78, 13), (78, 15)] m0 mq13 → k90_13 mq13 = some (v, m') → Fr [79, 81] [(78, 0), (78, 6), (78, 8), (78, 9), (78, 10), (78, 11), (78, 12), (78, 13), (78, 15)] m0 m' := by
          intro mq13 hf hF
          rw [ek90_13] at hF
          exact fr_M_ground_L92  m0 _ _  1000000 (0 : Int32) mq13 hf hF
        rcases if_ex hF with hF | hF
        · exact Jk90_13 mq10 hf hF
        · obtain ⟨k83_24, ek83_24, hF⟩ := lt_ex hF
          have Jk83_24 : ∀ (zq24 : Bool) (mq23 : Mem), Fr [79, 81] [(78, 0), (78, 6), (78, 8), (78, 9), (78, 10), (78, 11), (78, 12), (78, 13), (78, 15)] m0 mq23 → k83_24 zq24 mq23 = some (v, m') → Fr [79, 81] [(78, 0), (78, 6), (78, 8), (78, 9), (78, 10), (78, 11), (78, 12), (78, 13), (78, 15)] m0 m' := by
            intro zq24 mq23 hf hF
            rw [ek83_24] at hF
            obtain ⟨zq27, mq25, hz, hF⟩ := bnd_ex hF
            have hf := Fr_tr hf (fr_M_throwsIf zq24 (2 : Int32) mq23 _ _ hz) (by decide) (by decide)
            rcases if_ex hF with hF | hF
            · exact Jk90_13 mq25 hf hF
            · obtain ⟨mq28, emq28, hF⟩ := lt_ex hF
              have hf := Fr_sI emq28 hf (Or.inl (by decide))
              obtain ⟨mq29, emq29, hF⟩ := lt_ex hF
              have hf := Fr_sI emq29 hf (Or.inr (by decide))
              cases hF
              exact hf
          rcases if_ex hF with hF | hF
          · exact Jk83_24 true mq10 hf hF
          · exact Jk83_24 false mq10 hf hF
      rcases if_ex hF with hF | hF
      · exact Jk59_9 false mq7 hf hF
      · exact Jk59_9 true mq7 hf hF
    rcases if_ex hF with hF | hF
    · exact Jk46_6 (-1 : Int32) mq2 hf hF
    · exact Jk46_6 (gI mq2 78 11) mq2 hf hF
  exact fr_M_ground_L2 k27_1 m0 _ _ Jk27_1 1000000 (0 : Int32) m0 hf hF
set_option maxHeartbeats 4000000 in
theorem fr_M_habit (a1 : Bool) (m0 : Mem) (v : Bool) (m' : Mem) (hF : F_M_habit a1 m0 = some (v, m')) : Fr [] [(78, 0)] m0 m' := by
  unfold F_M_habit at hF
  have hf : Fr [] [(78, 0)] m0 m0 := Fr_rf
  obtain ⟨mq1, emq1, hF⟩ := lt_ex hF
  have hf := Fr_sI emq1 hf (Or.inr (by decide))
  rcases if_ex hF with hF | hF
  · obtain ⟨xq13, mq11, hz, hF⟩ := bnd_ex hF
    have hf := Fr_tr hf (fr_M_bookOf (3 : Int32) mq1 _ _ hz) (by decide) (by decide)
    obtain ⟨xq16, mq14, hz, hF⟩ := bnd_ex hF
    have hf := Fr_tr hf (fr_M_bookOf (0 : Int32) mq11 _ _ hz) (by decide) (by decide)
    obtain ⟨xq19, mq17, hz, hF⟩ := bnd_ex hF
    have hf := Fr_tr hf (fr_M_bookOf (5 : Int32) mq14 _ _ hz) (by decide) (by decide)
    rcases if_ex hF with hF | hF
    · cases hF
      exact hf
    · cases hF
      exact hf
  · obtain ⟨xq4, mq2, hz, hF⟩ := bnd_ex hF
    have hf := Fr_tr hf (fr_M_bookOf (0 : Int32) mq1 _ _ hz) (by decide) (by decide)
    rcases if_ex hF with hF | hF
    · cases hF
      exact hf
    · obtain ⟨xq7, mq5, hz, hF⟩ := bnd_ex hF
      have hf := Fr_tr hf (fr_M_bookOf (1 : Int32) mq2 _ _ hz) (by decide) (by decide)
      obtain ⟨xq10, mq8, hz, hF⟩ := bnd_ex hF
      have hf := Fr_tr hf (fr_M_bookOf (0 : Int32) mq5 _ _ hz) (by decide) (by decide)
      rcases if_ex hF with hF | hF
      · cases hF
        exact hf
      · cases hF
        exact hf
set_option maxHeartbeats 4000000 in
theorem fr_M_hardest_L39 (a1 : Int32) (a2 : Int32) (mB : Mem) (v : Int32) (m' : Mem) : ∀ (nf : Nat) (xq11 : Int32) (xq12 : Int32) (mq10 : Mem), Fr [85] [(78, 0)] mB mq10 → F_M_hardest_L39 a1 a2 nf xq11 xq12 mq10 = some (v, m') → Fr [85] [(78, 0)] mB m' := by
  intro nf
  induction nf with
  | zero =>
    intro xq11 xq12 mq10 hf hF
    rw [F_M_hardest_L39] at hF
    cases hF
  | succ nfq13 ih =>
    intro xq11 xq12 mq10 hf hF
    rw [F_M_hardest_L39] at hF
    obtain ⟨xq17, mq15, hz, hF⟩ := bnd_ex hF
    have hf := Fr_tr hf (fr_M_size mq10 _ _ hz) (by decide) (by decide)
    rcases if_ex hF with hF | hF
    · cases hF
      exact hf
    · obtain ⟨xq20, mq18, hz, hF⟩ := bnd_ex hF
      have hf := Fr_tr hf (fr_M_levelOf xq12 a1 a2 mq15 _ _ hz) (by decide) (by decide)
      obtain ⟨xq23, mq21, hz, hF⟩ := bnd_ex hF
      have hf := Fr_tr hf (fr_M_levelOf xq11 a1 a2 mq18 _ _ hz) (by decide) (by decide)
      obtain ⟨k72_25, ek72_25, hF⟩ := lt_ex hF
      have Jk72_25 : ∀ (xq25 : Int32) (mq24 : Mem), Fr [85] [(78, 0)] mB mq24 → k72_25 xq25 mq24 = some (v, m') → Fr [85] [(78, 0)] mB m' := by
        intro xq25 mq24 hf hF
        rw [ek72_25] at hF
        obtain ⟨xq26, exq26, hF⟩ := lt_ex hF
        exact ih xq25 xq26 mq24 hf hF
      rcases if_ex hF with hF | hF
      · exact Jk72_25 xq11 mq21 hf hF
      · exact Jk72_25 xq12 mq21 hf hF
set_option maxHeartbeats 4000000 in
theorem fr_M_hardest (a1 : Int32) (a2 : Int32) (m0 : Mem) (v : Int32) (m' : Mem) (hF : F_M_hardest a1 a2 m0 = some (v, m')) : Fr [85] [(78, 0)] m0 m' := by
  unfold F_M_hardest at hF
  have hf : Fr [85] [(78, 0)] m0 m0 := Fr_rf
  obtain ⟨mq1, emq1, hF⟩ := lt_ex hF
  have hf := Fr_sI emq1 hf (Or.inr (by decide))
  obtain ⟨zq4, mq2, hz, hF⟩ := bnd_ex hF
  have hf := Fr_tr hf (fr_M_noInnings a1 mq1 _ _ hz) (by decide) (by decide)
  obtain ⟨k25_6, ek25_6, hF⟩ := lt_ex hF
  have Jk25_6 : ∀ (zq6 : Bool) (mq5 : Mem), Fr [85] [(78, 0)] m0 mq5 → k25_6 zq6 mq5 = some (v, m') → Fr [85] [(78, 0)] m0 m' := by
    intro zq6 mq5 hf hF
    rw [ek25_6] at hF
    obtain ⟨zq9, mq7, hz, hF⟩ := bnd_ex hF
    have hf := Fr_tr hf (fr_M_throwsIf zq6 (1 : Int32) mq5 _ _ hz) (by decide) (by decide)
    rcases if_ex hF with hF | hF
    · cases hF
      exact hf
    · exact fr_M_hardest_L39 a1 a2 m0 _ _  1000000 (0 : Int32) (1 : Int32) mq7 hf hF
  obtain ⟨k20_27, ek20_27, hF⟩ := lt_ex hF
  have Jk20_27 : ∀ (mq27 : Mem), Fr [85] [(78, 0)] m0 mq27 → k20_27 mq27 = some (v, m') → Fr [85] [(78, 0)] m0 m' := by
    intro mq27 hf hF
    rw [ek20_27] at hF
    exact Jk25_6 true mq27 hf hF
  rcases if_ex hF with hF | hF
  · exact Jk20_27 mq2 hf hF
  · obtain ⟨zq30, mq28, hz, hF⟩ := bnd_ex hF
    have hf := Fr_tr hf (fr_M_noSide a2 mq2 _ _ hz) (by decide) (by decide)
    rcases if_ex hF with hF | hF
    · exact Jk20_27 mq28 hf hF
    · exact Jk25_6 false mq28 hf hF
set_option maxHeartbeats 4000000 in
theorem fr_M_here (a1 : Int32) (m0 : Mem) (v : Int64) (m' : Mem) (hF : F_M_here a1 m0 = some (v, m')) : Fr [85, 86, 87, 88] [(78, 0), (78, 20), (78, 21), (78, 23), (78, 24)] m0 m' := by
  unfold F_M_here at hF
  have hf : Fr [85, 86, 87, 88] [(78, 0), (78, 20), (78, 21), (78, 23), (78, 24)] m0 m0 := Fr_rf
  obtain ⟨mq1, emq1, hF⟩ := lt_ex hF
  have hf := Fr_sI emq1 hf (Or.inr (by decide))
  obtain ⟨xq4, mq2, hz, hF⟩ := bnd_ex hF
  have hf := Fr_tr hf (fr_M_firstSide mq1 _ _ hz) (by decide) (by decide)
  obtain ⟨k18_6, ek18_6, hF⟩ := lt_ex hF
  have Jk18_6 : ∀ (zq6 : Bool) (mq5 : Mem), Fr [85, 86, 87, 88] [(78, 0), (78, 20), (78, 21), (78, 23), (78, 24)] m0 mq5 → k18_6 zq6 mq5 = some (v, m') → Fr [85, 86, 87, 88] [(78, 0), (78, 20), (78, 21), (78, 23), (78, 24)] m0 m' := by
    intro zq6 mq5 hf hF
    rw [ek18_6] at hF
    obtain ⟨zq9, mq7, hz, hF⟩ := bnd_ex hF
    have hf := Fr_tr hf (fr_M_throwsIf zq6 (1 : Int32) mq5 _ _ hz) (by decide) (by decide)
    rcases if_ex hF with hF | hF
    · cases hF
      exact hf
    · obtain ⟨zq12, mq10, hz, hF⟩ := bnd_ex hF
      have hf := Fr_tr hf (fr_M_in a1 (0 : Int32) (3 : Int32) mq7 _ _ hz) (by decide) (by decide)
      obtain ⟨k40_14, ek40_14, hF⟩ := lt_ex hF
      have Jk40_14 : ∀ (zq14 : Bool) (mq13 : Mem), Fr [85, 86, 87, 88] [(78, 0), (78, 20), (78, 21), (78, 23), (78, 24)] m0 mq13 → k40_14 zq14 mq13 = some (v, m') → Fr [85, 86, 87, 88] [(78, 0), (78, 20), (78, 21), (78, 23), (78, 24)] m0 m' := by
        intro zq14 mq13 hf hF
        rw [ek40_14] at hF
        obtain ⟨zq17, mq15, hz, hF⟩ := bnd_ex hF
        have hf := Fr_tr hf (fr_M_throwsIf zq14 (2 : Int32) mq13 _ _ hz) (by decide) (by decide)
        rcases if_ex hF with hF | hF
        · cases hF
          exact hf
        · obtain ⟨u_, mq18, hz, hF⟩ := bnd_ex hF
          have hf := Fr_tr hf (fr_M_countsNow mq15 _ _ hz) (by decide) (by decide)
          obtain ⟨xq23, mq21, hz, hF⟩ := bnd_ex hF
          have hf := Fr_tr hf (fr_M_played mq18 _ _ hz) (by decide) (by decide)
          obtain ⟨zq26, mq24, hz, hF⟩ := bnd_ex hF
          have hf := Fr_tr hf (fr_M_isOver mq21 _ _ hz) (by decide) (by decide)
          obtain ⟨k74_28, ek74_28, hF⟩ := lt_ex hF
          have Jk74_28 : ∀ (xq28 : Int32) (mq27 : Mem), Fr [85, 86, 87, 88] [(78, 0), (78, 20), (78, 21), (78, 23), (78, 24)] m0 mq27 → k74_28 xq28 mq27 = some (v, m') → Fr [85, 86, 87, 88] [(78, 0), (78, 20), (78, 21), (78, 23), (78, 24)] m0 m' := by
            intro xq28 mq27 hf hF
            rw [ek74_28] at hF
            obtain ⟨yq31, mq29, hz, hF⟩ := bnd_ex hF
            have hf := Fr_tr hf (fr_M_waysOf a1 xq23 xq28 mq27 _ _ hz) (by decide) (by decide)
            cases hF
            exact hf
          rcases if_ex hF with hF | hF
          · exact Jk74_28 (0 : Int32) mq24 hf hF
          · obtain ⟨xq34, mq32, hz, hF⟩ := bnd_ex hF
            have hf := Fr_tr hf (fr_M_batter mq24 _ _ hz) (by decide) (by decide)
            exact Jk74_28 xq34 mq32 hf hF
      rcases if_ex hF with hF | hF
      · exact Jk40_14 false mq10 hf hF
      · exact Jk40_14 true mq10 hf hF
  rcases if_ex hF with hF | hF
  · exact Jk18_6 false mq2 hf hF
  · exact Jk18_6 true mq2 hf hF
