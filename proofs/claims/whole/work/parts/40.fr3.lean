set_option maxHeartbeats 4000000 in
theorem fr_M_hold (a1 : Int32) (m0 : Mem) (v : Int32) (m' : Mem) (hF : F_M_hold a1 m0 = some (v, m')) : Fr [79, 82, 85] [(78, 0), (78, 6)] m0 m' := by
  unfold F_M_hold at hF
  have hf : Fr [79, 82, 85] [(78, 0), (78, 6)] m0 m0 := Fr_rf
  obtain ⟨mq1, emq1, hF⟩ := lt_ex hF
  have hf := Fr_sI emq1 hf (Or.inr (by decide))
  obtain ⟨zq4, mq2, hz, hF⟩ := bnd_ex hF
  have hf := Fr_tr hf (fr_M_noSlot a1 mq1 _ _ hz) (by decide) (by decide)
  obtain ⟨zq7, mq5, hz, hF⟩ := bnd_ex hF
  have hf := Fr_tr hf (fr_M_throwsIf zq4 (1 : Int32) mq2 _ _ hz) (by decide) (by decide)
  rcases if_ex hF with hF | hF
  · cases hF
    exact hf
  · obtain ⟨zq10, mq8, hz, hF⟩ := bnd_ex hF
    have hf := Fr_tr hf (fr_M_canHold mq5 _ _ hz) (by decide) (by decide)
    obtain ⟨k30_12, ek30_12, hF⟩ := lt_ex hF
    have Jk30_12 : ∀ (zq12 : Bool) (mq11 : Mem), Fr [79, 82, 85] [(78, 0), (78, 6)] m0 mq11 → k30_12 zq12 mq11 = some (v, m') → Fr [79, 82, 85] [(78, 0), (78, 6)] m0 m' := by
      intro zq12 mq11 hf hF
      rw [ek30_12] at hF
      obtain ⟨zq15, mq13, hz, hF⟩ := bnd_ex hF
      have hf := Fr_tr hf (fr_M_throwsIf zq12 (2 : Int32) mq11 _ _ hz) (by decide) (by decide)
      rcases if_ex hF with hF | hF
      · cases hF
        exact hf
      · obtain ⟨u_, mq16, hz, hF⟩ := bnd_ex hF
        have hf := Fr_tr hf (fr_M_remembers mq13 _ _ hz) (by decide) (by decide)
        obtain ⟨xq21, mq19, hz, hF⟩ := bnd_ex hF
        have hf := Fr_tr hf (fr_M_plays a1 true mq16 _ _ hz) (by decide) (by decide)
        cases hF
        exact hf
    rcases if_ex hF with hF | hF
    · exact Jk30_12 false mq8 hf hF
    · exact Jk30_12 true mq8 hf hF
set_option maxHeartbeats 4000000 in
theorem fr_M_holds (a1 : Int32) (a2 : Bool) (a3 : Int32) (a4 : Int32) (m0 : Mem) (v : Bool) (m' : Mem) (hF : F_M_holds a1 a2 a3 a4 m0 = some (v, m')) : Fr [85, 86, 87, 88] [(78, 0), (78, 20), (78, 21), (78, 23), (78, 24)] m0 m' := by
  unfold F_M_holds at hF
  have hf : Fr [85, 86, 87, 88] [(78, 0), (78, 20), (78, 21), (78, 23), (78, 24)] m0 m0 := Fr_rf
  obtain ⟨mq1, emq1, hF⟩ := lt_ex hF
  have hf := Fr_sI emq1 hf (Or.inr (by decide))
  obtain ⟨zq4, mq2, hz, hF⟩ := bnd_ex hF
  have hf := Fr_tr hf (fr_M_noPlayed a1 mq1 _ _ hz) (by decide) (by decide)
  obtain ⟨zq7, mq5, hz, hF⟩ := bnd_ex hF
  have hf := Fr_tr hf (fr_M_throwsIf zq4 (1 : Int32) mq2 _ _ hz) (by decide) (by decide)
  rcases if_ex hF with hF | hF
  · cases hF
    exact hf
  · obtain ⟨zq10, mq8, hz, hF⟩ := bnd_ex hF
    have hf := Fr_tr hf (fr_M_noState a3 a4 mq5 _ _ hz) (by decide) (by decide)
    obtain ⟨zq13, mq11, hz, hF⟩ := bnd_ex hF
    have hf := Fr_tr hf (fr_M_throwsIf zq10 (2 : Int32) mq8 _ _ hz) (by decide) (by decide)
    rcases if_ex hF with hF | hF
    · cases hF
      exact hf
    · obtain ⟨xq16, mq14, hz, hF⟩ := bnd_ex hF
      have hf := Fr_tr hf (fr_M_size mq11 _ _ hz) (by decide) (by decide)
      rcases if_ex hF with hF | hF
      · cases hF
        exact hf
      · obtain ⟨u_, mq17, hz, hF⟩ := bnd_ex hF
        have hf := Fr_tr hf (fr_M_countsFrom a1 a3 mq14 _ _ hz) (by decide) (by decide)
        obtain ⟨xq22, mq20, hz, hF⟩ := bnd_ex hF
        have hf := Fr_tr hf (fr_M_kindOf (3 : Int32) a2 mq17 _ _ hz) (by decide) (by decide)
        obtain ⟨zq25, mq23, hz, hF⟩ := bnd_ex hF
        have hf := Fr_tr hf (fr_M_isChosen a1 xq22 a4 a3 mq20 _ _ hz) (by decide) (by decide)
        cases hF
        exact hf
set_option maxHeartbeats 4000000 in
theorem fr_M_image_L7 (k32_2 : Mem → Option (Unit × Mem)) (mB : Mem) (v : Unit) (m' : Mem) (Jk32_2 : ∀ (b0 : Mem), Fr [80] [(78, 0), (78, 5)] mB b0 → k32_2 b0 = some (v, m') → Fr [80] [(78, 0), (78, 5)] mB m') : ∀ (nf : Nat) (xq5 : Int32) (mq4 : Mem), Fr [80] [(78, 0), (78, 5)] mB mq4 → F_M_image_L7 k32_2 nf xq5 mq4 = some (v, m') → Fr [80] [(78, 0), (78, 5)] mB m' := by
  intro nf
  induction nf with
  | zero =>
    intro xq5 mq4 hf hF
    rw [F_M_image_L7] at hF
    cases hF
  | succ nfq6 ih =>
    intro xq5 mq4 hf hF
    rw [F_M_image_L7] at hF
    rcases if_ex hF with hF | hF
    · exact Jk32_2 mq4 hf hF
    · obtain ⟨-, hF⟩ := ckB_ex hF
      obtain ⟨xq9, exq9, hF⟩ := lt_ex hF
      obtain ⟨-, hF⟩ := ckB_ex hF
      obtain ⟨mq10, emq10, hF⟩ := lt_ex hF
      have hf := Fr_sI emq10 hf (Or.inl (by decide))
      obtain ⟨xq12, exq12, hF⟩ := lt_ex hF
      exact ih xq12 mq10 hf hF
set_option maxHeartbeats 4000000 in
theorem fr_M_image (m0 : Mem) (v : Unit) (m' : Mem) (hF : F_M_image m0 = some (v, m')) : Fr [80] [(78, 0), (78, 5)] m0 m' := by
  unfold F_M_image at hF
  have hf : Fr [80] [(78, 0), (78, 5)] m0 m0 := Fr_rf
  obtain ⟨mq1, emq1, hF⟩ := lt_ex hF
  have hf := Fr_sI emq1 hf (Or.inr (by decide))
  obtain ⟨k32_2, ek32_2, hF⟩ := lt_ex hF
  have Jk32_2 : ∀ (mq2 : Mem), Fr [80] [(78, 0), (78, 5)] m0 mq2 → k32_2 mq2 = some (v, m') → Fr [80] [(78, 0), (78, 5)] m0 m' := by
    intro mq2 hf hF
    rw [ek32_2] at hF
    obtain ⟨mq3, emq3, hF⟩ := lt_ex hF
    have hf := Fr_sZ emq3 hf (Or.inr (by decide))
    cases hF
    exact hf
  exact fr_M_image_L7 k32_2 m0 _ _ Jk32_2 1000000 (0 : Int32) mq1 hf hF
set_option maxHeartbeats 4000000 in
theorem fr_M_law_L52 (k85_13 : Mem → Option (Int32 × Mem)) (mB : Mem) (v : Int32) (m' : Mem) (Jk85_13 : ∀ (b0 : Mem), Fr [79] [(78, 0), (78, 6), (78, 8), (78, 9), (78, 10), (78, 11), (78, 12), (78, 13), (78, 15)] mB b0 → k85_13 b0 = some (v, m') → Fr [79] [(78, 0), (78, 6), (78, 8), (78, 9), (78, 10), (78, 11), (78, 12), (78, 13), (78, 15)] mB m') : ∀ (nf : Nat) (xq17 : Int32) (mq16 : Mem), Fr [79] [(78, 0), (78, 6), (78, 8), (78, 9), (78, 10), (78, 11), (78, 12), (78, 13), (78, 15)] mB mq16 → F_M_law_L52 k85_13 nf xq17 mq16 = some (v, m') → Fr [79] [(78, 0), (78, 6), (78, 8), (78, 9), (78, 10), (78, 11), (78, 12), (78, 13), (78, 15)] mB m' := by
  intro nf
  induction nf with
  | zero =>
    intro xq17 mq16 hf hF
    rw [F_M_law_L52] at hF
    cases hF
  | succ nfq18 ih =>
    intro xq17 mq16 hf hF
    rw [F_M_law_L52] at hF
    rcases if_ex hF with hF | hF
    · exact Jk85_13 mq16 hf hF
    · obtain ⟨-, hF⟩ := ckB_ex hF
      obtain ⟨xq21, exq21, hF⟩ := lt_ex hF
      obtain ⟨-, hF⟩ := ckB_ex hF
      obtain ⟨mq22, emq22, hF⟩ := lt_ex hF
      have hf := Fr_sI emq22 hf (Or.inl (by decide))
      obtain ⟨xq24, exq24, hF⟩ := lt_ex hF
      exact ih xq24 mq22 hf hF
set_option maxHeartbeats 4000000 in
theorem fr_M_law (m0 : Mem) (v : Int32) (m' : Mem) (hF : F_M_law m0 = some (v, m')) : Fr [79] [(78, 0), (78, 6), (78, 8), (78, 9), (78, 10), (78, 11), (78, 12), (78, 13), (78, 15)] m0 m' := by
  unfold F_M_law at hF
  have hf : Fr [79] [(78, 0), (78, 6), (78, 8), (78, 9), (78, 10), (78, 11), (78, 12), (78, 13), (78, 15)] m0 m0 := Fr_rf
  obtain ⟨xq3, mq1, hz, hF⟩ := bnd_ex hF
  have hf := Fr_tr hf (fr_M_readAll false m0 _ _ hz) (by decide) (by decide)
  obtain ⟨k19_5, ek19_5, hF⟩ := lt_ex hF
  have Jk19_5 : ∀ (xq5 : Int32) (mq4 : Mem), Fr [79] [(78, 0), (78, 6), (78, 8), (78, 9), (78, 10), (78, 11), (78, 12), (78, 13), (78, 15)] m0 mq4 → k19_5 xq5 mq4 = some (v, m') → Fr [79] [(78, 0), (78, 6), (78, 8), (78, 9), (78, 10), (78, 11), (78, 12), (78, 13), (78, 15)] m0 m' := by
    intro xq5 mq4 hf hF
    rw [ek19_5] at hF
    obtain ⟨mq6, emq6, hF⟩ := lt_ex hF
    have hf := Fr_sI emq6 hf (Or.inr (by decide))
    obtain ⟨k32_8, ek32_8, hF⟩ := lt_ex hF
    have Jk32_8 : ∀ (zq8 : Bool) (mq7 : Mem), Fr [79] [(78, 0), (78, 6), (78, 8), (78, 9), (78, 10), (78, 11), (78, 12), (78, 13), (78, 15)] m0 mq7 → k32_8 zq8 mq7 = some (v, m') → Fr [79] [(78, 0), (78, 6), (78, 8), (78, 9), (78, 10), (78, 11), (78, 12), (78, 13), (78, 15)] m0 m' := by
      intro zq8 mq7 hf hF
      rw [ek32_8] at hF
      obtain ⟨zq11, mq9, hz, hF⟩ := bnd_ex hF
      have hf := Fr_tr hf (fr_M_throwsIf zq8 (1 : Int32) mq7 _ _ hz) (by decide) (by decide)
      rcases if_ex hF with hF | hF
      · cases hF
        exact hf
      · obtain ⟨mq12, emq12, hF⟩ := lt_ex hF
        have hf := Fr_sI emq12 hf (Or.inl (by decide))
        obtain ⟨k85_13, ek85_13, hF⟩ := lt_ex hF
        have Jk85_13 : ∀ (mq13 : Mem), Fr [79] [(78, 0), (78, 6), (78, 8), (78, 9), (78, 10), (78, 11), (78, 12), (78, 13), (78, 15)] m0 mq13 → k85_13 mq13 = some (v, m') → Fr [79] [(78, 0), (78, 6), (78, 8), (78, 9), (78, 10), (78, 11), (78, 12), (78, 13), (78, 15)] m0 m' := by
          intro mq13 hf hF
          rw [ek85_13] at hF
          obtain ⟨mq14, emq14, hF⟩ := lt_ex hF
          have hf := Fr_sI emq14 hf (Or.inl (by decide))
          obtain ⟨mq15, emq15, hF⟩ := lt_ex hF
          have hf := Fr_sI emq15 hf (Or.inr (by decide))
          cases hF
          exact hf
        exact fr_M_law_L52 k85_13 m0 _ _ Jk85_13 1000000 (0 : Int32) mq12 hf hF
    rcases if_ex hF with hF | hF
    · exact Jk32_8 false mq6 hf hF
    · exact Jk32_8 true mq6 hf hF
  rcases if_ex hF with hF | hF
  · exact Jk19_5 (-1 : Int32) mq1 hf hF
  · exact Jk19_5 (gI mq1 78 11) mq1 hf hF
set_option maxHeartbeats 4000000 in
theorem fr_M_noSession (a1 : Int32) (m0 : Mem) (v : Bool) (m' : Mem) (hF : F_M_noSession a1 m0 = some (v, m')) : Fr [] [] m0 m' := by
  unfold F_M_noSession at hF
  have hf : Fr [] [] m0 m0 := Fr_rf
  obtain ⟨xq3, mq1, hz, hF⟩ := bnd_ex hF
  have hf := Fr_tr hf (fr_M_size m0 _ _ hz) (by decide) (by decide)
  obtain ⟨zq6, mq4, hz, hF⟩ := bnd_ex hF
  have hf := Fr_tr hf (fr_M_in a1 (0 : Int32) (xq3 - (1 : Int32)) mq1 _ _ hz) (by decide) (by decide)
  rcases if_ex hF with hF | hF
  · cases hF
    exact hf
  · cases hF
    exact hf
set_option maxHeartbeats 4000000 in
theorem fr_M_level (a1 : Int32) (a2 : Int32) (a3 : Int32) (m0 : Mem) (v : Int32) (m' : Mem) (hF : F_M_level a1 a2 a3 m0 = some (v, m')) : Fr [85] [(78, 0)] m0 m' := by
  unfold F_M_level at hF
  have hf : Fr [85] [(78, 0)] m0 m0 := Fr_rf
  obtain ⟨mq1, emq1, hF⟩ := lt_ex hF
  have hf := Fr_sI emq1 hf (Or.inr (by decide))
  obtain ⟨zq4, mq2, hz, hF⟩ := bnd_ex hF
  have hf := Fr_tr hf (fr_M_noSession a1 mq1 _ _ hz) (by decide) (by decide)
  obtain ⟨k33_6, ek33_6, hF⟩ := lt_ex hF
  have Jk33_6 : ∀ (zq6 : Bool) (mq5 : Mem), Fr [85] [(78, 0)] m0 mq5 → k33_6 zq6 mq5 = some (v, m') → Fr [85] [(78, 0)] m0 m' := by
    intro zq6 mq5 hf hF
    rw [ek33_6] at hF
    obtain ⟨zq9, mq7, hz, hF⟩ := bnd_ex hF
    have hf := Fr_tr hf (fr_M_throwsIf zq6 (1 : Int32) mq5 _ _ hz) (by decide) (by decide)
    rcases if_ex hF with hF | hF
    · cases hF
      exact hf
    · obtain ⟨xq12, mq10, hz, hF⟩ := bnd_ex hF
      have hf := Fr_tr hf (fr_M_levelOf a1 a2 a3 mq7 _ _ hz) (by decide) (by decide)
      cases hF
      exact hf
  obtain ⟨k28_13, ek28_13, hF⟩ := lt_ex hF
  have Jk28_13 : ∀ (mq13 : Mem), Fr [85] [(78, 0)] m0 mq13 → k28_13 mq13 = some (v, m') → Fr [85] [(78, 0)] m0 m' := by
    intro mq13 hf hF
    rw [ek28_13] at hF
    exact Jk33_6 true mq13 hf hF
  rcases if_ex hF with hF | hF
  · exact Jk28_13 mq2 hf hF
  · obtain ⟨zq16, mq14, hz, hF⟩ := bnd_ex hF
    have hf := Fr_tr hf (fr_M_noInnings a2 mq2 _ _ hz) (by decide) (by decide)
    rcases if_ex hF with hF | hF
    · exact Jk28_13 mq14 hf hF
    · obtain ⟨zq19, mq17, hz, hF⟩ := bnd_ex hF
      have hf := Fr_tr hf (fr_M_noSide a3 mq14 _ _ hz) (by decide) (by decide)
      rcases if_ex hF with hF | hF
      · exact Jk28_13 mq17 hf hF
      · exact Jk33_6 false mq17 hf hF
set_option maxHeartbeats 4000000 in
theorem fr_M_line_L69 (a1 : Int32) (a2 : Int32) (a3 : Bool) (a4 : Int32) (a5 : Int32) (k115_20 : Int32 → Mem → Option (Int32 × Mem)) (mB : Mem) (v : Int32) (m' : Mem) (Jk115_20 : ∀ (b0 : Int32) (b1 : Mem), Fr [85, 86, 87, 88] [(78, 0), (78, 20), (78, 21), (78, 23), (78, 24)] mB b1 → k115_20 b0 b1 = some (v, m') → Fr [85, 86, 87, 88] [(78, 0), (78, 20), (78, 21), (78, 23), (78, 24)] mB m') : ∀ (nf : Nat) (xq22 : Int32) (mq21 : Mem), Fr [85, 86, 87, 88] [(78, 0), (78, 20), (78, 21), (78, 23), (78, 24)] mB mq21 → F_M_line_L69 a1 a2 a3 a4 a5 k115_20 nf xq22 mq21 = some (v, m') → Fr [85, 86, 87, 88] [(78, 0), (78, 20), (78, 21), (78, 23), (78, 24)] mB m' := by
  intro nf
  induction nf with
  | zero =>
    intro xq22 mq21 hf hF
    rw [F_M_line_L69] at hF
    cases hF
  | succ nfq23 ih =>
    intro xq22 mq21 hf hF
    rw [F_M_line_L69] at hF
    rcases if_ex hF with hF | hF
    · cases hF
      exact hf
    · obtain ⟨mq25, emq25, hF⟩ := lt_ex hF
      have hf := Fr_sI emq25 hf (Or.inr (by decide))
      obtain ⟨u_, mq26, hz, hF⟩ := bnd_ex hF
      have hf := Fr_tr hf (fr_M_layers (0 : Int32) a1 (abI a4) mq25 _ _ hz) (by decide) (by decide)
      obtain ⟨u_, mq29, hz, hF⟩ := bnd_ex hF
      have hf := Fr_tr hf (fr_M_laysLevels a1 mq26 _ _ hz) (by decide) (by decide)
      obtain ⟨xq34, mq32, hz, hF⟩ := bnd_ex hF
      have hf := Fr_tr hf (fr_M_kindOf a2 a3 mq29 _ _ hz) (by decide) (by decide)
      obtain ⟨zq37, mq35, hz, hF⟩ := bnd_ex hF
      have hf := Fr_tr hf (fr_M_isChosen a1 xq34 a5 a4 mq32 _ _ hz) (by decide) (by decide)
      rcases if_ex hF with hF | hF
      · obtain ⟨xq38, exq38, hF⟩ := lt_ex hF
        exact ih xq38 mq35 hf hF
      · exact Jk115_20 xq22 mq35 hf hF
set_option maxHeartbeats 4000000 in
theorem fr_M_line (a1 : Int32) (a2 : Int32) (a3 : Bool) (a4 : Int32) (a5 : Int32) (m0 : Mem) (v : Int32) (m' : Mem) (hF : F_M_line a1 a2 a3 a4 a5 m0 = some (v, m')) : Fr [85, 86, 87, 88] [(78, 0), (78, 20), (78, 21), (78, 23), (78, 24)] m0 m' := by
  unfold F_M_line at hF
  have hf : Fr [85, 86, 87, 88] [(78, 0), (78, 20), (78, 21), (78, 23), (78, 24)] m0 m0 := Fr_rf
  obtain ⟨mq1, emq1, hF⟩ := lt_ex hF
  have hf := Fr_sI emq1 hf (Or.inr (by decide))
  obtain ⟨zq4, mq2, hz, hF⟩ := bnd_ex hF
  have hf := Fr_tr hf (fr_M_noPlayed a1 mq1 _ _ hz) (by decide) (by decide)
  obtain ⟨k26_6, ek26_6, hF⟩ := lt_ex hF
  have Jk26_6 : ∀ (zq6 : Bool) (mq5 : Mem), Fr [85, 86, 87, 88] [(78, 0), (78, 20), (78, 21), (78, 23), (78, 24)] m0 mq5 → k26_6 zq6 mq5 = some (v, m') → Fr [85, 86, 87, 88] [(78, 0), (78, 20), (78, 21), (78, 23), (78, 24)] m0 m' := by
    intro zq6 mq5 hf hF
    rw [ek26_6] at hF
    obtain ⟨zq9, mq7, hz, hF⟩ := bnd_ex hF
    have hf := Fr_tr hf (fr_M_throwsIf zq6 (1 : Int32) mq5 _ _ hz) (by decide) (by decide)
    rcases if_ex hF with hF | hF
    · cases hF
      exact hf
    · obtain ⟨zq12, mq10, hz, hF⟩ := bnd_ex hF
      have hf := Fr_tr hf (fr_M_noState a4 a5 mq7 _ _ hz) (by decide) (by decide)
      obtain ⟨zq15, mq13, hz, hF⟩ := bnd_ex hF
      have hf := Fr_tr hf (fr_M_throwsIf zq12 (2 : Int32) mq10 _ _ hz) (by decide) (by decide)
      rcases if_ex hF with hF | hF
      · cases hF
        exact hf
      · rcases if_ex hF with hF | hF
        · cases hF
          exact hf
        · obtain ⟨xq18, mq16, hz, hF⟩ := bnd_ex hF
          have hf := Fr_tr hf (fr_M_size mq13 _ _ hz) (by decide) (by decide)
          rcases if_ex hF with hF | hF
          · cases hF
            exact hf
          · obtain ⟨k115_20, ek115_20, hF⟩ := lt_ex hF
            have Jk115_20 : ∀ (xq20 : Int32) (mq19 : Mem), Fr [85, 86, 87, 88] [(78, 0), (78, 20), (78, 21), (78, 23), (78, 24)] m0 mq19 → k115_20 xq20 mq19 = some (v, m') → Fr [85, 86, 87, 88] [(78, 0), (78, 20), (78, 21), (78, 23), (78, 24)] m0 m' := by
              intro xq20 mq19 hf hF
              rw [ek115_20] at hF
              rcases if_ex hF with hF | hF
              · cases hF
                exact hf
              · cases hF
                exact hf
            exact fr_M_line_L69 a1 a2 a3 a4 a5 k115_20 m0 _ _ Jk115_20 1000000 (0 : Int32) mq16 hf hF
  obtain ⟨k21_39, ek21_39, hF⟩ := lt_ex hF
  have Jk21_39 : ∀ (mq39 : Mem), Fr [85, 86, 87, 88] [(78, 0), (78, 20), (78, 21), (78, 23), (78, 24)] m0 mq39 → k21_39 mq39 = some (v, m') → Fr [85, 86, 87, 88] [(78, 0), (78, 20), (78, 21), (78, 23), (78, 24)] m0 m' := by
    intro mq39 hf hF
    rw [ek21_39] at hF
    exact Jk26_6 true mq39 hf hF
  rcases if_ex hF with hF | hF
  · exact Jk21_39 mq2 hf hF
  · obtain ⟨zq42, mq40, hz, hF⟩ := bnd_ex hF
    have hf := Fr_tr hf (fr_M_noInnings a2 mq2 _ _ hz) (by decide) (by decide)
    rcases if_ex hF with hF | hF
    · exact Jk21_39 mq40 hf hF
    · exact Jk26_6 false mq40 hf hF
set_option maxHeartbeats 4000000 in
theorem fr_M_log (a1 : Int32) (a2 : Int32) (m0 : Mem) (v : Int32) (m' : Mem) (hF : F_M_log a1 a2 m0 = some (v, m')) : Fr [] [(78, 0)] m0 m' := by
  unfold F_M_log at hF
  have hf : Fr [] [(78, 0)] m0 m0 := Fr_rf
  obtain ⟨mq1, emq1, hF⟩ := lt_ex hF
  have hf := Fr_sI emq1 hf (Or.inr (by decide))
  obtain ⟨zq4, mq2, hz, hF⟩ := bnd_ex hF
  have hf := Fr_tr hf (fr_M_in a2 (0 : Int32) (6 : Int32) mq1 _ _ hz) (by decide) (by decide)
  obtain ⟨k21_6, ek21_6, hF⟩ := lt_ex hF
  have Jk21_6 : ∀ (zq6 : Bool) (mq5 : Mem), Fr [] [(78, 0)] m0 mq5 → k21_6 zq6 mq5 = some (v, m') → Fr [] [(78, 0)] m0 m' := by
    intro zq6 mq5 hf hF
    rw [ek21_6] at hF
    obtain ⟨zq9, mq7, hz, hF⟩ := bnd_ex hF
    have hf := Fr_tr hf (fr_M_throwsIf zq6 (1 : Int32) mq5 _ _ hz) (by decide) (by decide)
    rcases if_ex hF with hF | hF
    · cases hF
      exact hf
    · obtain ⟨xq12, mq10, hz, hF⟩ := bnd_ex hF
      have hf := Fr_tr hf (fr_M_played mq7 _ _ hz) (by decide) (by decide)
      obtain ⟨zq15, mq13, hz, hF⟩ := bnd_ex hF
      have hf := Fr_tr hf (fr_M_in a1 (0 : Int32) (xq12 - (1 : Int32)) mq10 _ _ hz) (by decide) (by decide)
      rcases if_ex hF with hF | hF
      · obtain ⟨xq18, mq16, hz, hF⟩ := bnd_ex hF
        have hf := Fr_tr hf (fr_M_ofLog a1 a2 mq13 _ _ hz) (by decide) (by decide)
        cases hF
        exact hf
      · cases hF
        exact hf
  rcases if_ex hF with hF | hF
  · exact Jk21_6 false mq2 hf hF
  · exact Jk21_6 true mq2 hf hF
set_option maxHeartbeats 4000000 in
theorem fr_M_match (a1 : Int32) (m0 : Mem) (v : Int32) (m' : Mem) (hF : F_M_match a1 m0 = some (v, m')) : Fr [] [(78, 0)] m0 m' := by
  unfold F_M_match at hF
  have hf : Fr [] [(78, 0)] m0 m0 := Fr_rf
  obtain ⟨mq1, emq1, hF⟩ := lt_ex hF
  have hf := Fr_sI emq1 hf (Or.inr (by decide))
  obtain ⟨zq4, mq2, hz, hF⟩ := bnd_ex hF
  have hf := Fr_tr hf (fr_M_in a1 (0 : Int32) (10 : Int32) mq1 _ _ hz) (by decide) (by decide)
  obtain ⟨k21_6, ek21_6, hF⟩ := lt_ex hF
  have Jk21_6 : ∀ (zq6 : Bool) (mq5 : Mem), Fr [] [(78, 0)] m0 mq5 → k21_6 zq6 mq5 = some (v, m') → Fr [] [(78, 0)] m0 m' := by
    intro zq6 mq5 hf hF
    rw [ek21_6] at hF
    obtain ⟨zq9, mq7, hz, hF⟩ := bnd_ex hF
    have hf := Fr_tr hf (fr_M_throwsIf zq6 (1 : Int32) mq5 _ _ hz) (by decide) (by decide)
    rcases if_ex hF with hF | hF
    · cases hF
      exact hf
    · rcases if_ex hF with hF | hF
      · obtain ⟨xq12, mq10, hz, hF⟩ := bnd_ex hF
        have hf := Fr_tr hf (fr_M_firstSide mq7 _ _ hz) (by decide) (by decide)
        cases hF
        exact hf
      · rcases if_ex hF with hF | hF
        · cases hF
          exact hf
        · rcases if_ex hF with hF | hF
          · cases hF
            exact hf
          · rcases if_ex hF with hF | hF
            · cases hF
              exact hf
            · rcases if_ex hF with hF | hF
              · cases hF
                exact hf
              · rcases if_ex hF with hF | hF
                · obtain ⟨zq15, mq13, hz, hF⟩ := bnd_ex hF
                  have hf := Fr_tr hf (fr_M_isOn mq7 _ _ hz) (by decide) (by decide)
                  rcases if_ex hF with hF | hF
                  · obtain ⟨xq18, mq16, hz, hF⟩ := bnd_ex hF
                    have hf := Fr_tr hf (fr_M_batter mq13 _ _ hz) (by decide) (by decide)
                    cases hF
                    exact hf
                  · cases hF
                    exact hf
                · rcases if_ex hF with hF | hF
                  · obtain ⟨xq21, mq19, hz, hF⟩ := bnd_ex hF
                    have hf := Fr_tr hf (fr_M_played mq7 _ _ hz) (by decide) (by decide)
                    cases hF
                    exact hf
                  · rcases if_ex hF with hF | hF
                    · cases hF
                      exact hf
                    · rcases if_ex hF with hF | hF
                      · cases hF
                        exact hf
                      · rcases if_ex hF with hF | hF
                        · obtain ⟨zq24, mq22, hz, hF⟩ := bnd_ex hF
                          have hf := Fr_tr hf (fr_M_canFollow mq7 _ _ hz) (by decide) (by decide)
                          rcases if_ex hF with hF | hF
                          · cases hF
                            exact hf
                          · cases hF
                            exact hf
                        · cases hF
                          exact hf
  rcases if_ex hF with hF | hF
  · exact Jk21_6 false mq2 hf hF
  · exact Jk21_6 true mq2 hf hF
set_option maxHeartbeats 4000000 in
theorem fr_M_draw (a1 : Int32) (m0 : Mem) (v : Int32) (m' : Mem) (hF : F_M_draw a1 m0 = some (v, m')) : Fr [79] [] m0 m' := by
  unfold F_M_draw at hF
  have hf : Fr [79] [] m0 m0 := Fr_rf
  obtain ⟨xq1, exq1, hF⟩ := lt_ex hF
  obtain ⟨mq2, emq2, hF⟩ := lt_ex hF
  have hf := Fr_sI emq2 hf (Or.inl (by decide))
  obtain ⟨xq3, exq3, hF⟩ := lt_ex hF
  obtain ⟨-, hF⟩ := ckB_ex hF
  cases hF
  exact hf
set_option maxHeartbeats 4000000 in
theorem fr_M_play (m0 : Mem) (v : Int32) (m' : Mem) (hF : F_M_play m0 = some (v, m')) : Fr [79, 82, 85] [(78, 0), (78, 6)] m0 m' := by
  unfold F_M_play at hF
  have hf : Fr [79, 82, 85] [(78, 0), (78, 6)] m0 m0 := Fr_rf
  obtain ⟨mq1, emq1, hF⟩ := lt_ex hF
  have hf := Fr_sI emq1 hf (Or.inr (by decide))
  obtain ⟨zq4, mq2, hz, hF⟩ := bnd_ex hF
  have hf := Fr_tr hf (fr_M_isOn mq1 _ _ hz) (by decide) (by decide)
  obtain ⟨k18_6, ek18_6, hF⟩ := lt_ex hF
  have Jk18_6 : ∀ (zq6 : Bool) (mq5 : Mem), Fr [79, 82, 85] [(78, 0), (78, 6)] m0 mq5 → k18_6 zq6 mq5 = some (v, m') → Fr [79, 82, 85] [(78, 0), (78, 6)] m0 m' := by
    intro zq6 mq5 hf hF
    rw [ek18_6] at hF
    obtain ⟨zq9, mq7, hz, hF⟩ := bnd_ex hF
    have hf := Fr_tr hf (fr_M_throwsIf zq6 (1 : Int32) mq5 _ _ hz) (by decide) (by decide)
    rcases if_ex hF with hF | hF
    · cases hF
      exact hf
    · obtain ⟨u_, mq10, hz, hF⟩ := bnd_ex hF
      have hf := Fr_tr hf (fr_M_remembers mq7 _ _ hz) (by decide) (by decide)
      obtain ⟨xq15, mq13, hz, hF⟩ := bnd_ex hF
      have hf := Fr_tr hf (fr_M_draw (4 : Int32) mq10 _ _ hz) (by decide) (by decide)
      obtain ⟨xq18, mq16, hz, hF⟩ := bnd_ex hF
      have hf := Fr_tr hf (fr_M_plays xq15 false mq13 _ _ hz) (by decide) (by decide)
      cases hF
      exact hf
  rcases if_ex hF with hF | hF
  · exact Jk18_6 false mq2 hf hF
  · exact Jk18_6 true mq2 hf hF
set_option maxHeartbeats 4000000 in
theorem fr_M_seed (a1 : Int32) (m0 : Mem) (v : Int32) (m' : Mem) (hF : F_M_seed a1 m0 = some (v, m')) : Fr [79] [(78, 0)] m0 m' := by
  unfold F_M_seed at hF
  have hf : Fr [79] [(78, 0)] m0 m0 := Fr_rf
  obtain ⟨mq1, emq1, hF⟩ := lt_ex hF
  have hf := Fr_sI emq1 hf (Or.inr (by decide))
  obtain ⟨xq2, exq2, hF⟩ := lt_ex hF
  obtain ⟨mq3, emq3, hF⟩ := lt_ex hF
  have hf := Fr_sI emq3 hf (Or.inl (by decide))
  cases hF
  exact hf
set_option maxHeartbeats 4000000 in
theorem fr_M_session (a1 : Int32) (a2 : Int32) (m0 : Mem) (v : Int32) (m' : Mem) (hF : F_M_session a1 a2 m0 = some (v, m')) : Fr [] [(78, 0)] m0 m' := by
  unfold F_M_session at hF
  have hf : Fr [] [(78, 0)] m0 m0 := Fr_rf
  obtain ⟨mq1, emq1, hF⟩ := lt_ex hF
  have hf := Fr_sI emq1 hf (Or.inr (by decide))
  obtain ⟨zq4, mq2, hz, hF⟩ := bnd_ex hF
  have hf := Fr_tr hf (fr_M_noSession a1 mq1 _ _ hz) (by decide) (by decide)
  obtain ⟨zq7, mq5, hz, hF⟩ := bnd_ex hF
  have hf := Fr_tr hf (fr_M_throwsIf zq4 (1 : Int32) mq2 _ _ hz) (by decide) (by decide)
  rcases if_ex hF with hF | hF
  · cases hF
    exact hf
  · obtain ⟨zq10, mq8, hz, hF⟩ := bnd_ex hF
    have hf := Fr_tr hf (fr_M_in a2 (0 : Int32) (3 : Int32) mq5 _ _ hz) (by decide) (by decide)
    obtain ⟨k33_12, ek33_12, hF⟩ := lt_ex hF
    have Jk33_12 : ∀ (zq12 : Bool) (mq11 : Mem), Fr [] [(78, 0)] m0 mq11 → k33_12 zq12 mq11 = some (v, m') → Fr [] [(78, 0)] m0 m' := by
      intro zq12 mq11 hf hF
      rw [ek33_12] at hF
      obtain ⟨zq15, mq13, hz, hF⟩ := bnd_ex hF
      have hf := Fr_tr hf (fr_M_throwsIf zq12 (2 : Int32) mq11 _ _ hz) (by decide) (by decide)
      rcases if_ex hF with hF | hF
      · cases hF
        exact hf
      · rcases if_ex hF with hF | hF
        · cases hF
          exact hf
        · obtain ⟨-, hF⟩ := ckB_ex hF
          obtain ⟨xq17, exq17, hF⟩ := lt_ex hF
          cases hF
          exact hf
    rcases if_ex hF with hF | hF
    · exact Jk33_12 false mq8 hf hF
    · exact Jk33_12 true mq8 hf hF
set_option maxHeartbeats 4000000 in
theorem fr_M_share (a1 : Int32) (a2 : Int32) (m0 : Mem) (v : Int32) (m' : Mem) (hF : F_M_share a1 a2 m0 = some (v, m')) : Fr [] [(78, 0)] m0 m' := by
  unfold F_M_share at hF
  have hf : Fr [] [(78, 0)] m0 m0 := Fr_rf
  obtain ⟨mq1, emq1, hF⟩ := lt_ex hF
  have hf := Fr_sI emq1 hf (Or.inr (by decide))
  obtain ⟨zq4, mq2, hz, hF⟩ := bnd_ex hF
  have hf := Fr_tr hf (fr_M_in a1 (0 : Int32) (5 : Int32) mq1 _ _ hz) (by decide) (by decide)
  obtain ⟨k29_6, ek29_6, hF⟩ := lt_ex hF
  have Jk29_6 : ∀ (zq6 : Bool) (mq5 : Mem), Fr [] [(78, 0)] m0 mq5 → k29_6 zq6 mq5 = some (v, m') → Fr [] [(78, 0)] m0 m' := by
    intro zq6 mq5 hf hF
    rw [ek29_6] at hF
    obtain ⟨zq9, mq7, hz, hF⟩ := bnd_ex hF
    have hf := Fr_tr hf (fr_M_throwsIf zq6 (1 : Int32) mq5 _ _ hz) (by decide) (by decide)
    rcases if_ex hF with hF | hF
    · cases hF
      exact hf
    · obtain ⟨xq12, mq10, hz, hF⟩ := bnd_ex hF
      have hf := Fr_tr hf (fr_M_bookOf a2 mq7 _ _ hz) (by decide) (by decide)
      rcases if_ex hF with hF | hF
      · cases hF
        exact hf
      · obtain ⟨xq15, mq13, hz, hF⟩ := bnd_ex hF
        have hf := Fr_tr hf (fr_M_bookOf a1 mq10 _ _ hz) (by decide) (by decide)
        obtain ⟨xq18, mq16, hz, hF⟩ := bnd_ex hF
        have hf := Fr_tr hf (fr_M_bookOf a2 mq13 _ _ hz) (by decide) (by decide)
        obtain ⟨-, hF⟩ := ckB_ex hF
        cases hF
        exact hf
  obtain ⟨k24_20, ek24_20, hF⟩ := lt_ex hF
  have Jk24_20 : ∀ (mq20 : Mem), Fr [] [(78, 0)] m0 mq20 → k24_20 mq20 = some (v, m') → Fr [] [(78, 0)] m0 m' := by
    intro mq20 hf hF
    rw [ek24_20] at hF
    exact Jk29_6 true mq20 hf hF
  rcases if_ex hF with hF | hF
  · obtain ⟨zq23, mq21, hz, hF⟩ := bnd_ex hF
    have hf := Fr_tr hf (fr_M_in a2 (0 : Int32) (5 : Int32) mq2 _ _ hz) (by decide) (by decide)
    rcases if_ex hF with hF | hF
    · exact Jk29_6 false mq21 hf hF
    · exact Jk24_20 mq21 hf hF
  · exact Jk24_20 mq2 hf hF
set_option maxHeartbeats 4000000 in
theorem fr_M_side (a1 : Int32) (a2 : Bool) (m0 : Mem) (v : Int32) (m' : Mem) (hF : F_M_side a1 a2 m0 = some (v, m')) : Fr [] [(78, 0)] m0 m' := by
  unfold F_M_side at hF
  have hf : Fr [] [(78, 0)] m0 m0 := Fr_rf
  obtain ⟨mq1, emq1, hF⟩ := lt_ex hF
  have hf := Fr_sI emq1 hf (Or.inr (by decide))
  obtain ⟨zq4, mq2, hz, hF⟩ := bnd_ex hF
  have hf := Fr_tr hf (fr_M_noSide a1 mq1 _ _ hz) (by decide) (by decide)
  obtain ⟨zq7, mq5, hz, hF⟩ := bnd_ex hF
  have hf := Fr_tr hf (fr_M_throwsIf zq4 (1 : Int32) mq2 _ _ hz) (by decide) (by decide)
  rcases if_ex hF with hF | hF
  · cases hF
    exact hf
  · obtain ⟨k40_9, ek40_9, hF⟩ := lt_ex hF
    have Jk40_9 : ∀ (zq9 : Bool) (mq8 : Mem), Fr [] [(78, 0)] m0 mq8 → k40_9 zq9 mq8 = some (v, m') → Fr [] [(78, 0)] m0 m' := by
      intro zq9 mq8 hf hF
      rw [ek40_9] at hF
      obtain ⟨xq10, exq10, hF⟩ := lt_ex hF
      obtain ⟨-, hF⟩ := ckB_ex hF
      obtain ⟨xq12, exq12, hF⟩ := lt_ex hF
      cases hF
      exact hf
    rcases if_ex hF with hF | hF
    · exact Jk40_9 true mq5 hf hF
    · exact Jk40_9 false mq5 hf hF
set_option maxHeartbeats 4000000 in
theorem fr_M_signs (a1 : Int32) (a2 : Int32) (a3 : Bool) (m0 : Mem) (v : Int32) (m' : Mem) (hF : F_M_signs a1 a2 a3 m0 = some (v, m')) : Fr [] [(78, 0), (78, 8), (78, 9), (78, 10)] m0 m' := by
  unfold F_M_signs at hF
  have hf : Fr [] [(78, 0), (78, 8), (78, 9), (78, 10)] m0 m0 := Fr_rf
  obtain ⟨zq3, mq1, hz, hF⟩ := bnd_ex hF
  have hf := Fr_tr hf (fr_M_readSigns m0 _ _ hz) (by decide) (by decide)
  obtain ⟨k35_5, ek35_5, hF⟩ := lt_ex hF
  have Jk35_5 : ∀ (zq5 : Bool) (mq4 : Mem), Fr [] [(78, 0), (78, 8), (78, 9), (78, 10)] m0 mq4 → k35_5 zq5 mq4 = some (v, m') → Fr [] [(78, 0), (78, 8), (78, 9), (78, 10)] m0 m' := by
    intro zq5 mq4 hf hF
    rw [ek35_5] at hF
    obtain ⟨zq8, mq6, hz, hF⟩ := bnd_ex hF
    have hf := Fr_tr hf (fr_M_throwsIf zq5 (1 : Int32) mq4 _ _ hz) (by decide) (by decide)
    rcases if_ex hF with hF | hF
    · cases hF
      exact hf
    · obtain ⟨xq11, mq9, hz, hF⟩ := bnd_ex hF
      have hf := Fr_tr hf (fr_M_mornings a1 a2 (-1 : Int32) (0 : Int32) a3 mq6 _ _ hz) (by decide) (by decide)
      cases hF
      exact hf
  obtain ⟨k30_12, ek30_12, hF⟩ := lt_ex hF
  have Jk30_12 : ∀ (mq12 : Mem), Fr [] [(78, 0), (78, 8), (78, 9), (78, 10)] m0 mq12 → k30_12 mq12 = some (v, m') → Fr [] [(78, 0), (78, 8), (78, 9), (78, 10)] m0 m' := by
    intro mq12 hf hF
    rw [ek30_12] at hF
    exact Jk35_5 true mq12 hf hF
  rcases if_ex hF with hF | hF
  · obtain ⟨zq15, mq13, hz, hF⟩ := bnd_ex hF
    have hf := Fr_tr hf (fr_M_in a1 (0 : Int32) (2 : Int32) mq1 _ _ hz) (by decide) (by decide)
    rcases if_ex hF with hF | hF
    · obtain ⟨zq18, mq16, hz, hF⟩ := bnd_ex hF
      have hf := Fr_tr hf (fr_M_in a2 (0 : Int32) (3 : Int32) mq13 _ _ hz) (by decide) (by decide)
      rcases if_ex hF with hF | hF
      · exact Jk35_5 false mq16 hf hF
      · exact Jk30_12 mq16 hf hF
    · exact Jk30_12 mq13 hf hF
  · exact Jk30_12 mq1 hf hF
set_option maxHeartbeats 4000000 in
theorem fr_M_slot (a1 : Int32) (a2 : Int32) (a3 : Bool) (m0 : Mem) (v : Int32) (m' : Mem) (hF : F_M_slot a1 a2 a3 m0 = some (v, m')) : Fr [] [(78, 0)] m0 m' := by
  unfold F_M_slot at hF
  have hf : Fr [] [(78, 0)] m0 m0 := Fr_rf
  obtain ⟨mq1, emq1, hF⟩ := lt_ex hF
  have hf := Fr_sI emq1 hf (Or.inr (by decide))
  obtain ⟨zq4, mq2, hz, hF⟩ := bnd_ex hF
  have hf := Fr_tr hf (fr_M_in a1 (0 : Int32) (3 : Int32) mq1 _ _ hz) (by decide) (by decide)
  obtain ⟨k27_6, ek27_6, hF⟩ := lt_ex hF
  have Jk27_6 : ∀ (zq6 : Bool) (mq5 : Mem), Fr [] [(78, 0)] m0 mq5 → k27_6 zq6 mq5 = some (v, m') → Fr [] [(78, 0)] m0 m' := by
    intro zq6 mq5 hf hF
    rw [ek27_6] at hF
    obtain ⟨zq9, mq7, hz, hF⟩ := bnd_ex hF
    have hf := Fr_tr hf (fr_M_throwsIf zq6 (1 : Int32) mq5 _ _ hz) (by decide) (by decide)
    rcases if_ex hF with hF | hF
    · cases hF
      exact hf
    · obtain ⟨k50_11, ek50_11, hF⟩ := lt_ex hF
      have Jk50_11 : ∀ (zq11 : Bool) (mq10 : Mem), Fr [] [(78, 0)] m0 mq10 → k50_11 zq11 mq10 = some (v, m') → Fr [] [(78, 0)] m0 m' := by
        intro zq11 mq10 hf hF
        rw [ek50_11] at hF
        obtain ⟨xq14, mq12, hz, hF⟩ := bnd_ex hF
        have hf := Fr_tr hf (fr_M_ofSlot a1 a2 (b2i zq11) mq10 _ _ hz) (by decide) (by decide)
        cases hF
        exact hf
      rcases if_ex hF with hF | hF
      · exact Jk50_11 true mq7 hf hF
      · exact Jk50_11 false mq7 hf hF
  obtain ⟨k22_15, ek22_15, hF⟩ := lt_ex hF
  have Jk22_15 : ∀ (mq15 : Mem), Fr [] [(78, 0)] m0 mq15 → k22_15 mq15 = some (v, m') → Fr [] [(78, 0)] m0 m' := by
    intro mq15 hf hF
    rw [ek22_15] at hF
    exact Jk27_6 true mq15 hf hF
  rcases if_ex hF with hF | hF
  · obtain ⟨zq18, mq16, hz, hF⟩ := bnd_ex hF
    have hf := Fr_tr hf (fr_M_noSlot a2 mq2 _ _ hz) (by decide) (by decide)
    rcases if_ex hF with hF | hF
    · exact Jk22_15 mq16 hf hF
    · exact Jk27_6 false mq16 hf hF
  · exact Jk22_15 mq2 hf hF
set_option maxHeartbeats 4000000 in
theorem fr_M_streak_L36 (a1 : Int32) (mB : Mem) (v : Int32) (m' : Mem) : ∀ (nf : Nat) (xq11 : Int32) (xq12 : Int32) (xq13 : Int32) (mq10 : Mem), Fr [] [(78, 0)] mB mq10 → F_M_streak_L36 a1 nf xq11 xq12 xq13 mq10 = some (v, m') → Fr [] [(78, 0)] mB m' := by
  intro nf
  induction nf with
  | zero =>
    intro xq11 xq12 xq13 mq10 hf hF
    rw [F_M_streak_L36] at hF
    cases hF
  | succ nfq14 ih =>
    intro xq11 xq12 xq13 mq10 hf hF
    rw [F_M_streak_L36] at hF
    rcases if_ex hF with hF | hF
    · cases hF
      exact hf
    · obtain ⟨zq18, mq16, hz, hF⟩ := bnd_ex hF
      have hf := Fr_tr hf (fr_M_isSuch xq13 ((3 : Int32) + a1) mq10 _ _ hz) (by decide) (by decide)
      obtain ⟨k66_20, ek66_20, hF⟩ := lt_ex hF
      have Jk66_20 : ∀ (xq20 : Int32) (mq19 : Mem), Fr [] [(78, 0)] mB mq19 → k66_20 xq20 mq19 = some (v, m') → Fr [] [(78, 0)] mB m' := by
        intro xq20 mq19 hf hF
        rw [ek66_20] at hF
        obtain ⟨xq21, exq21, hF⟩ := lt_ex hF
        obtain ⟨xq22, exq22, hF⟩ := lt_ex hF
        exact ih xq21 xq20 xq22 mq19 hf hF
      rcases if_ex hF with hF | hF
      · exact Jk66_20 (xq12 + (1 : Int32)) mq16 hf hF
      · exact Jk66_20 (0 : Int32) mq16 hf hF
set_option maxHeartbeats 4000000 in
theorem fr_M_streak (a1 : Int32) (m0 : Mem) (v : Int32) (m' : Mem) (hF : F_M_streak a1 m0 = some (v, m')) : Fr [] [(78, 0)] m0 m' := by
  unfold F_M_streak at hF
  have hf : Fr [] [(78, 0)] m0 m0 := Fr_rf
  obtain ⟨mq1, emq1, hF⟩ := lt_ex hF
  have hf := Fr_sI emq1 hf (Or.inr (by decide))
  obtain ⟨zq4, mq2, hz, hF⟩ := bnd_ex hF
  have hf := Fr_tr hf (fr_M_in a1 (0 : Int32) (2 : Int32) mq1 _ _ hz) (by decide) (by decide)
  obtain ⟨k20_6, ek20_6, hF⟩ := lt_ex hF
  have Jk20_6 : ∀ (zq6 : Bool) (mq5 : Mem), Fr [] [(78, 0)] m0 mq5 → k20_6 zq6 mq5 = some (v, m') → Fr [] [(78, 0)] m0 m' := by
    intro zq6 mq5 hf hF
    rw [ek20_6] at hF
    obtain ⟨zq9, mq7, hz, hF⟩ := bnd_ex hF
    have hf := Fr_tr hf (fr_M_throwsIf zq6 (1 : Int32) mq5 _ _ hz) (by decide) (by decide)
    rcases if_ex hF with hF | hF
    · cases hF
      exact hf
    · exact fr_M_streak_L36 a1 m0 _ _  1000000 (0 : Int32) (0 : Int32) (0 : Int32) mq7 hf hF
  rcases if_ex hF with hF | hF
  · exact Jk20_6 false mq2 hf hF
  · exact Jk20_6 true mq2 hf hF
set_option maxHeartbeats 4000000 in
theorem fr_M_swing_L177 (xq29 : Int32) (mB : Mem) (v : Int32) (m' : Mem) : ∀ (nf : Nat) (xq31 : Int32) (mq30 : Mem), Fr [79, 85, 90] [(78, 0), (78, 8), (78, 9), (78, 10)] mB mq30 → F_M_swing_L177 xq29 nf xq31 mq30 = some (v, m') → Fr [79, 85, 90] [(78, 0), (78, 8), (78, 9), (78, 10)] mB m' := by
  intro nf
  induction nf with
  | zero =>
    intro xq31 mq30 hf hF
    rw [F_M_swing_L177] at hF
    cases hF
  | succ nfq32 ih =>
    intro xq31 mq30 hf hF
    rw [F_M_swing_L177] at hF
    rcases if_ex hF with hF | hF
    · cases hF
      exact hf
    · obtain ⟨-, hF⟩ := ckB_ex hF
      obtain ⟨xq35, exq35, hF⟩ := lt_ex hF
      obtain ⟨-, hF⟩ := ckB_ex hF
      obtain ⟨mq36, emq36, hF⟩ := lt_ex hF
      have hf := Fr_sI emq36 hf (Or.inl (by decide))
      obtain ⟨xq38, exq38, hF⟩ := lt_ex hF
      exact ih xq38 mq36 hf hF
set_option maxHeartbeats 4000000 in
theorem fr_M_swing_L134 (k167_28 : Mem → Option (Int32 × Mem)) (mB : Mem) (v : Int32) (m' : Mem) (Jk167_28 : ∀ (b0 : Mem), Fr [79, 85, 90] [(78, 0), (78, 8), (78, 9), (78, 10)] mB b0 → k167_28 b0 = some (v, m') → Fr [79, 85, 90] [(78, 0), (78, 8), (78, 9), (78, 10)] mB m') : ∀ (nf : Nat) (xq40 : Int32) (mq39 : Mem), Fr [79, 85, 90] [(78, 0), (78, 8), (78, 9), (78, 10)] mB mq39 → F_M_swing_L134 k167_28 nf xq40 mq39 = some (v, m') → Fr [79, 85, 90] [(78, 0), (78, 8), (78, 9), (78, 10)] mB m' := by
  intro nf
  induction nf with
  | zero =>
    intro xq40 mq39 hf hF
    rw [F_M_swing_L134] at hF
    cases hF
  | succ nfq41 ih =>
    intro xq40 mq39 hf hF
    rw [F_M_swing_L134] at hF
    rcases if_ex hF with hF | hF
    · exact Jk167_28 mq39 hf hF
    · obtain ⟨zq45, mq43, hz, hF⟩ := bnd_ex hF
      have hf := Fr_tr hf (fr_M_isOver mq39 _ _ hz) (by decide) (by decide)
      rcases if_ex hF with hF | hF
      · exact Jk167_28 mq43 hf hF
      · obtain ⟨-, hF⟩ := ckB_ex hF
        obtain ⟨xq47, exq47, hF⟩ := lt_ex hF
        obtain ⟨xq50, mq48, hz, hF⟩ := bnd_ex hF
        have hf := Fr_tr hf (fr_M_plays xq47 false mq43 _ _ hz) (by decide) (by decide)
        obtain ⟨xq51, exq51, hF⟩ := lt_ex hF
        exact ih xq51 mq48 hf hF
set_option maxHeartbeats 4000000 in
theorem fr_M_swing_L107 (k132_27 : Mem → Option (Int32 × Mem)) (mB : Mem) (v : Int32) (m' : Mem) (Jk132_27 : ∀ (b0 : Mem), Fr [79, 85, 90] [(78, 0), (78, 8), (78, 9), (78, 10)] mB b0 → k132_27 b0 = some (v, m') → Fr [79, 85, 90] [(78, 0), (78, 8), (78, 9), (78, 10)] mB m') : ∀ (nf : Nat) (xq53 : Int32) (mq52 : Mem), Fr [79, 85, 90] [(78, 0), (78, 8), (78, 9), (78, 10)] mB mq52 → F_M_swing_L107 k132_27 nf xq53 mq52 = some (v, m') → Fr [79, 85, 90] [(78, 0), (78, 8), (78, 9), (78, 10)] mB m' := by
  intro nf
  induction nf with
  | zero =>
    intro xq53 mq52 hf hF
    rw [F_M_swing_L107] at hF
    cases hF
  | succ nfq54 ih =>
    intro xq53 mq52 hf hF
    rw [F_M_swing_L107] at hF
    rcases if_ex hF with hF | hF
    · exact Jk132_27 mq52 hf hF
    · obtain ⟨-, hF⟩ := ckB_ex hF
      obtain ⟨xq57, exq57, hF⟩ := lt_ex hF
      obtain ⟨-, hF⟩ := ckB_ex hF
      obtain ⟨mq58, emq58, hF⟩ := lt_ex hF
      have hf := Fr_sI emq58 hf (Or.inl (by decide))
      obtain ⟨xq60, exq60, hF⟩ := lt_ex hF
      exact ih xq60 mq58 hf hF
set_option maxHeartbeats 4000000 in
theorem fr_M_swing_L50 (k86_21 : Bool → Mem → Option (Int32 × Mem)) (mB : Mem) (v : Int32) (m' : Mem) (Jk86_21 : ∀ (b0 : Bool) (b1 : Mem), Fr [79, 85, 90] [(78, 0), (78, 8), (78, 9), (78, 10)] mB b1 → k86_21 b0 b1 = some (v, m') → Fr [79, 85, 90] [(78, 0), (78, 8), (78, 9), (78, 10)] mB m') : ∀ (nf : Nat) (zq62 : Bool) (xq63 : Int32) (mq61 : Mem), Fr [79, 85, 90] [(78, 0), (78, 8), (78, 9), (78, 10)] mB mq61 → F_M_swing_L50 k86_21 nf zq62 xq63 mq61 = some (v, m') → Fr [79, 85, 90] [(78, 0), (78, 8), (78, 9), (78, 10)] mB m' := by
  intro nf
  induction nf with
  | zero =>
    intro zq62 xq63 mq61 hf hF
    rw [F_M_swing_L50] at hF
    cases hF
  | succ nfq64 ih =>
    intro zq62 xq63 mq61 hf hF
    rw [F_M_swing_L50] at hF
    rcases if_ex hF with hF | hF
    · exact Jk86_21 zq62 mq61 hf hF
    · rcases if_ex hF with hF | hF
      · obtain ⟨-, hF⟩ := ckB_ex hF
        obtain ⟨xq67, exq67, hF⟩ := lt_ex hF
        obtain ⟨zq70, mq68, hz, hF⟩ := bnd_ex hF
        have hf := Fr_tr hf (fr_M_noSlot xq67 mq61 _ _ hz) (by decide) (by decide)
        obtain ⟨k79_72, ek79_72, hF⟩ := lt_ex hF
        have Jk79_72 : ∀ (zq72 : Bool) (mq71 : Mem), Fr [79, 85, 90] [(78, 0), (78, 8), (78, 9), (78, 10)] mB mq71 → k79_72 zq72 mq71 = some (v, m') → Fr [79, 85, 90] [(78, 0), (78, 8), (78, 9), (78, 10)] mB m' := by
          intro zq72 mq71 hf hF
          rw [ek79_72] at hF
          obtain ⟨xq73, exq73, hF⟩ := lt_ex hF
          exact ih zq72 xq73 mq71 hf hF
        rcases if_ex hF with hF | hF
        · exact Jk79_72 false mq68 hf hF
        · exact Jk79_72 true mq68 hf hF
      · exact Jk86_21 zq62 mq61 hf hF
set_option maxHeartbeats 4000000 in
theorem fr_M_swing (m0 : Mem) (v : Int32) (m' : Mem) (hF : F_M_swing m0 = some (v, m')) : Fr [79, 85, 90] [(78, 0), (78, 8), (78, 9), (78, 10)] m0 m' := by
  unfold F_M_swing at hF
  have hf : Fr [79, 85, 90] [(78, 0), (78, 8), (78, 9), (78, 10)] m0 m0 := Fr_rf
  obtain ⟨u_, mq1, hz, hF⟩ := bnd_ex hF
  have hf := Fr_tr hf (fr_M_uses m0 _ _ hz) (by decide) (by decide)
  obtain ⟨zq6, mq4, hz, hF⟩ := bnd_ex hF
  have hf := Fr_tr hf (fr_M_isOn mq1 _ _ hz) (by decide) (by decide)
  obtain ⟨k17_8, ek17_8, hF⟩ := lt_ex hF
  have Jk17_8 : ∀ (zq8 : Bool) (mq7 : Mem), Fr [79, 85, 90] [(78, 0), (78, 8), (78, 9), (78, 10)] m0 mq7 → k17_8 zq8 mq7 = some (v, m') → Fr [79, 85, 90] [(78, 0), (78, 8), (78, 9), (78, 10)] m0 m' := by
    intro zq8 mq7 hf hF
    rw [ek17_8] at hF
    obtain ⟨zq11, mq9, hz, hF⟩ := bnd_ex hF
    have hf := Fr_tr hf (fr_M_throwsIf zq8 (1 : Int32) mq7 _ _ hz) (by decide) (by decide)
    rcases if_ex hF with hF | hF
    · cases hF
      exact hf
    · obtain ⟨xq14, mq12, hz, hF⟩ := bnd_ex hF
      have hf := Fr_tr hf (fr_M_size mq9 _ _ hz) (by decide) (by decide)
      obtain ⟨xq17, mq15, hz, hF⟩ := bnd_ex hF
      have hf := Fr_tr hf (fr_M_played mq12 _ _ hz) (by decide) (by decide)
      obtain ⟨k47_19, ek47_19, hF⟩ := lt_ex hF
      have Jk47_19 : ∀ (zq19 : Bool) (mq18 : Mem), Fr [79, 85, 90] [(78, 0), (78, 8), (78, 9), (78, 10)] m0 mq18 → k47_19 zq19 mq18 = some (v, m') → Fr [79, 85, 90] [(78, 0), (78, 8), (78, 9), (78, 10)] m0 m' := by
        intro zq19 mq18 hf hF
        rw [ek47_19] at hF
        obtain ⟨k86_21, ek86_21, hF⟩ := lt_ex hF
        have Jk86_21 : ∀ (zq21 : Bool) (mq20 : Mem), Fr [79, 85, 90] [(78, 0), (78, 8), (78, 9), (78, 10)] m0 mq20 → k86_21 zq21 mq20 = some (v, m') → Fr [79, 85, 90] [(78, 0), (78, 8), (78, 9), (78, 10)] m0 m' := by
          intro zq21 mq20 hf hF
          rw [ek86_21] at hF
          obtain ⟨k96_23, ek96_23, hF⟩ := lt_ex hF
          have Jk96_23 : ∀ (zq23 : Bool) (mq22 : Mem), Fr [79, 85, 90] [(78, 0), (78, 8), (78, 9), (78, 10)] m0 mq22 → k96_23 zq23 mq22 = some (v, m') → Fr [79, 85, 90] [(78, 0), (78, 8), (78, 9), (78, 10)] m0 m' := by
            intro zq23 mq22 hf hF
            rw [ek96_23] at hF
            obtain ⟨zq26, mq24, hz, hF⟩ := bnd_ex hF
            have hf := Fr_tr hf (fr_M_throwsIf zq23 (2 : Int32) mq22 _ _ hz) (by decide) (by decide)
            rcases if_ex hF with hF | hF
            · cases hF
              exact hf
            · obtain ⟨k132_27, ek132_27, hF⟩ := lt_ex hF
              have Jk132_27 : ∀ (mq27 : Mem), Fr [79, 85, 90] [(78, 0), (78, 8), (78, 9), (78, 10)] m0 mq27 → k132_27 mq27 = some (v, m') → Fr [79, 85, 90] [(78, 0), (78, 8), (78, 9), (78, 10)] m0 m' := by
                intro mq27 hf hF
                rw [ek132_27] at hF
                obtain ⟨k167_28, ek167_28, hF⟩ := lt_ex hF
                have Jk167_28 : ∀ (mq28 : Mem), Fr [79, 85, 90] [(78, 0), (78, 8), (78, 9), (78, 10)] m0 mq28 → k167_28 mq28 = some (v, m') → Fr [79, 85, 90] [(78, 0), (78, 8), (78, 9), (78, 10)] m0 m' := by
                  intro mq28 hf hF
                  rw [ek167_28] at hF
                  obtain ⟨xq29, exq29, hF⟩ := lt_ex hF
                  exact fr_M_swing_L177 xq29 m0 _ _  1000000 (0 : Int32) mq28 hf hF
                exact fr_M_swing_L134 k167_28 m0 _ _ Jk167_28 1000000 (0 : Int32) mq27 hf hF
              exact fr_M_swing_L107 k132_27 m0 _ _ Jk132_27 1000000 (0 : Int32) mq24 hf hF
          rcases if_ex hF with hF | hF
          · exact Jk96_23 false mq20 hf hF
          · exact Jk96_23 true mq20 hf hF
        exact fr_M_swing_L50 k86_21 m0 _ _ Jk86_21 1000000 zq19 (0 : Int32) mq18 hf hF
      rcases if_ex hF with hF | hF
      · exact Jk47_19 true mq15 hf hF
      · exact Jk47_19 false mq15 hf hF
  rcases if_ex hF with hF | hF
  · exact Jk17_8 false mq4 hf hF
  · exact Jk17_8 true mq4 hf hF
set_option maxHeartbeats 4000000 in
theorem fr_M_table_L57 (a1 : Int32) (a4 : Bool) (xq12 : Int32) (mB : Mem) (v : Int32) (m' : Mem) : ∀ (nf : Nat) (xq14 : Int32) (xq15 : Int32) (mq13 : Mem), Fr [85] [(78, 0)] mB mq13 → F_M_table_L57 a1 a4 xq12 nf xq14 xq15 mq13 = some (v, m') → Fr [85] [(78, 0)] mB m' := by
  intro nf
  induction nf with
  | zero =>
    intro xq14 xq15 mq13 hf hF
    rw [F_M_table_L57] at hF
    cases hF
  | succ nfq16 ih =>
    intro xq14 xq15 mq13 hf hF
    rw [F_M_table_L57] at hF
    rcases if_ex hF with hF | hF
    · cases hF
      exact hf
    · obtain ⟨zq20, mq18, hz, hF⟩ := bnd_ex hF
      have hf := Fr_tr hf (fr_M_isRain a1 mq13 _ _ hz) (by decide) (by decide)
      rcases if_ex hF with hF | hF
      · cases hF
        exact hf
      · obtain ⟨k88_22, ek88_22, hF⟩ := lt_ex hF
        have Jk88_22 : ∀ (zq22 : Bool) (mq21 : Mem), Fr [85] [(78, 0)] mB mq21 → k88_22 zq22 mq21 = some (v, m') → Fr [85] [(78, 0)] mB m' := by
          intro zq22 mq21 hf hF
          rw [ek88_22] at hF
          obtain ⟨xq25, mq23, hz, hF⟩ := bnd_ex hF
          have hf := Fr_tr hf (fr_M_ofSlot xq12 xq15 (b2i zq22) mq21 _ _ hz) (by decide) (by decide)
          obtain ⟨xq26, exq26, hF⟩ := lt_ex hF
          obtain ⟨xq27, exq27, hF⟩ := lt_ex hF
          exact ih xq26 xq27 mq23 hf hF
        rcases if_ex hF with hF | hF
        · exact Jk88_22 true mq18 hf hF
        · exact Jk88_22 false mq18 hf hF
set_option maxHeartbeats 4000000 in
theorem fr_M_table (a1 : Int32) (a2 : Int32) (a3 : Int32) (a4 : Bool) (m0 : Mem) (v : Int32) (m' : Mem) (hF : F_M_table a1 a2 a3 a4 m0 = some (v, m')) : Fr [85] [(78, 0)] m0 m' := by
  unfold F_M_table at hF
  have hf : Fr [85] [(78, 0)] m0 m0 := Fr_rf
  obtain ⟨mq1, emq1, hF⟩ := lt_ex hF
  have hf := Fr_sI emq1 hf (Or.inr (by decide))
  obtain ⟨zq4, mq2, hz, hF⟩ := bnd_ex hF
  have hf := Fr_tr hf (fr_M_noSession a1 mq1 _ _ hz) (by decide) (by decide)
  obtain ⟨k33_6, ek33_6, hF⟩ := lt_ex hF
  have Jk33_6 : ∀ (zq6 : Bool) (mq5 : Mem), Fr [85] [(78, 0)] m0 mq5 → k33_6 zq6 mq5 = some (v, m') → Fr [85] [(78, 0)] m0 m' := by
    intro zq6 mq5 hf hF
    rw [ek33_6] at hF
    obtain ⟨zq9, mq7, hz, hF⟩ := bnd_ex hF
    have hf := Fr_tr hf (fr_M_throwsIf zq6 (1 : Int32) mq5 _ _ hz) (by decide) (by decide)
    rcases if_ex hF with hF | hF
    · cases hF
      exact hf
    · obtain ⟨xq12, mq10, hz, hF⟩ := bnd_ex hF
      have hf := Fr_tr hf (fr_M_levelOf a1 a2 a3 mq7 _ _ hz) (by decide) (by decide)
      exact fr_M_table_L57 a1 a4 xq12 m0 _ _  1000000 (0 : Int32) (0 : Int32) mq10 hf hF
  obtain ⟨k28_28, ek28_28, hF⟩ := lt_ex hF
  have Jk28_28 : ∀ (mq28 : Mem), Fr [85] [(78, 0)] m0 mq28 → k28_28 mq28 = some (v, m') → Fr [85] [(78, 0)] m0 m' := by
    intro mq28 hf hF
    rw [ek28_28] at hF
    exact Jk33_6 true mq28 hf hF
  rcases if_ex hF with hF | hF
  · exact Jk28_28 mq2 hf hF
  · obtain ⟨zq31, mq29, hz, hF⟩ := bnd_ex hF
    have hf := Fr_tr hf (fr_M_noInnings a2 mq2 _ _ hz) (by decide) (by decide)
    rcases if_ex hF with hF | hF
    · exact Jk28_28 mq29 hf hF
    · obtain ⟨zq34, mq32, hz, hF⟩ := bnd_ex hF
      have hf := Fr_tr hf (fr_M_noSide a3 mq29 _ _ hz) (by decide) (by decide)
      rcases if_ex hF with hF | hF
      · exact Jk28_28 mq32 hf hF
      · exact Jk33_6 false mq32 hf hF
set_option maxHeartbeats 4000000 in
theorem fr_M_target (a1 : Bool) (m0 : Mem) (v : Int32) (m' : Mem) (hF : F_M_target a1 m0 = some (v, m')) : Fr [] [(78, 0)] m0 m' := by
  unfold F_M_target at hF
  have hf : Fr [] [(78, 0)] m0 m0 := Fr_rf
  obtain ⟨mq1, emq1, hF⟩ := lt_ex hF
  have hf := Fr_sI emq1 hf (Or.inr (by decide))
  obtain ⟨zq4, mq2, hz, hF⟩ := bnd_ex hF
  have hf := Fr_tr hf (fr_M_canHold mq1 _ _ hz) (by decide) (by decide)
  obtain ⟨k18_6, ek18_6, hF⟩ := lt_ex hF
  have Jk18_6 : ∀ (zq6 : Bool) (mq5 : Mem), Fr [] [(78, 0)] m0 mq5 → k18_6 zq6 mq5 = some (v, m') → Fr [] [(78, 0)] m0 m' := by
    intro zq6 mq5 hf hF
    rw [ek18_6] at hF
    obtain ⟨zq9, mq7, hz, hF⟩ := bnd_ex hF
    have hf := Fr_tr hf (fr_M_throwsIf zq6 (1 : Int32) mq5 _ _ hz) (by decide) (by decide)
    rcases if_ex hF with hF | hF
    · cases hF
      exact hf
    · obtain ⟨xq12, mq10, hz, hF⟩ := bnd_ex hF
      have hf := Fr_tr hf (fr_M_batter mq7 _ _ hz) (by decide) (by decide)
      obtain ⟨xq15, mq13, hz, hF⟩ := bnd_ex hF
      have hf := Fr_tr hf (fr_M_leadOf xq12 mq10 _ _ hz) (by decide) (by decide)
      obtain ⟨xq16, exq16, hF⟩ := lt_ex hF
      obtain ⟨xq19, mq17, hz, hF⟩ := bnd_ex hF
      have hf := Fr_tr hf (fr_M_size mq13 _ _ hz) (by decide) (by decide)
      obtain ⟨xq22, mq20, hz, hF⟩ := bnd_ex hF
      have hf := Fr_tr hf (fr_M_played mq17 _ _ hz) (by decide) (by decide)
      obtain ⟨xq23, exq23, hF⟩ := lt_ex hF
      rcases if_ex hF with hF | hF
      · obtain ⟨-, hF⟩ := ckB_ex hF
        cases hF
        exact hf
      · cases hF
        exact hf
  rcases if_ex hF with hF | hF
  · exact Jk18_6 false mq2 hf hF
  · exact Jk18_6 true mq2 hf hF
set_option maxHeartbeats 4000000 in
theorem fr_M_thrown (m0 : Mem) (v : Int32) (m' : Mem) (hF : F_M_thrown m0 = some (v, m')) : Fr [] [] m0 m' := by
  unfold F_M_thrown at hF
  have hf : Fr [] [] m0 m0 := Fr_rf
  cases hF
  exact hf
set_option maxHeartbeats 4000000 in
theorem fr_M_toss (a1 : Int32) (m0 : Mem) (v : Int32) (m' : Mem) (hF : F_M_toss a1 m0 = some (v, m')) : Fr [79, 82, 85] [(78, 0), (78, 6)] m0 m' := by
  unfold F_M_toss at hF
  have hf : Fr [79, 82, 85] [(78, 0), (78, 6)] m0 m0 := Fr_rf
  obtain ⟨mq1, emq1, hF⟩ := lt_ex hF
  have hf := Fr_sI emq1 hf (Or.inr (by decide))
  obtain ⟨zq4, mq2, hz, hF⟩ := bnd_ex hF
  have hf := Fr_tr hf (fr_M_noSide a1 mq1 _ _ hz) (by decide) (by decide)
  obtain ⟨zq7, mq5, hz, hF⟩ := bnd_ex hF
  have hf := Fr_tr hf (fr_M_throwsIf zq4 (1 : Int32) mq2 _ _ hz) (by decide) (by decide)
  rcases if_ex hF with hF | hF
  · cases hF
    exact hf
  · obtain ⟨xq10, mq8, hz, hF⟩ := bnd_ex hF
    have hf := Fr_tr hf (fr_M_firstSide mq5 _ _ hz) (by decide) (by decide)
    obtain ⟨k30_12, ek30_12, hF⟩ := lt_ex hF
    have Jk30_12 : ∀ (zq12 : Bool) (mq11 : Mem), Fr [79, 82, 85] [(78, 0), (78, 6)] m0 mq11 → k30_12 zq12 mq11 = some (v, m') → Fr [79, 82, 85] [(78, 0), (78, 6)] m0 m' := by
      intro zq12 mq11 hf hF
      rw [ek30_12] at hF
      obtain ⟨zq15, mq13, hz, hF⟩ := bnd_ex hF
      have hf := Fr_tr hf (fr_M_throwsIf zq12 (2 : Int32) mq11 _ _ hz) (by decide) (by decide)
      rcases if_ex hF with hF | hF
      · cases hF
        exact hf
      · obtain ⟨u_, mq16, hz, hF⟩ := bnd_ex hF
        have hf := Fr_tr hf (fr_M_remembers mq13 _ _ hz) (by decide) (by decide)
        obtain ⟨mq19, emq19, hF⟩ := lt_ex hF
        have hf := Fr_sI emq19 hf (Or.inl (by decide))
        obtain ⟨mq20, emq20, hF⟩ := lt_ex hF
        have hf := Fr_sI emq20 hf (Or.inl (by decide))
        obtain ⟨xq23, mq21, hz, hF⟩ := bnd_ex hF
        have hf := Fr_tr hf (fr_M_levelOf (0 : Int32) (0 : Int32) a1 mq20 _ _ hz) (by decide) (by decide)
        cases hF
        exact hf
    rcases if_ex hF with hF | hF
    · exact Jk30_12 false mq8 hf hF
    · exact Jk30_12 true mq8 hf hF
set_option maxHeartbeats 4000000 in
theorem fr_M_turning_L34 (a1 : Bool) (mB : Mem) (v : Int32) (m' : Mem) : ∀ (nf : Nat) (xq11 : Int32) (yq12 : Int64) (xq13 : Int32) (mq10 : Mem), Fr [85, 86, 87, 88] [(78, 0), (78, 20), (78, 21), (78, 23), (78, 24)] mB mq10 → F_M_turning_L34 a1 nf xq11 yq12 xq13 mq10 = some (v, m') → Fr [85, 86, 87, 88] [(78, 0), (78, 20), (78, 21), (78, 23), (78, 24)] mB m' := by
  intro nf
  induction nf with
  | zero =>
    intro xq11 yq12 xq13 mq10 hf hF
    rw [F_M_turning_L34] at hF
    cases hF
  | succ nfq14 ih =>
    intro xq11 yq12 xq13 mq10 hf hF
    rw [F_M_turning_L34] at hF
    rcases if_ex hF with hF | hF
    · cases hF
      exact hf
    · obtain ⟨u_, mq16, hz, hF⟩ := bnd_ex hF
      have hf := Fr_tr hf (fr_M_countsAfter xq13 mq10 _ _ hz) (by decide) (by decide)
      obtain ⟨k74_20, ek74_20, hF⟩ := lt_ex hF
      have Jk74_20 : ∀ (yq20 : Int64) (mq19 : Mem), Fr [85, 86, 87, 88] [(78, 0), (78, 20), (78, 21), (78, 23), (78, 24)] mB mq19 → k74_20 yq20 mq19 = some (v, m') → Fr [85, 86, 87, 88] [(78, 0), (78, 20), (78, 21), (78, 23), (78, 24)] mB m' := by
        intro yq20 mq19 hf hF
        rw [ek74_20] at hF
        obtain ⟨k96_23, ek96_23, hF⟩ := lt_ex hF
        have Jk96_23 : ∀ (xq22 : Int32) (yq23 : Int64) (mq21 : Mem), Fr [85, 86, 87, 88] [(78, 0), (78, 20), (78, 21), (78, 23), (78, 24)] mB mq21 → k96_23 xq22 yq23 mq21 = some (v, m') → Fr [85, 86, 87, 88] [(78, 0), (78, 20), (78, 21), (78, 23), (78, 24)] mB m' := by
          intro xq22 yq23 mq21 hf hF
          rw [ek96_23] at hF
          obtain ⟨xq24, exq24, hF⟩ := lt_ex hF
          exact ih xq22 yq23 xq24 mq21 hf hF
        obtain ⟨k90_25, ek90_25, hF⟩ := lt_ex hF
        have Jk90_25 : ∀ (mq25 : Mem), Fr [85, 86, 87, 88] [(78, 0), (78, 20), (78, 21), (78, 23), (78, 24)] mB mq25 → k90_25 mq25 = some (v, m') → Fr [85, 86, 87, 88] [(78, 0), (78, 20), (78, 21), (78, 23), (78, 24)] mB m' := by
          intro mq25 hf hF
          rw [ek90_25] at hF
          exact Jk96_23 xq13 yq20 mq25 hf hF
        rcases if_ex hF with hF | hF
        · exact Jk90_25 mq19 hf hF
        · rcases if_ex hF with hF | hF
          · exact Jk90_25 mq19 hf hF
          · exact Jk96_23 xq11 yq12 mq19 hf hF
      rcases if_ex hF with hF | hF
      · obtain ⟨xq34, mq32, hz, hF⟩ := bnd_ex hF
        have hf := Fr_tr hf (fr_M_played mq16 _ _ hz) (by decide) (by decide)
        obtain ⟨yq37, mq35, hz, hF⟩ := bnd_ex hF
        have hf := Fr_tr hf (fr_M_got (xq34 + (1 : Int32)) mq32 _ _ hz) (by decide) (by decide)
        exact Jk74_20 (-yq37) mq35 hf hF
      · obtain ⟨xq28, mq26, hz, hF⟩ := bnd_ex hF
        have hf := Fr_tr hf (fr_M_played mq16 _ _ hz) (by decide) (by decide)
        obtain ⟨yq31, mq29, hz, hF⟩ := bnd_ex hF
        have hf := Fr_tr hf (fr_M_got (xq28 + (1 : Int32)) mq26 _ _ hz) (by decide) (by decide)
        exact Jk74_20 yq31 mq29 hf hF
set_option maxHeartbeats 4000000 in
theorem fr_M_turning (a1 : Bool) (m0 : Mem) (v : Int32) (m' : Mem) (hF : F_M_turning a1 m0 = some (v, m')) : Fr [85, 86, 87, 88] [(78, 0), (78, 20), (78, 21), (78, 23), (78, 24)] m0 m' := by
  unfold F_M_turning at hF
  have hf : Fr [85, 86, 87, 88] [(78, 0), (78, 20), (78, 21), (78, 23), (78, 24)] m0 m0 := Fr_rf
  obtain ⟨mq1, emq1, hF⟩ := lt_ex hF
  have hf := Fr_sI emq1 hf (Or.inr (by decide))
  obtain ⟨zq4, mq2, hz, hF⟩ := bnd_ex hF
  have hf := Fr_tr hf (fr_M_isOn mq1 _ _ hz) (by decide) (by decide)
  obtain ⟨k18_6, ek18_6, hF⟩ := lt_ex hF
  have Jk18_6 : ∀ (zq6 : Bool) (mq5 : Mem), Fr [85, 86, 87, 88] [(78, 0), (78, 20), (78, 21), (78, 23), (78, 24)] m0 mq5 → k18_6 zq6 mq5 = some (v, m') → Fr [85, 86, 87, 88] [(78, 0), (78, 20), (78, 21), (78, 23), (78, 24)] m0 m' := by
    intro zq6 mq5 hf hF
    rw [ek18_6] at hF
    obtain ⟨zq9, mq7, hz, hF⟩ := bnd_ex hF
    have hf := Fr_tr hf (fr_M_throwsIf zq6 (1 : Int32) mq5 _ _ hz) (by decide) (by decide)
    rcases if_ex hF with hF | hF
    · cases hF
      exact hf
    · exact fr_M_turning_L34 a1 m0 _ _  1000000 (-1 : Int32) (0 : Int64) (0 : Int32) mq7 hf hF
  rcases if_ex hF with hF | hF
  · exact Jk18_6 false mq2 hf hF
  · exact Jk18_6 true mq2 hf hF
set_option maxHeartbeats 4000000 in
theorem fr_M_turnover_L55 (a1 : Int32) (a2 : Int32) (mB : Mem) (v : Int32) (m' : Mem) : ∀ (nf : Nat) (xq21 : Int32) (mq20 : Mem), Fr [85, 86, 87, 88] [(78, 0), (78, 20), (78, 21), (78, 23), (78, 24)] mB mq20 → F_M_turnover_L55 a1 a2 nf xq21 mq20 = some (v, m') → Fr [85, 86, 87, 88] [(78, 0), (78, 20), (78, 21), (78, 23), (78, 24)] mB m' := by
  intro nf
  induction nf with
  | zero =>
    intro xq21 mq20 hf hF
    rw [F_M_turnover_L55] at hF
    cases hF
  | succ nfq22 ih =>
    intro xq21 mq20 hf hF
    rw [F_M_turnover_L55] at hF
    rcases if_ex hF with hF | hF
    · cases hF
      exact hf
    · obtain ⟨zq26, mq24, hz, hF⟩ := bnd_ex hF
      have hf := Fr_tr hf (fr_M_isChosen a1 (4 : Int32) a2 (-xq21) mq20 _ _ hz) (by decide) (by decide)
      rcases if_ex hF with hF | hF
      · obtain ⟨xq27, exq27, hF⟩ := lt_ex hF
        exact ih xq27 mq24 hf hF
      · cases hF
        exact hf
set_option maxHeartbeats 4000000 in
theorem fr_M_turnover (a1 : Int32) (a2 : Int32) (m0 : Mem) (v : Int32) (m' : Mem) (hF : F_M_turnover a1 a2 m0 = some (v, m')) : Fr [85, 86, 87, 88] [(78, 0), (78, 20), (78, 21), (78, 23), (78, 24)] m0 m' := by
  unfold F_M_turnover at hF
  have hf : Fr [85, 86, 87, 88] [(78, 0), (78, 20), (78, 21), (78, 23), (78, 24)] m0 m0 := Fr_rf
  obtain ⟨mq1, emq1, hF⟩ := lt_ex hF
  have hf := Fr_sI emq1 hf (Or.inr (by decide))
  obtain ⟨zq4, mq2, hz, hF⟩ := bnd_ex hF
  have hf := Fr_tr hf (fr_M_noPlayed a1 mq1 _ _ hz) (by decide) (by decide)
  obtain ⟨zq7, mq5, hz, hF⟩ := bnd_ex hF
  have hf := Fr_tr hf (fr_M_throwsIf zq4 (1 : Int32) mq2 _ _ hz) (by decide) (by decide)
  rcases if_ex hF with hF | hF
  · cases hF
    exact hf
  · obtain ⟨zq10, mq8, hz, hF⟩ := bnd_ex hF
    have hf := Fr_tr hf (fr_M_noState (0 : Int32) a2 mq5 _ _ hz) (by decide) (by decide)
    obtain ⟨zq13, mq11, hz, hF⟩ := bnd_ex hF
    have hf := Fr_tr hf (fr_M_throwsIf zq10 (2 : Int32) mq8 _ _ hz) (by decide) (by decide)
    rcases if_ex hF with hF | hF
    · cases hF
      exact hf
    · obtain ⟨xq16, mq14, hz, hF⟩ := bnd_ex hF
      have hf := Fr_tr hf (fr_M_size mq11 _ _ hz) (by decide) (by decide)
      rcases if_ex hF with hF | hF
      · cases hF
        exact hf
      · obtain ⟨u_, mq17, hz, hF⟩ := bnd_ex hF
        have hf := Fr_tr hf (fr_M_countsFrom a1 (81 : Int32) mq14 _ _ hz) (by decide) (by decide)
        exact fr_M_turnover_L55 a1 a2 m0 _ _  1000000 (81 : Int32) mq17 hf hF
set_option maxHeartbeats 4000000 in
theorem fr_M_undo_L26  (mB : Mem) (v : Bool) (m' : Mem) : ∀ (nf : Nat) (xq4 : Int32) (mq3 : Mem), Fr [79] [(78, 0), (78, 6)] mB mq3 → F_M_undo_L26  nf xq4 mq3 = some (v, m') → Fr [79] [(78, 0), (78, 6)] mB m' := by
  intro nf
  induction nf with
  | zero =>
    intro xq4 mq3 hf hF
    rw [F_M_undo_L26] at hF
    cases hF
  | succ nfq5 ih =>
    intro xq4 mq3 hf hF
    rw [F_M_undo_L26] at hF
    rcases if_ex hF with hF | hF
    · cases hF
      exact hf
    · obtain ⟨-, hF⟩ := ckB_ex hF
      obtain ⟨xq8, exq8, hF⟩ := lt_ex hF
      obtain ⟨-, hF⟩ := ckB_ex hF
      obtain ⟨mq9, emq9, hF⟩ := lt_ex hF
      have hf := Fr_sI emq9 hf (Or.inl (by decide))
      obtain ⟨xq11, exq11, hF⟩ := lt_ex hF
      exact ih xq11 mq9 hf hF
set_option maxHeartbeats 4000000 in
theorem fr_M_undo (m0 : Mem) (v : Bool) (m' : Mem) (hF : F_M_undo m0 = some (v, m')) : Fr [79] [(78, 0), (78, 6)] m0 m' := by
  unfold F_M_undo at hF
  have hf : Fr [79] [(78, 0), (78, 6)] m0 m0 := Fr_rf
  obtain ⟨mq1, emq1, hF⟩ := lt_ex hF
  have hf := Fr_sI emq1 hf (Or.inr (by decide))
  rcases if_ex hF with hF | hF
  · cases hF
    exact hf
  · obtain ⟨mq2, emq2, hF⟩ := lt_ex hF
    have hf := Fr_sI emq2 hf (Or.inr (by decide))
    exact fr_M_undo_L26  m0 _ _  1000000 (0 : Int32) mq2 hf hF
set_option maxHeartbeats 4000000 in
theorem fr_M_well_L41  (mB : Mem) (v : Int32) (m' : Mem) : ∀ (nf : Nat) (xq4 : Int32) (xq5 : Int32) (mq3 : Mem), Fr [85, 86, 87, 88, 89] [(78, 0), (78, 20), (78, 21), (78, 23), (78, 24)] mB mq3 → F_M_well_L41  nf xq4 xq5 mq3 = some (v, m') → Fr [85, 86, 87, 88, 89] [(78, 0), (78, 20), (78, 21), (78, 23), (78, 24)] mB m' := by
  intro nf
  induction nf with
  | zero =>
    intro xq4 xq5 mq3 hf hF
    rw [F_M_well_L41] at hF
    cases hF
  | succ nfq6 ih =>
    intro xq4 xq5 mq3 hf hF
    rw [F_M_well_L41] at hF
    rcases if_ex hF with hF | hF
    · cases hF
      exact hf
    · obtain ⟨xq10, mq8, hz, hF⟩ := bnd_ex hF
      have hf := Fr_tr hf (fr_M_ofBook xq5 (0 : Int32) mq3 _ _ hz) (by decide) (by decide)
      obtain ⟨-, hF⟩ := ckB_ex hF
      obtain ⟨yq12, eyq12, hF⟩ := lt_ex hF
      obtain ⟨k109_14, ek109_14, hF⟩ := lt_ex hF
      have Jk109_14 : ∀ (zq14 : Bool) (mq13 : Mem), Fr [85, 86, 87, 88, 89] [(78, 0), (78, 20), (78, 21), (78, 23), (78, 24)] mB mq13 → k109_14 zq14 mq13 = some (v, m') → Fr [85, 86, 87, 88, 89] [(78, 0), (78, 20), (78, 21), (78, 23), (78, 24)] mB m' := by
        intro zq14 mq13 hf hF
        rw [ek109_14] at hF
        obtain ⟨xq15, exq15, hF⟩ := lt_ex hF
        obtain ⟨xq16, exq16, hF⟩ := lt_ex hF
        exact ih xq15 xq16 mq13 hf hF
      obtain ⟨k104_17, ek104_17, hF⟩ := lt_ex hF
      have Jk104_17 : ∀ (mq17 : Mem), Fr [85, 86, 87, 88, 89] [(78, 0), (78, 20), (78, 21), (78, 23), (78, 24)] mB mq17 → k104_17 mq17 = some (v, m') → Fr [85, 86, 87, 88, 89] [(78, 0), (78, 20), (78, 21), (78, 23), (78, 24)] mB m' := by
        intro mq17 hf hF
        rw [ek104_17] at hF
        exact Jk109_14 true mq17 hf hF
      rcases if_ex hF with hF | hF
      · exact Jk104_17 mq8 hf hF
      · obtain ⟨k81_19, ek81_19, hF⟩ := lt_ex hF
        have Jk81_19 : ∀ (zq19 : Bool) (mq18 : Mem), Fr [85, 86, 87, 88, 89] [(78, 0), (78, 20), (78, 21), (78, 23), (78, 24)] mB mq18 → k81_19 zq19 mq18 = some (v, m') → Fr [85, 86, 87, 88, 89] [(78, 0), (78, 20), (78, 21), (78, 23), (78, 24)] mB m' := by
          intro zq19 mq18 hf hF
          rw [ek81_19] at hF
          obtain ⟨xq22, mq20, hz, hF⟩ := bnd_ex hF
          have hf := Fr_tr hf (fr_M_ofBook xq5 (1 : Int32) mq18 _ _ hz) (by decide) (by decide)
          obtain ⟨xq25, mq23, hz, hF⟩ := bnd_ex hF
          have hf := Fr_tr hf (fr_M_ofBook xq5 (0 : Int32) mq20 _ _ hz) (by decide) (by decide)
          obtain ⟨k101_27, ek101_27, hF⟩ := lt_ex hF
          have Jk101_27 : ∀ (zq27 : Bool) (mq26 : Mem), Fr [85, 86, 87, 88, 89] [(78, 0), (78, 20), (78, 21), (78, 23), (78, 24)] mB mq26 → k101_27 zq27 mq26 = some (v, m') → Fr [85, 86, 87, 88, 89] [(78, 0), (78, 20), (78, 21), (78, 23), (78, 24)] mB m' := by
            intro zq27 mq26 hf hF
            rw [ek101_27] at hF
            rcases if_ex hF with hF | hF
            · exact Jk104_17 mq26 hf hF
            · exact Jk109_14 false mq26 hf hF
          rcases if_ex hF with hF | hF
          · exact Jk101_27 true mq23 hf hF
          · exact Jk101_27 false mq23 hf hF
        rcases if_ex hF with hF | hF
        · exact Jk81_19 false mq8 hf hF
        · exact Jk81_19 true mq8 hf hF
set_option maxHeartbeats 4000000 in
theorem fr_M_well_L7 (k37_2 : Mem → Option (Int32 × Mem)) (mB : Mem) (v : Int32) (m' : Mem) (Jk37_2 : ∀ (b0 : Mem), Fr [85, 86, 87, 88, 89] [(78, 0), (78, 20), (78, 21), (78, 23), (78, 24)] mB b0 → k37_2 b0 = some (v, m') → Fr [85, 86, 87, 88, 89] [(78, 0), (78, 20), (78, 21), (78, 23), (78, 24)] mB m') : ∀ (nf : Nat) (xq29 : Int32) (mq28 : Mem), Fr [85, 86, 87, 88, 89] [(78, 0), (78, 20), (78, 21), (78, 23), (78, 24)] mB mq28 → F_M_well_L7 k37_2 nf xq29 mq28 = some (v, m') → Fr [85, 86, 87, 88, 89] [(78, 0), (78, 20), (78, 21), (78, 23), (78, 24)] mB m' := by
  intro nf
  induction nf with
  | zero =>
    intro xq29 mq28 hf hF
    rw [F_M_well_L7] at hF
    cases hF
  | succ nfq30 ih =>
    intro xq29 mq28 hf hF
    rw [F_M_well_L7] at hF
    rcases if_ex hF with hF | hF
    · exact Jk37_2 mq28 hf hF
    · obtain ⟨yq34, mq32, hz, hF⟩ := bnd_ex hF
      have hf := Fr_tr hf (fr_M_tossWorth xq29 true mq28 _ _ hz) (by decide) (by decide)
      obtain ⟨yq37, mq35, hz, hF⟩ := bnd_ex hF
      have hf := Fr_tr hf (fr_M_tossWorth xq29 false mq32 _ _ hz) (by decide) (by decide)
      obtain ⟨-, hF⟩ := ckB_ex hF
      obtain ⟨mq38, emq38, hF⟩ := lt_ex hF
      have hf := Fr_sL emq38 hf (Or.inl (by decide))
      obtain ⟨xq40, exq40, hF⟩ := lt_ex hF
      exact ih xq40 mq38 hf hF
set_option maxHeartbeats 4000000 in
theorem fr_M_well (m0 : Mem) (v : Int32) (m' : Mem) (hF : F_M_well m0 = some (v, m')) : Fr [85, 86, 87, 88, 89] [(78, 0), (78, 20), (78, 21), (78, 23), (78, 24)] m0 m' := by
  unfold F_M_well at hF
  have hf : Fr [85, 86, 87, 88, 89] [(78, 0), (78, 20), (78, 21), (78, 23), (78, 24)] m0 m0 := Fr_rf
  obtain ⟨mq1, emq1, hF⟩ := lt_ex hF
  have hf := Fr_sI emq1 hf (Or.inr (by decide))
  obtain ⟨k37_2, ek37_2, hF⟩ := lt_ex hF
  have Jk37_2 : ∀ (mq2 : Mem), Fr [85, 86, 87, 88, 89] [(78, 0), (78, 20), (78, 21), (78, 23), (78, 24)] m0 mq2 → k37_2 mq2 = some (v, m') → Fr [85, 86, 87, 88, 89] [(78, 0), (78, 20), (78, 21), (78, 23), (78, 24)] m0 m' := by
    intro mq2 hf hF
    rw [ek37_2] at hF
    exact fr_M_well_L41  m0 _ _  1000000 (0 : Int32) (0 : Int32) mq2 hf hF
  exact fr_M_well_L7 k37_2 m0 _ _ Jk37_2 1000000 (0 : Int32) mq1 hf hF
set_option maxHeartbeats 4000000 in
theorem fr_M_when_L55 (a1 : Int32) (a2 : Int32) (k78_21 : Int32 → Mem → Option (Int32 × Mem)) (mB : Mem) (v : Int32) (m' : Mem) (Jk78_21 : ∀ (b0 : Int32) (b1 : Mem), Fr [85, 86, 87, 88] [(78, 0), (78, 20), (78, 21), (78, 23), (78, 24)] mB b1 → k78_21 b0 b1 = some (v, m') → Fr [85, 86, 87, 88] [(78, 0), (78, 20), (78, 21), (78, 23), (78, 24)] mB m') : ∀ (nf : Nat) (xq23 : Int32) (mq22 : Mem), Fr [85, 86, 87, 88] [(78, 0), (78, 20), (78, 21), (78, 23), (78, 24)] mB mq22 → F_M_when_L55 a1 a2 k78_21 nf xq23 mq22 = some (v, m') → Fr [85, 86, 87, 88] [(78, 0), (78, 20), (78, 21), (78, 23), (78, 24)] mB m' := by
  intro nf
  induction nf with
  | zero =>
    intro xq23 mq22 hf hF
    rw [F_M_when_L55] at hF
    cases hF
  | succ nfq24 ih =>
    intro xq23 mq22 hf hF
    rw [F_M_when_L55] at hF
    rcases if_ex hF with hF | hF
    · exact Jk78_21 xq23 mq22 hf hF
    · obtain ⟨zq28, mq26, hz, hF⟩ := bnd_ex hF
      have hf := Fr_tr hf (fr_M_isChosen a1 (2 : Int32) a2 xq23 mq22 _ _ hz) (by decide) (by decide)
      rcases if_ex hF with hF | hF
      · exact Jk78_21 xq23 mq26 hf hF
      · obtain ⟨xq29, exq29, hF⟩ := lt_ex hF
        exact ih xq29 mq26 hf hF
set_option maxHeartbeats 4000000 in
theorem fr_M_when (a1 : Int32) (a2 : Int32) (m0 : Mem) (v : Int32) (m' : Mem) (hF : F_M_when a1 a2 m0 = some (v, m')) : Fr [85, 86, 87, 88] [(78, 0), (78, 20), (78, 21), (78, 23), (78, 24)] m0 m' := by
  unfold F_M_when at hF
  have hf : Fr [85, 86, 87, 88] [(78, 0), (78, 20), (78, 21), (78, 23), (78, 24)] m0 m0 := Fr_rf
  obtain ⟨mq1, emq1, hF⟩ := lt_ex hF
  have hf := Fr_sI emq1 hf (Or.inr (by decide))
  obtain ⟨zq4, mq2, hz, hF⟩ := bnd_ex hF
  have hf := Fr_tr hf (fr_M_noPlayed a1 mq1 _ _ hz) (by decide) (by decide)
  obtain ⟨zq7, mq5, hz, hF⟩ := bnd_ex hF
  have hf := Fr_tr hf (fr_M_throwsIf zq4 (1 : Int32) mq2 _ _ hz) (by decide) (by decide)
  rcases if_ex hF with hF | hF
  · cases hF
    exact hf
  · obtain ⟨zq10, mq8, hz, hF⟩ := bnd_ex hF
    have hf := Fr_tr hf (fr_M_noState (0 : Int32) a2 mq5 _ _ hz) (by decide) (by decide)
    obtain ⟨zq13, mq11, hz, hF⟩ := bnd_ex hF
    have hf := Fr_tr hf (fr_M_throwsIf zq10 (2 : Int32) mq8 _ _ hz) (by decide) (by decide)
    rcases if_ex hF with hF | hF
    · cases hF
      exact hf
    · obtain ⟨xq16, mq14, hz, hF⟩ := bnd_ex hF
      have hf := Fr_tr hf (fr_M_size mq11 _ _ hz) (by decide) (by decide)
      rcases if_ex hF with hF | hF
      · cases hF
        exact hf
      · obtain ⟨u_, mq17, hz, hF⟩ := bnd_ex hF
        have hf := Fr_tr hf (fr_M_countsFrom a1 (81 : Int32) mq14 _ _ hz) (by decide) (by decide)
        obtain ⟨k78_21, ek78_21, hF⟩ := lt_ex hF
        have Jk78_21 : ∀ (xq21 : Int32) (mq20 : Mem), Fr [85, 86, 87, 88] [(78, 0), (78, 20), (78, 21), (78, 23), (78, 24)] m0 mq20 → k78_21 xq21 mq20 = some (v, m') → Fr [85, 86, 87, 88] [(78, 0), (78, 20), (78, 21), (78, 23), (78, 24)] m0 m' := by
          intro xq21 mq20 hf hF
          rw [ek78_21] at hF
          rcases if_ex hF with hF | hF
          · cases hF
            exact hf
          · cases hF
            exact hf
        exact fr_M_when_L55 a1 a2 k78_21 m0 _ _ Jk78_21 1000000 (-81 : Int32) mq17 hf hF
set_option maxHeartbeats 4000000 in
theorem fr_M_wins (a1 : Int32) (a2 : Int32) (a3 : Bool) (a4 : Int32) (a5 : Int32) (a6 : Int32) (m0 : Mem) (v : Int64) (m' : Mem) (hF : F_M_wins a1 a2 a3 a4 a5 a6 m0 = some (v, m')) : Fr [85, 86, 87, 88] [(78, 0), (78, 20), (78, 21), (78, 23), (78, 24)] m0 m' := by
  unfold F_M_wins at hF
  have hf : Fr [85, 86, 87, 88] [(78, 0), (78, 20), (78, 21), (78, 23), (78, 24)] m0 m0 := Fr_rf
  obtain ⟨mq1, emq1, hF⟩ := lt_ex hF
  have hf := Fr_sI emq1 hf (Or.inr (by decide))
  obtain ⟨zq4, mq2, hz, hF⟩ := bnd_ex hF
  have hf := Fr_tr hf (fr_M_noPlayed a1 mq1 _ _ hz) (by decide) (by decide)
  obtain ⟨k26_6, ek26_6, hF⟩ := lt_ex hF
  have Jk26_6 : ∀ (zq6 : Bool) (mq5 : Mem), Fr [85, 86, 87, 88] [(78, 0), (78, 20), (78, 21), (78, 23), (78, 24)] m0 mq5 → k26_6 zq6 mq5 = some (v, m') → Fr [85, 86, 87, 88] [(78, 0), (78, 20), (78, 21), (78, 23), (78, 24)] m0 m' := by
    intro zq6 mq5 hf hF
    rw [ek26_6] at hF
    obtain ⟨zq9, mq7, hz, hF⟩ := bnd_ex hF
    have hf := Fr_tr hf (fr_M_throwsIf zq6 (1 : Int32) mq5 _ _ hz) (by decide) (by decide)
    rcases if_ex hF with hF | hF
    · cases hF
      exact hf
    · obtain ⟨zq12, mq10, hz, hF⟩ := bnd_ex hF
      have hf := Fr_tr hf (fr_M_noState a4 a5 mq7 _ _ hz) (by decide) (by decide)
      obtain ⟨zq15, mq13, hz, hF⟩ := bnd_ex hF
      have hf := Fr_tr hf (fr_M_throwsIf zq12 (2 : Int32) mq10 _ _ hz) (by decide) (by decide)
      rcases if_ex hF with hF | hF
      · cases hF
        exact hf
      · obtain ⟨zq18, mq16, hz, hF⟩ := bnd_ex hF
        have hf := Fr_tr hf (fr_M_in a6 (0 : Int32) (2 : Int32) mq13 _ _ hz) (by decide) (by decide)
        obtain ⟨k65_20, ek65_20, hF⟩ := lt_ex hF
        have Jk65_20 : ∀ (zq20 : Bool) (mq19 : Mem), Fr [85, 86, 87, 88] [(78, 0), (78, 20), (78, 21), (78, 23), (78, 24)] m0 mq19 → k65_20 zq20 mq19 = some (v, m') → Fr [85, 86, 87, 88] [(78, 0), (78, 20), (78, 21), (78, 23), (78, 24)] m0 m' := by
          intro zq20 mq19 hf hF
          rw [ek65_20] at hF
          obtain ⟨zq23, mq21, hz, hF⟩ := bnd_ex hF
          have hf := Fr_tr hf (fr_M_throwsIf zq20 (3 : Int32) mq19 _ _ hz) (by decide) (by decide)
          rcases if_ex hF with hF | hF
          · cases hF
            exact hf
          · obtain ⟨u_, mq24, hz, hF⟩ := bnd_ex hF
            have hf := Fr_tr hf (fr_M_countsFrom a1 a4 mq21 _ _ hz) (by decide) (by decide)
            obtain ⟨mq27, emq27, hF⟩ := lt_ex hF
            have hf := Fr_sI emq27 hf (Or.inr (by decide))
            obtain ⟨mq28, emq28, hF⟩ := lt_ex hF
            have hf := Fr_sI emq28 hf (Or.inr (by decide))
            obtain ⟨xq31, mq29, hz, hF⟩ := bnd_ex hF
            have hf := Fr_tr hf (fr_M_size mq28 _ _ hz) (by decide) (by decide)
            obtain ⟨k113_32, ek113_32, hF⟩ := lt_ex hF
            have Jk113_32 : ∀ (mq32 : Mem), Fr [85, 86, 87, 88] [(78, 0), (78, 20), (78, 21), (78, 23), (78, 24)] m0 mq32 → k113_32 mq32 = some (v, m') → Fr [85, 86, 87, 88] [(78, 0), (78, 20), (78, 21), (78, 23), (78, 24)] m0 m' := by
              intro mq32 hf hF
              rw [ek113_32] at hF
              obtain ⟨yq35, mq33, hz, hF⟩ := bnd_ex hF
              have hf := Fr_tr hf (fr_M_waysOf a6 a1 (0 : Int32) mq32 _ _ hz) (by decide) (by decide)
              cases hF
              exact hf
            rcases if_ex hF with hF | hF
            · exact Jk113_32 mq29 hf hF
            · obtain ⟨xq38, mq36, hz, hF⟩ := bnd_ex hF
              have hf := Fr_tr hf (fr_M_kindOf a2 a3 mq29 _ _ hz) (by decide) (by decide)
              obtain ⟨u_, mq39, hz, hF⟩ := bnd_ex hF
              have hf := Fr_tr hf (fr_M_takes a1 xq38 a5 a4 mq36 _ _ hz) (by decide) (by decide)
              exact Jk113_32 mq39 hf hF
        rcases if_ex hF with hF | hF
        · exact Jk65_20 false mq16 hf hF
        · exact Jk65_20 true mq16 hf hF
  obtain ⟨k21_42, ek21_42, hF⟩ := lt_ex hF
  have Jk21_42 : ∀ (mq42 : Mem), Fr [85, 86, 87, 88] [(78, 0), (78, 20), (78, 21), (78, 23), (78, 24)] m0 mq42 → k21_42 mq42 = some (v, m') → Fr [85, 86, 87, 88] [(78, 0), (78, 20), (78, 21), (78, 23), (78, 24)] m0 m' := by
    intro mq42 hf hF
    rw [ek21_42] at hF
    exact Jk26_6 true mq42 hf hF
  rcases if_ex hF with hF | hF
  · exact Jk21_42 mq2 hf hF
  · obtain ⟨zq45, mq43, hz, hF⟩ := bnd_ex hF
    have hf := Fr_tr hf (fr_M_noInnings a2 mq2 _ _ hz) (by decide) (by decide)
    rcases if_ex hF with hF | hF
    · exact Jk21_42 mq43 hf hF
    · exact Jk26_6 false mq43 hf hF
set_option maxHeartbeats 4000000 in
theorem fr_M_worth (a1 : Int32) (a2 : Int32) (m0 : Mem) (v : Int64) (m' : Mem) (hF : F_M_worth a1 a2 m0 = some (v, m')) : Fr [85, 86, 87, 88] [(78, 0), (78, 20), (78, 21), (78, 23), (78, 24)] m0 m' := by
  unfold F_M_worth at hF
  have hf : Fr [85, 86, 87, 88] [(78, 0), (78, 20), (78, 21), (78, 23), (78, 24)] m0 m0 := Fr_rf
  obtain ⟨mq1, emq1, hF⟩ := lt_ex hF
  have hf := Fr_sI emq1 hf (Or.inr (by decide))
  obtain ⟨zq4, mq2, hz, hF⟩ := bnd_ex hF
  have hf := Fr_tr hf (fr_M_noSide a1 mq1 _ _ hz) (by decide) (by decide)
  obtain ⟨zq7, mq5, hz, hF⟩ := bnd_ex hF
  have hf := Fr_tr hf (fr_M_throwsIf zq4 (1 : Int32) mq2 _ _ hz) (by decide) (by decide)
  rcases if_ex hF with hF | hF
  · cases hF
    exact hf
  · obtain ⟨zq10, mq8, hz, hF⟩ := bnd_ex hF
    have hf := Fr_tr hf (fr_M_in a2 (0 : Int32) (3 : Int32) mq5 _ _ hz) (by decide) (by decide)
    obtain ⟨k32_12, ek32_12, hF⟩ := lt_ex hF
    have Jk32_12 : ∀ (zq12 : Bool) (mq11 : Mem), Fr [85, 86, 87, 88] [(78, 0), (78, 20), (78, 21), (78, 23), (78, 24)] m0 mq11 → k32_12 zq12 mq11 = some (v, m') → Fr [85, 86, 87, 88] [(78, 0), (78, 20), (78, 21), (78, 23), (78, 24)] m0 m' := by
      intro zq12 mq11 hf hF
      rw [ek32_12] at hF
      obtain ⟨zq15, mq13, hz, hF⟩ := bnd_ex hF
      have hf := Fr_tr hf (fr_M_throwsIf zq12 (2 : Int32) mq11 _ _ hz) (by decide) (by decide)
      rcases if_ex hF with hF | hF
      · cases hF
        exact hf
      · rcases if_ex hF with hF | hF
        · obtain ⟨yq18, mq16, hz, hF⟩ := bnd_ex hF
          have hf := Fr_tr hf (fr_M_tossWorth a1 true mq13 _ _ hz) (by decide) (by decide)
          cases hF
          exact hf
        · rcases if_ex hF with hF | hF
          · obtain ⟨yq21, mq19, hz, hF⟩ := bnd_ex hF
            have hf := Fr_tr hf (fr_M_tossWorth a1 false mq13 _ _ hz) (by decide) (by decide)
            cases hF
            exact hf
          · rcases if_ex hF with hF | hF
            · obtain ⟨yq24, mq22, hz, hF⟩ := bnd_ex hF
              have hf := Fr_tr hf (fr_M_tossWorth a1 true mq13 _ _ hz) (by decide) (by decide)
              obtain ⟨yq27, mq25, hz, hF⟩ := bnd_ex hF
              have hf := Fr_tr hf (fr_M_tossWorth a1 false mq22 _ _ hz) (by decide) (by decide)
              cases hF
              exact hf
            · obtain ⟨yq30, mq28, hz, hF⟩ := bnd_ex hF
              have hf := Fr_tr hf (fr_M_leftTo a1 mq13 _ _ hz) (by decide) (by decide)
              cases hF
              exact hf
    rcases if_ex hF with hF | hF
    · exact Jk32_12 false mq8 hf hF
    · exact Jk32_12 true mq8 hf hF
