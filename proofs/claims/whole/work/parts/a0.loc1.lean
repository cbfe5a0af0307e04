set_option maxHeartbeats 4000000 in
theorem lc_M_undo_L26 (L : Nat → Nat → Int64)  : ∀ (nf : Nat) (xq4 : Int32) (mq3 : Mem), So L (F_M_undo_L26  nf xq4 mq3) (F_M_undo_L26  nf xq4 (mL mq3 L)) := by
  intro nf
  induction nf with
  | zero =>
    intro xq4 mq3
    rw [F_M_undo_L26, F_M_undo_L26]
    exact so_none
  | succ nfq5 ih =>
    intro xq4 mq3
    rw [F_M_undo_L26, F_M_undo_L26]
    refine so_ite rfl ?_ ?_
    · exact so_some
    · refine so_ck rfl ?_
      refine so_ltv rfl (fun xq8 => ?_)
      refine so_ck rfl ?_
      refine so_ltm rfl (fun mq9 => ?_)
      refine so_ltv rfl (fun xq11 => ?_)
      exact ih _ _
set_option maxHeartbeats 4000000 in
theorem lc_M_undo (L : Nat → Nat → Int64) (m0 : Mem) : So L (F_M_undo m0) (F_M_undo (mL m0 L)) := by
  unfold F_M_undo
  refine so_ltm rfl (fun mq1 => ?_)
  refine so_ite rfl ?_ ?_
  · exact so_some
  · refine so_ltm rfl (fun mq2 => ?_)
    exact lc_M_undo_L26 L   _ _ _
set_option maxHeartbeats 4000000 in
theorem lc_M_when_L55 (L : Nat → Nat → Int64) (a1 : Int32) (a2 : Int32) (k78_21 k78_21w : Int32 → Mem → Option (Int32 × Mem)) (Jk78_21 : ∀ (b0 : Int32) (b1 : Mem), So L (k78_21 b0 b1) (k78_21w b0 (mL b1 L))) : ∀ (nf : Nat) (xq23 : Int32) (mq22 : Mem), So L (F_M_when_L55 a1 a2 k78_21 nf xq23 mq22) (F_M_when_L55 a1 a2 k78_21w nf xq23 (mL mq22 L)) := by
  intro nf
  induction nf with
  | zero =>
    intro xq23 mq22
    rw [F_M_when_L55, F_M_when_L55]
    exact so_none
  | succ nfq24 ih =>
    intro xq23 mq22
    rw [F_M_when_L55, F_M_when_L55]
    refine so_ite rfl ?_ ?_
    · exact Jk78_21 _ _
    · refine so_bnd (lc_M_isChosen L _ _ _ _ _) (fun zq28 mq26 => ?_)
      refine so_ite rfl ?_ ?_
      · exact Jk78_21 _ _
      · refine so_ltv rfl (fun xq29 => ?_)
        exact ih _ _
set_option maxHeartbeats 4000000 in
theorem lc_M_when (L : Nat → Nat → Int64) (a1 : Int32) (a2 : Int32) (m0 : Mem) : So L (F_M_when a1 a2 m0) (F_M_when a1 a2 (mL m0 L)) := by
  unfold F_M_when
  refine so_ltm rfl (fun mq1 => ?_)
  refine so_bnd (lc_M_noPlayed L _ _) (fun zq4 mq2 => ?_)
  refine so_bnd (lc_M_throwsIf L _ _ _) (fun zq7 mq5 => ?_)
  refine so_ite rfl ?_ ?_
  · exact so_some
  · refine so_bnd (lc_M_noState L _ _ _) (fun zq10 mq8 => ?_)
    refine so_bnd (lc_M_throwsIf L _ _ _) (fun zq13 mq11 => ?_)
    refine so_ite rfl ?_ ?_
    · exact so_some
    · refine so_bnd (lc_M_size L _) (fun xq16 mq14 => ?_)
      refine so_ite rfl ?_ ?_
      · exact so_some
      · refine so_bnd (lc_M_countsFrom L _ _ _) (fun _ mq17 => ?_)
        refine so_ltj (fun z_ w_ => ∀ (q0_ : Int32) (q1_ : Mem), So L (z_ q0_ q1_) (w_ q0_ (mL q1_ L))) ?_ ?_
        · intro xq21 mq20
          refine so_ite rfl ?_ ?_
          · exact so_some
          · exact so_some
        intro k78_21 k78_21w Jk78_21
        exact lc_M_when_L55 L _ _ k78_21 k78_21w Jk78_21 _ _ _
set_option maxHeartbeats 4000000 in
theorem lc_M_wins (L : Nat → Nat → Int64) (a1 : Int32) (a2 : Int32) (a3 : Bool) (a4 : Int32) (a5 : Int32) (a6 : Int32) (m0 : Mem) : So L (F_M_wins a1 a2 a3 a4 a5 a6 m0) (F_M_wins a1 a2 a3 a4 a5 a6 (mL m0 L)) := by
  unfold F_M_wins
  refine so_ltm rfl (fun mq1 => ?_)
  refine so_bnd (lc_M_noPlayed L _ _) (fun zq4 mq2 => ?_)
  refine so_ltj (fun z_ w_ => ∀ (q0_ : Bool) (q1_ : Mem), So L (z_ q0_ q1_) (w_ q0_ (mL q1_ L))) ?_ ?_
  · intro zq6 mq5
    refine so_bnd (lc_M_throwsIf L _ _ _) (fun zq9 mq7 => ?_)
    refine so_ite rfl ?_ ?_
    · exact so_some
    · refine so_bnd (lc_M_noState L _ _ _) (fun zq12 mq10 => ?_)
      refine so_bnd (lc_M_throwsIf L _ _ _) (fun zq15 mq13 => ?_)
      refine so_ite rfl ?_ ?_
      · exact so_some
      · refine so_bnd (lc_M_in L _ _ _ _) (fun zq18 mq16 => ?_)
        refine so_ltj (fun z_ w_ => ∀ (q0_ : Bool) (q1_ : Mem), So L (z_ q0_ q1_) (w_ q0_ (mL q1_ L))) ?_ ?_
        · intro zq20 mq19
          refine so_bnd (lc_M_throwsIf L _ _ _) (fun zq23 mq21 => ?_)
          refine so_ite rfl ?_ ?_
          · exact so_some
          · refine so_bnd (lc_M_countsFrom L _ _ _) (fun _ mq24 => ?_)
            refine so_ltm rfl (fun mq27 => ?_)
            refine so_ltm rfl (fun mq28 => ?_)
            refine so_bnd (lc_M_size L _) (fun xq31 mq29 => ?_)
            refine so_ltj (fun z_ w_ => ∀ (q0_ : Mem), So L (z_ q0_) (w_ (mL q0_ L))) ?_ ?_
            · intro mq32
              refine so_bnd (lc_M_waysOf L _ _ _ _) (fun yq35 mq33 => ?_)
              exact so_some
            intro k113_32 k113_32w Jk113_32
            refine so_ite rfl ?_ ?_
            · exact Jk113_32 _
            · refine so_bnd (lc_M_kindOf L _ _ _) (fun xq38 mq36 => ?_)
              refine so_bnd (lc_M_takes L _ _ _ _ _) (fun _ mq39 => ?_)
              exact Jk113_32 _
        intro k65_20 k65_20w Jk65_20
        refine so_ite rfl ?_ ?_
        · exact Jk65_20 _ _
        · exact Jk65_20 _ _
  intro k26_6 k26_6w Jk26_6
  refine so_ltj (fun z_ w_ => ∀ (q0_ : Mem), So L (z_ q0_) (w_ (mL q0_ L))) ?_ ?_
  · intro mq42
    exact Jk26_6 _ _
  intro k21_42 k21_42w Jk21_42
  refine so_ite rfl ?_ ?_
  · exact Jk21_42 _
  · refine so_bnd (lc_M_noInnings L _ _) (fun zq45 mq43 => ?_)
    refine so_ite rfl ?_ ?_
    · exact Jk21_42 _
    · exact Jk26_6 _ _
set_option maxHeartbeats 4000000 in
theorem lc_M_worth (L : Nat → Nat → Int64) (a1 : Int32) (a2 : Int32) (m0 : Mem) : So L (F_M_worth a1 a2 m0) (F_M_worth a1 a2 (mL m0 L)) := by
  unfold F_M_worth
  refine so_ltm rfl (fun mq1 => ?_)
  refine so_bnd (lc_M_noSide L _ _) (fun zq4 mq2 => ?_)
  refine so_bnd (lc_M_throwsIf L _ _ _) (fun zq7 mq5 => ?_)
  refine so_ite rfl ?_ ?_
  · exact so_some
  · refine so_bnd (lc_M_in L _ _ _ _) (fun zq10 mq8 => ?_)
    refine so_ltj (fun z_ w_ => ∀ (q0_ : Bool) (q1_ : Mem), So L (z_ q0_ q1_) (w_ q0_ (mL q1_ L))) ?_ ?_
    · intro zq12 mq11
      refine so_bnd (lc_M_throwsIf L _ _ _) (fun zq15 mq13 => ?_)
      refine so_ite rfl ?_ ?_
      · exact so_some
      · refine so_ite rfl ?_ ?_
        · refine so_bnd (lc_M_tossWorth L _ _ _) (fun yq18 mq16 => ?_)
          exact so_some
        · refine so_ite rfl ?_ ?_
          · refine so_bnd (lc_M_tossWorth L _ _ _) (fun yq21 mq19 => ?_)
            exact so_some
          · refine so_ite rfl ?_ ?_
            · refine so_bnd (lc_M_tossWorth L _ _ _) (fun yq24 mq22 => ?_)
              refine so_bnd (lc_M_tossWorth L _ _ _) (fun yq27 mq25 => ?_)
              exact so_some
            · refine so_bnd (lc_M_leftTo L _ _) (fun yq30 mq28 => ?_)
              exact so_some
    intro k32_12 k32_12w Jk32_12
    refine so_ite rfl ?_ ?_
    · exact Jk32_12 _ _
    · exact Jk32_12 _ _
