section LOC
/-! ===== the reference's functions don't touch the longs ===== -/
def mL (m : Mem) (L : Nat → Nat → Int64) : Mem := (m.1, L, m.2.2)
def So {α : Type} (L : Nat → Nat → Int64) (a b : Option (α × Mem)) : Prop := b = a.map (fun p => (p.1, mL p.2 L))
theorem so_some {α : Type} {L : Nat → Nat → Int64} {v : α} {m : Mem} : So L (some (v, m)) (some (v, mL m L)) := rfl
theorem so_none {α : Type} {L : Nat → Nat → Int64} : So L (none : Option (α × Mem)) none := rfl
theorem so_ltv {α β : Type} {L : Nat → Nat → Int64} {x y : α} {f g : α → Option (β × Mem)} (e : x = y) (h : ∀ z, So L (f z) (g z)) : So L (lt x f) (lt y g) := by
  subst e
  exact h x
theorem so_ltm {β : Type} {L : Nat → Nat → Int64} {x y : Mem} {f g : Mem → Option (β × Mem)} (e : mL x L = y) (h : ∀ z, So L (f z) (g (mL z L))) : So L (lt x f) (lt y g) := by
  subst e
  exact h x
theorem so_ltj {α β : Type} {L : Nat → Nat → Int64} {x y : α} {f g : α → Option (β × Mem)} (R : α → α → Prop) (e : R x y) (h : ∀ z w, R z w → So L (f z) (g w)) : So L (lt x f) (lt y g) := h x y e
theorem so_bnd {α β : Type} {L : Nat → Nat → Int64} {a b : Option (α × Mem)} {f g : α → Mem → Option (β × Mem)} (e : So L a b) (h : ∀ v m, So L (f v m) (g v (mL m L))) : So L (bnd a f) (bnd b g) := by
  unfold So at e
  subst e
  cases a with
  | none => rfl
  | some p => exact h p.1 p.2
theorem so_bndX {α β : Type} {L : Nat → Nat → Int64} {a b : Option ((Nat ⊕ α) × Mem)} {f g : α → Mem → Option ((Nat ⊕ β) × Mem)} (e : So L a b) (h : ∀ v m, So L (f v m) (g v (mL m L))) : So L (bndX a f) (bndX b g) := by
  unfold So at e
  subst e
  cases a with
  | none => rfl
  | some p =>
    obtain ⟨q, m⟩ := p
    cases q with
    | inl e => rfl
    | inr v => exact h v m
theorem so_ck {β : Type} {L : Nat → Nat → Int64} {b c : Bool} {f g : Option (β × Mem)} (e : b = c) (h : So L f g) : So L (ckB b f) (ckB c g) := by
  subst e
  unfold ckB
  split
  · exact h
  · rfl
theorem so_ite {β : Type} {L : Nat → Nat → Int64} {c d : Prop} [i1 : Decidable c] [i2 : Decidable d] {f g f' g' : Option (β × Mem)} (e : c = d) (h : So L f f') (h2 : So L g g') : So L (if c then f else g) (if d then f' else g') := by
  by_cases hc : c
  · rw [if_pos hc, if_pos (e ▸ hc)]
    exact h
  · rw [if_neg hc, if_neg (e ▸ hc)]
    exact h2
theorem so_eq {α : Type} {L : Nat → Nat → Int64} {a b : Option (α × Mem)} {v : α} {m : Mem} (h : So L a b) (e : a = some (v, m)) : b = some (v, mL m L) := by
  rw [e] at h
  exact h
end LOC

set_option maxHeartbeats 4000000 in
theorem lc_M_in (L : Nat → Nat → Int64) (a0 : Int32) (a1 : Int32) (a2 : Int32) (m0 : Mem) : So L (F_M_in a0 a1 a2 m0) (F_M_in a0 a1 a2 (mL m0 L)) := by
  unfold F_M_in
  refine so_ite rfl ?_ ?_
  · exact so_some
  · refine so_ite rfl ?_ ?_
    · exact so_some
    · exact so_some
set_option maxHeartbeats 4000000 in
theorem lc_M_noSlot (L : Nat → Nat → Int64) (a0 : Int32) (m0 : Mem) : So L (F_M_noSlot a0 m0) (F_M_noSlot a0 (mL m0 L)) := by
  unfold F_M_noSlot
  refine so_bnd (lc_M_in L _ _ _ _) (fun zq3 mq1 => ?_)
  refine so_ite rfl ?_ ?_
  · exact so_some
  · exact so_some
set_option maxHeartbeats 4000000 in
theorem lc_M_throwsIf (L : Nat → Nat → Int64) (a1 : Bool) (a2 : Int32) (m0 : Mem) : So L (F_M_throwsIf a1 a2 m0) (F_M_throwsIf a1 a2 (mL m0 L)) := by
  unfold F_M_throwsIf
  refine so_ite rfl ?_ ?_
  · refine so_ltm rfl (fun mq1 => ?_)
    exact so_some
  · exact so_some
set_option maxHeartbeats 4000000 in
theorem lc_M_firstSide (L : Nat → Nat → Int64) (m0 : Mem) : So L (F_M_firstSide m0) (F_M_firstSide (mL m0 L)) := by
  unfold F_M_firstSide
  exact so_some
set_option maxHeartbeats 4000000 in
theorem lc_M_isOver (L : Nat → Nat → Int64) (m0 : Mem) : So L (F_M_isOver m0) (F_M_isOver (mL m0 L)) := by
  unfold F_M_isOver
  refine so_ite rfl ?_ ?_
  · exact so_some
  · exact so_some
set_option maxHeartbeats 4000000 in
theorem lc_M_isOn (L : Nat → Nat → Int64) (m0 : Mem) : So L (F_M_isOn m0) (F_M_isOn (mL m0 L)) := by
  unfold F_M_isOn
  refine so_bnd (lc_M_firstSide L _) (fun xq3 mq1 => ?_)
  refine so_ite rfl ?_ ?_
  · exact so_some
  · refine so_bnd (lc_M_isOver L _) (fun zq6 mq4 => ?_)
    refine so_ite rfl ?_ ?_
    · exact so_some
    · exact so_some
set_option maxHeartbeats 4000000 in
theorem lc_M_played (L : Nat → Nat → Int64) (m0 : Mem) : So L (F_M_played m0) (F_M_played (mL m0 L)) := by
  unfold F_M_played
  exact so_some
set_option maxHeartbeats 4000000 in
theorem lc_M_isFollowed (L : Nat → Nat → Int64) (m0 : Mem) : So L (F_M_isFollowed m0) (F_M_isFollowed (mL m0 L)) := by
  unfold F_M_isFollowed
  refine so_ite rfl ?_ ?_
  · exact so_some
  · exact so_some
set_option maxHeartbeats 4000000 in
theorem lc_M_batting (L : Nat → Nat → Int64) (a0 : Int32) (a1 : Int32) (a2 : Bool) (m0 : Mem) : So L (F_M_batting a0 a1 a2 m0) (F_M_batting a0 a1 a2 (mL m0 L)) := by
  unfold F_M_batting
  refine so_ltj (fun z_ w_ => ∀ (q0_ : Bool) (q1_ : Mem), So L (z_ q0_ q1_) (w_ q0_ (mL q1_ L))) ?_ ?_
  · intro zq2 mq1
    refine so_ite rfl ?_ ?_
    · exact so_some
    · exact so_some
  intro k14_2 k14_2w Jk14_2
  refine so_ltj (fun z_ w_ => ∀ (q0_ : Mem), So L (z_ q0_) (w_ (mL q0_ L))) ?_ ?_
  · intro mq3
    exact Jk14_2 _ _
  intro k9_3 k9_3w Jk9_3
  refine so_ite rfl ?_ ?_
  · exact Jk9_3 _
  · refine so_ite rfl ?_ ?_
    · exact Jk9_3 _
    · exact Jk14_2 _ _
set_option maxHeartbeats 4000000 in
theorem lc_M_batter (L : Nat → Nat → Int64) (m0 : Mem) : So L (F_M_batter m0) (F_M_batter (mL m0 L)) := by
  unfold F_M_batter
  refine so_bnd (lc_M_firstSide L _) (fun xq3 mq1 => ?_)
  refine so_bnd (lc_M_isFollowed L _) (fun zq6 mq4 => ?_)
  refine so_bnd (lc_M_batting L _ _ _ _) (fun xq9 mq7 => ?_)
  exact so_some
set_option maxHeartbeats 4000000 in
theorem lc_M_leadOf (L : Nat → Nat → Int64) (a1 : Int32) (m0 : Mem) : So L (F_M_leadOf a1 m0) (F_M_leadOf a1 (mL m0 L)) := by
  unfold F_M_leadOf
  refine so_ck rfl ?_
  refine so_ltv rfl (fun xq2 => ?_)
  refine so_ck rfl ?_
  refine so_ltv rfl (fun xq4 => ?_)
  exact so_some
set_option maxHeartbeats 4000000 in
theorem lc_M_mostRuns_L4 (L : Nat → Nat → Int64)  : ∀ (nf : Nat) (xq2 : Int32) (xq3 : Int32) (mq1 : Mem), So L (F_M_mostRuns_L4  nf xq2 xq3 mq1) (F_M_mostRuns_L4  nf xq2 xq3 (mL mq1 L)) := by
  intro nf
  induction nf with
  | zero =>
    intro xq2 xq3 mq1
    rw [F_M_mostRuns_L4, F_M_mostRuns_L4]
    exact so_none
  | succ nfq4 ih =>
    intro xq2 xq3 mq1
    rw [F_M_mostRuns_L4, F_M_mostRuns_L4]
    refine so_ite rfl ?_ ?_
    · exact so_some
    · refine so_ck rfl ?_
      refine so_ltv rfl (fun xq7 => ?_)
      refine so_ltv rfl (fun xq8 => ?_)
      refine so_ltv rfl (fun xq9 => ?_)
      exact ih _ _ _
set_option maxHeartbeats 4000000 in
theorem lc_M_mostRuns (L : Nat → Nat → Int64) (m0 : Mem) : So L (F_M_mostRuns m0) (F_M_mostRuns (mL m0 L)) := by
  unfold F_M_mostRuns
  exact lc_M_mostRuns_L4 L   _ _ _ _
set_option maxHeartbeats 4000000 in
theorem lc_M_size (L : Nat → Nat → Int64) (m0 : Mem) : So L (F_M_size m0) (F_M_size (mL m0 L)) := by
  unfold F_M_size
  exact so_some
set_option maxHeartbeats 4000000 in
theorem lc_M_inningsOf (L : Nat → Nat → Int64) (a0 : Int32) (m0 : Mem) : So L (F_M_inningsOf a0 m0) (F_M_inningsOf a0 (mL m0 L)) := by
  unfold F_M_inningsOf
  refine so_ite rfl ?_ ?_
  · refine so_ite rfl ?_ ?_
    · exact so_some
    · exact so_some
  · exact so_some
set_option maxHeartbeats 4000000 in
theorem lc_M_isBehind (L : Nat → Nat → Int64) (a0 : Int32) (m0 : Mem) : So L (F_M_isBehind a0 m0) (F_M_isBehind a0 (mL m0 L)) := by
  unfold F_M_isBehind
  refine so_ite rfl ?_ ?_
  · exact so_some
  · refine so_ite rfl ?_ ?_
    · exact so_some
    · exact so_some
set_option maxHeartbeats 4000000 in
theorem lc_M_factOf (L : Nat → Nat → Int64) (a1 : Int32) (a2 : Int32) (a3 : Int32) (a4 : Int32) (a5 : Int32) (m0 : Mem) : So L (F_M_factOf a1 a2 a3 a4 a5 m0) (F_M_factOf a1 a2 a3 a4 a5 (mL m0 L)) := by
  unfold F_M_factOf
  refine so_ite rfl ?_ ?_
  · exact so_some
  · refine so_ite rfl ?_ ?_
    · exact so_some
    · refine so_ite rfl ?_ ?_
      · exact so_some
      · refine so_ite rfl ?_ ?_
        · exact so_some
        · refine so_ite rfl ?_ ?_
          · refine so_ck rfl ?_
            refine so_ltv rfl (fun xq2 => ?_)
            exact so_some
          · refine so_ite rfl ?_ ?_
            · refine so_ltv rfl (fun xq3 => ?_)
              refine so_ck rfl ?_
              refine so_ltv rfl (fun xq5 => ?_)
              exact so_some
            · refine so_ite rfl ?_ ?_
              · exact so_some
              · refine so_ite rfl ?_ ?_
                · exact so_some
                · exact so_some
set_option maxHeartbeats 4000000 in
theorem lc_M_holdsLine_L23 (L : Nat → Nat → Int64) (a2 : Int32) (a3 : Int32) (a4 : Int32) (xq1 : Int32) (k273_5 k273_5w : Int32 → Mem → Option (Bool × Mem)) (Jk273_5 : ∀ (b0 : Int32) (b1 : Mem), So L (k273_5 b0 b1) (k273_5w b0 (mL b1 L))) : ∀ (nf : Nat) (xq7 : Int32) (xq8 : Int32) (mq6 : Mem), So L (F_M_holdsLine_L23 a2 a3 a4 xq1 k273_5 nf xq7 xq8 mq6) (F_M_holdsLine_L23 a2 a3 a4 xq1 k273_5w nf xq7 xq8 (mL mq6 L)) := by
  intro nf
  induction nf with
  | zero =>
    intro xq7 xq8 mq6
    rw [F_M_holdsLine_L23, F_M_holdsLine_L23]
    exact so_none
  | succ nfq9 ih =>
    intro xq7 xq8 mq6
    rw [F_M_holdsLine_L23, F_M_holdsLine_L23]
    refine so_ck rfl ?_
    refine so_ltv rfl (fun xq12 => ?_)
    refine so_ite rfl ?_ ?_
    · exact Jk273_5 _ _
    · refine so_ck rfl ?_
      refine so_ltv rfl (fun xq14 => ?_)
      refine so_ltj (fun z_ w_ => ∀ (q0_ : Int32) (q1_ : Mem), So L (z_ q0_ q1_) (w_ q0_ (mL q1_ L))) ?_ ?_
      · intro xq16 mq15
        refine so_ltv rfl (fun xq17 => ?_)
        exact ih _ _ _
      intro k267_16 k267_16w Jk267_16
      refine so_ite rfl ?_ ?_
      · refine so_ite rfl ?_ ?_
        · refine so_ck rfl ?_
          refine so_ltv rfl (fun xq30 => ?_)
          refine so_ck rfl ?_
          refine so_ltm rfl (fun mq31 => ?_)
          exact Jk267_16 _ _
        · refine so_ltv rfl (fun xq18 => ?_)
          refine so_ck rfl ?_
          refine so_ltv rfl (fun xq20 => ?_)
          refine so_ck rfl ?_
          refine so_ltv rfl (fun xq22 => ?_)
          refine so_ltj (fun z_ w_ => ∀ (q0_ : Bool) (q1_ : Mem), So L (z_ q0_ q1_) (w_ q0_ (mL q1_ L))) ?_ ?_
          · intro zq24 mq23
            refine so_ltj (fun z_ w_ => ∀ (q0_ : Int32) (q1_ : Mem), So L (z_ q0_ q1_) (w_ q0_ (mL q1_ L))) ?_ ?_
            · intro xq26 mq25
              refine so_ck rfl ?_
              refine so_ltm rfl (fun mq27 => ?_)
              exact Jk267_16 _ _
            intro k266_26 k266_26w Jk266_26
            refine so_ite rfl ?_ ?_
            · exact Jk266_26 _ _
            · refine so_ite rfl ?_ ?_
              · exact Jk266_26 _ _
              · exact Jk266_26 _ _
          intro k231_24 k231_24w Jk231_24
          refine so_ite rfl ?_ ?_
          · refine so_ite rfl ?_ ?_
            · exact Jk231_24 _ _
            · exact Jk231_24 _ _
          · refine so_ite rfl ?_ ?_
            · refine so_ite rfl ?_ ?_
              · exact Jk231_24 _ _
              · exact Jk231_24 _ _
            · refine so_ite rfl ?_ ?_
              · refine so_ite rfl ?_ ?_
                · exact Jk231_24 _ _
                · exact Jk231_24 _ _
              · refine so_ite rfl ?_ ?_
                · exact Jk231_24 _ _
                · exact Jk231_24 _ _
      · refine so_ltv rfl (fun xq33 => ?_)
        refine so_ck rfl ?_
        refine so_ltv rfl (fun xq35 => ?_)
        refine so_bnd (lc_M_factOf L _ _ _ _ _ _) (fun xq38 mq36 => ?_)
        refine so_ck rfl ?_
        refine so_ltm rfl (fun mq39 => ?_)
        refine so_ltv rfl (fun xq41 => ?_)
        exact Jk267_16 _ _
set_option maxHeartbeats 4000000 in
theorem lc_M_holdsLine (L : Nat → Nat → Int64) (a1 : Int32) (a2 : Int32) (a3 : Int32) (a4 : Int32) (m0 : Mem) : So L (F_M_holdsLine a1 a2 a3 a4 m0) (F_M_holdsLine a1 a2 a3 a4 (mL m0 L)) := by
  unfold F_M_holdsLine
  refine so_ltv rfl (fun xq1 => ?_)
  refine so_ck rfl ?_
  refine so_ltv rfl (fun xq3 => ?_)
  refine so_ltj (fun z_ w_ => ∀ (q0_ : Int32) (q1_ : Mem), So L (z_ q0_ q1_) (w_ q0_ (mL q1_ L))) ?_ ?_
  · intro xq5 mq4
    refine so_ite rfl ?_ ?_
    · exact so_some
    · refine so_ite rfl ?_ ?_
      · exact so_some
      · exact so_some
  intro k273_5 k273_5w Jk273_5
  exact lc_M_holdsLine_L23 L _ _ _ _ k273_5 k273_5w Jk273_5 _ _ _ _
set_option maxHeartbeats 4000000 in
theorem lc_M_levelOf_L17 (L : Nat → Nat → Int64) (a1 : Int32) (a2 : Int32) (a3 : Int32) (k70_2 k70_2w : Int32 → Mem → Option (Int32 × Mem)) (Jk70_2 : ∀ (b0 : Int32) (b1 : Mem), So L (k70_2 b0 b1) (k70_2w b0 (mL b1 L))) : ∀ (nf : Nat) (xq4 : Int32) (xq5 : Int32) (mq3 : Mem), So L (F_M_levelOf_L17 a1 a2 a3 k70_2 nf xq4 xq5 mq3) (F_M_levelOf_L17 a1 a2 a3 k70_2w nf xq4 xq5 (mL mq3 L)) := by
  intro nf
  induction nf with
  | zero =>
    intro xq4 xq5 mq3
    rw [F_M_levelOf_L17, F_M_levelOf_L17]
    exact so_none
  | succ nfq6 ih =>
    intro xq4 xq5 mq3
    rw [F_M_levelOf_L17, F_M_levelOf_L17]
    refine so_ite rfl ?_ ?_
    · exact Jk70_2 _ _
    · refine so_bnd (lc_M_holdsLine L _ _ _ _ _) (fun zq10 mq8 => ?_)
      refine so_ltj (fun z_ w_ => ∀ (q0_ : Int32) (q1_ : Mem), So L (z_ q0_ q1_) (w_ q0_ (mL q1_ L))) ?_ ?_
      · intro xq12 mq11
        refine so_ltv rfl (fun xq13 => ?_)
        refine so_ltv rfl (fun xq14 => ?_)
        exact ih _ _ _
      intro k61_12 k61_12w Jk61_12
      refine so_ite rfl ?_ ?_
      · refine so_ck rfl ?_
        refine so_ltv rfl (fun xq16 => ?_)
        exact Jk61_12 _ _
      · exact Jk61_12 _ _
set_option maxHeartbeats 4000000 in
theorem lc_M_levelOf (L : Nat → Nat → Int64) (a1 : Int32) (a2 : Int32) (a3 : Int32) (m0 : Mem) : So L (F_M_levelOf a1 a2 a3 m0) (F_M_levelOf a1 a2 a3 (mL m0 L)) := by
  unfold F_M_levelOf
  refine so_ite rfl ?_ ?_
  · exact so_some
  · refine so_ltj (fun z_ w_ => ∀ (q0_ : Int32) (q1_ : Mem), So L (z_ q0_ q1_) (w_ q0_ (mL q1_ L))) ?_ ?_
    · intro xq2 mq1
      exact so_some
    intro k70_2 k70_2w Jk70_2
    exact lc_M_levelOf_L17 L _ _ _ k70_2 k70_2w Jk70_2 _ _ _ _
set_option maxHeartbeats 4000000 in
theorem lc_M_laysLevels_L2 (L : Nat → Nat → Int64) (a1 : Int32) : ∀ (nf : Nat) (xq2 : Int32) (mq1 : Mem), So L (F_M_laysLevels_L2 a1 nf xq2 mq1) (F_M_laysLevels_L2 a1 nf xq2 (mL mq1 L)) := by
  intro nf
  induction nf with
  | zero =>
    intro xq2 mq1
    rw [F_M_laysLevels_L2, F_M_laysLevels_L2]
    exact so_none
  | succ nfq3 ih =>
    intro xq2 mq1
    rw [F_M_laysLevels_L2, F_M_laysLevels_L2]
    refine so_ite rfl ?_ ?_
    · exact so_some
    · refine so_bnd (lc_M_inningsOf L _ _) (fun xq7 mq5 => ?_)
      refine so_bnd (lc_M_inningsOf L _ _) (fun xq10 mq8 => ?_)
      refine so_bnd (lc_M_isBehind L _ _) (fun zq13 mq11 => ?_)
      refine so_bnd (lc_M_batting L _ _ _ _) (fun xq16 mq14 => ?_)
      refine so_bnd (lc_M_levelOf L _ _ _ _) (fun xq19 mq17 => ?_)
      refine so_ck rfl ?_
      refine so_ltm rfl (fun mq20 => ?_)
      refine so_ltv rfl (fun xq22 => ?_)
      exact ih _ _
set_option maxHeartbeats 4000000 in
theorem lc_M_laysLevels (L : Nat → Nat → Int64) (a1 : Int32) (m0 : Mem) : So L (F_M_laysLevels a1 m0) (F_M_laysLevels a1 (mL m0 L)) := by
  unfold F_M_laysLevels
  exact lc_M_laysLevels_L2 L _  _ _ _
set_option maxHeartbeats 4000000 in
theorem lc_M_has (L : Nat → Nat → Int64) (a0 : Int32) (a1 : Int32) (m0 : Mem) : So L (F_M_has a0 a1 m0) (F_M_has a0 a1 (mL m0 L)) := by
  unfold F_M_has
  refine so_ite rfl ?_ ?_
  · exact so_some
  · exact so_some
set_option maxHeartbeats 4000000 in
theorem lc_M_isRain (L : Nat → Nat → Int64) (a1 : Int32) (m0 : Mem) : So L (F_M_isRain a1 m0) (F_M_isRain a1 (mL m0 L)) := by
  unfold F_M_isRain
  refine so_bnd (lc_M_has L _ _ _) (fun zq3 mq1 => ?_)
  exact so_some
set_option maxHeartbeats 4000000 in
theorem lc_M_ofSlot (L : Nat → Nat → Int64) (a1 : Int32) (a2 : Int32) (a3 : Int32) (m0 : Mem) : So L (F_M_ofSlot a1 a2 a3 m0) (F_M_ofSlot a1 a2 a3 (mL m0 L)) := by
  unfold F_M_ofSlot
  refine so_ltv rfl (fun xq1 => ?_)
  refine so_ck rfl ?_
  refine so_ltv rfl (fun xq3 => ?_)
  exact so_some
set_option maxHeartbeats 4000000 in
theorem lc_M_runsOf (L : Nat → Nat → Int64) (a1 : Int32) (a2 : Int32) (a3 : Int32) (a4 : Bool) (m0 : Mem) : So L (F_M_runsOf a1 a2 a3 a4 m0) (F_M_runsOf a1 a2 a3 a4 (mL m0 L)) := by
  unfold F_M_runsOf
  refine so_ite rfl ?_ ?_
  · exact so_some
  · refine so_bnd (lc_M_isRain L _ _) (fun zq3 mq1 => ?_)
    refine so_ite rfl ?_ ?_
    · exact so_some
    · refine so_ck rfl ?_
      refine so_ltv rfl (fun xq5 => ?_)
      refine so_bnd (lc_M_ofSlot L _ _ _ _) (fun xq8 mq6 => ?_)
      exact so_some
set_option maxHeartbeats 4000000 in
theorem lc_M_outsOf (L : Nat → Nat → Int64) (a1 : Int32) (a2 : Int32) (a3 : Int32) (a4 : Bool) (m0 : Mem) : So L (F_M_outsOf a1 a2 a3 a4 m0) (F_M_outsOf a1 a2 a3 a4 (mL m0 L)) := by
  unfold F_M_outsOf
  refine so_bnd (lc_M_isRain L _ _) (fun zq3 mq1 => ?_)
  refine so_ite rfl ?_ ?_
  · exact so_some
  · refine so_ck rfl ?_
    refine so_ltv rfl (fun xq5 => ?_)
    refine so_bnd (lc_M_ofSlot L _ _ _ _) (fun xq8 mq6 => ?_)
    refine so_ltj (fun z_ w_ => ∀ (q0_ : Bool) (q1_ : Mem), So L (z_ q0_ q1_) (w_ q0_ (mL q1_ L))) ?_ ?_
    · intro zq10 mq9
      exact so_some
    intro k35_10 k35_10w Jk35_10
    refine so_ite rfl ?_ ?_
    · exact Jk35_10 _ _
    · exact Jk35_10 _ _
set_option maxHeartbeats 4000000 in
theorem lc_M_nextKind (L : Nat → Nat → Int64) (a0 : Int32) (m0 : Mem) : So L (F_M_nextKind a0 m0) (F_M_nextKind a0 (mL m0 L)) := by
  unfold F_M_nextKind
  refine so_ite rfl ?_ ?_
  · exact so_some
  · exact so_some
set_option maxHeartbeats 4000000 in
theorem lc_M_cell (L : Nat → Nat → Int64) (a0 : Int32) (a1 : Int32) (a2 : Int32) (a3 : Int32) (m0 : Mem) : So L (F_M_cell a0 a1 a2 a3 m0) (F_M_cell a0 a1 a2 a3 (mL m0 L)) := by
  unfold F_M_cell
  refine so_ltv rfl (fun xq1 => ?_)
  refine so_ltv rfl (fun xq2 => ?_)
  exact so_some
set_option maxHeartbeats 4000000 in
theorem lc_M_all (L : Nat → Nat → Int64) (a1 : Int32) (m0 : Mem) : So L (F_M_all a1 m0) (F_M_all a1 (mL m0 L)) := by
  unfold F_M_all
  refine so_bnd (lc_M_size L _) (fun xq3 mq1 => ?_)
  refine so_ltv rfl (fun xq4 => ?_)
  exact so_some
set_option maxHeartbeats 4000000 in
theorem lc_M_brings (L : Nat → Nat → Int64) (a1 : Int32) (a2 : Int32) (a3 : Int32) (a4 : Int32) (a5 : Int32) (a6 : Bool) (m0 : Mem) : So L (F_M_brings a1 a2 a3 a4 a5 a6 m0) (F_M_brings a1 a2 a3 a4 a5 a6 (mL m0 L)) := by
  unfold F_M_brings
  refine so_bnd (lc_M_runsOf L _ _ _ _ _) (fun xq3 mq1 => ?_)
  refine so_ltv rfl (fun xq4 => ?_)
  refine so_ltj (fun z_ w_ => ∀ (q0_ : Int32) (q1_ : Mem), So L (z_ q0_ q1_) (w_ q0_ (mL q1_ L))) ?_ ?_
  · intro xq6 mq5
    refine so_bnd (lc_M_outsOf L _ _ _ _ _) (fun xq9 mq7 => ?_)
    refine so_ltv rfl (fun xq10 => ?_)
    refine so_ltj (fun z_ w_ => ∀ (q0_ : Mem), So L (z_ q0_) (w_ (mL q0_ L))) ?_ ?_
    · intro mq11
      refine so_ite rfl ?_ ?_
      · refine so_ite rfl ?_ ?_
        · refine so_bnd (lc_M_nextKind L _ _) (fun xq14 mq12 => ?_)
          refine so_ltj (fun z_ w_ => ∀ (q0_ : Mem), So L (z_ q0_) (w_ (mL q0_ L))) ?_ ?_
          · intro mq15
            refine so_bnd (lc_M_size L _) (fun xq18 mq16 => ?_)
            refine so_ite rfl ?_ ?_
            · exact so_some
            · refine so_bnd (lc_M_nextKind L _ _) (fun xq21 mq19 => ?_)
              refine so_bnd (lc_M_cell L _ _ _ _ _) (fun xq24 mq22 => ?_)
              refine so_ck rfl ?_
              refine so_ltv rfl (fun xq26 => ?_)
              refine so_ltm rfl (fun mq27 => ?_)
              refine so_bnd (lc_M_nextKind L _ _) (fun xq30 mq28 => ?_)
              refine so_bnd (lc_M_cell L _ _ _ _ _) (fun xq33 mq31 => ?_)
              refine so_ck rfl ?_
              refine so_ltv rfl (fun xq35 => ?_)
              refine so_ltm rfl (fun mq36 => ?_)
              exact so_some
          intro k204_15 k204_15w Jk204_15
          refine so_ite rfl ?_ ?_
          · exact Jk204_15 _
          · refine so_ite rfl ?_ ?_
            · exact Jk204_15 _
            · refine so_bnd (lc_M_all L _ _) (fun xq39 mq37 => ?_)
              refine so_ltm rfl (fun mq40 => ?_)
              exact so_some
        · refine so_ltj (fun z_ w_ => ∀ (q0_ : Int32) (q1_ : Mem), So L (z_ q0_ q1_) (w_ q0_ (mL q1_ L))) ?_ ?_
          · intro xq42 mq41
            refine so_ltm rfl (fun mq43 => ?_)
            exact so_some
          intro k165_42 k165_42w Jk165_42
          refine so_ite rfl ?_ ?_
          · exact Jk165_42 _ _
          · refine so_bnd (lc_M_all L _ _) (fun xq46 mq44 => ?_)
            exact Jk165_42 _ _
      · refine so_bnd (lc_M_size L _) (fun xq49 mq47 => ?_)
        refine so_ite rfl ?_ ?_
        · exact so_some
        · refine so_bnd (lc_M_cell L _ _ _ _ _) (fun xq52 mq50 => ?_)
          refine so_ck rfl ?_
          refine so_ltv rfl (fun xq54 => ?_)
          refine so_ltm rfl (fun mq55 => ?_)
          refine so_bnd (lc_M_cell L _ _ _ _ _) (fun xq58 mq56 => ?_)
          refine so_ck rfl ?_
          refine so_ltv rfl (fun xq60 => ?_)
          refine so_ltm rfl (fun mq61 => ?_)
          exact so_some
    intro k68_11 k68_11w Jk68_11
    refine so_ite rfl ?_ ?_
    · exact Jk68_11 _
    · refine so_ite rfl ?_ ?_
      · exact Jk68_11 _
      · refine so_bnd (lc_M_all L _ _) (fun xq64 mq62 => ?_)
        refine so_ltm rfl (fun mq65 => ?_)
        exact so_some
  intro k26_6 k26_6w Jk26_6
  refine so_ite rfl ?_ ?_
  · exact Jk26_6 _ _
  · exact Jk26_6 _ _
set_option maxHeartbeats 4000000 in
theorem lc_M_goesOn_L13 (L : Nat → Nat → Int64) (a1 : Int32) (a2 : Int32) (a3 : Int32) (a4 : Int32) (a5 : Bool) : ∀ (nf : Nat) (xq4 : Int32) (mq3 : Mem), So L (F_M_goesOn_L13 a1 a2 a3 a4 a5 nf xq4 mq3) (F_M_goesOn_L13 a1 a2 a3 a4 a5 nf xq4 (mL mq3 L)) := by
  intro nf
  induction nf with
  | zero =>
    intro xq4 mq3
    rw [F_M_goesOn_L13, F_M_goesOn_L13]
    exact so_none
  | succ nfq5 ih =>
    intro xq4 mq3
    rw [F_M_goesOn_L13, F_M_goesOn_L13]
    refine so_ite rfl ?_ ?_
    · exact so_some
    · refine so_bnd (lc_M_brings L _ _ _ _ _ _ _) (fun _ mq7 => ?_)
      refine so_ltv rfl (fun xq10 => ?_)
      exact ih _ _
set_option maxHeartbeats 4000000 in
theorem lc_M_goesOn (L : Nat → Nat → Int64) (a1 : Int32) (a2 : Int32) (a3 : Int32) (a4 : Int32) (a5 : Bool) (m0 : Mem) : So L (F_M_goesOn a1 a2 a3 a4 a5 m0) (F_M_goesOn a1 a2 a3 a4 a5 (mL m0 L)) := by
  unfold F_M_goesOn
  refine so_ltm rfl (fun mq1 => ?_)
  refine so_ltm rfl (fun mq2 => ?_)
  exact lc_M_goesOn_L13 L _ _ _ _ _  _ _ _
set_option maxHeartbeats 4000000 in
theorem lc_M_worthOf (L : Nat → Nat → Int64) (a1 : Int32) (a2 : Int32) (a3 : Int32) (m0 : Mem) : So L (F_M_worthOf a1 a2 a3 m0) (F_M_worthOf a1 a2 a3 (mL m0 L)) := by
  unfold F_M_worthOf
  refine so_bnd (lc_M_all L _ _) (fun xq3 mq1 => ?_)
  refine so_ltv rfl (fun yq4 => ?_)
  exact so_some
set_option maxHeartbeats 4000000 in
theorem lc_M_got (L : Nat → Nat → Int64) (a1 : Int32) (m0 : Mem) : So L (F_M_got a1 m0) (F_M_got a1 (mL m0 L)) := by
  unfold F_M_got
  refine so_bnd (lc_M_worthOf L _ _ _ _) (fun yq3 mq1 => ?_)
  exact so_some
set_option maxHeartbeats 4000000 in
theorem lc_M_mayDeclare (L : Nat → Nat → Int64) (a1 : Int32) (a2 : Int32) (m0 : Mem) : So L (F_M_mayDeclare a1 a2 m0) (F_M_mayDeclare a1 a2 (mL m0 L)) := by
  unfold F_M_mayDeclare
  refine so_ite rfl ?_ ?_
  · exact so_some
  · refine so_ite rfl ?_ ?_
    · exact so_some
    · exact so_some
set_option maxHeartbeats 4000000 in
theorem lc_M_mayFollow (L : Nat → Nat → Int64) (a1 : Int32) (a2 : Int32) (a3 : Int32) (m0 : Mem) : So L (F_M_mayFollow a1 a2 a3 m0) (F_M_mayFollow a1 a2 a3 (mL m0 L)) := by
  unfold F_M_mayFollow
  refine so_ite rfl ?_ ?_
  · refine so_ite rfl ?_ ?_
    · refine so_ite rfl ?_ ?_
      · exact so_some
      · exact so_some
    · exact so_some
  · exact so_some
set_option maxHeartbeats 4000000 in
theorem lc_M_handsOver (L : Nat → Nat → Int64) (a1 : Int32) (a2 : Int32) (a3 : Int32) (m0 : Mem) : So L (F_M_handsOver a1 a2 a3 m0) (F_M_handsOver a1 a2 a3 (mL m0 L)) := by
  unfold F_M_handsOver
  refine so_bnd (lc_M_cell L _ _ _ _ _) (fun xq3 mq1 => ?_)
  refine so_ck rfl ?_
  refine so_ltv rfl (fun xq5 => ?_)
  refine so_ltm rfl (fun mq6 => ?_)
  refine so_bnd (lc_M_cell L _ _ _ _ _) (fun xq9 mq7 => ?_)
  refine so_ck rfl ?_
  refine so_ltv rfl (fun xq11 => ?_)
  refine so_ltm rfl (fun mq12 => ?_)
  exact so_some
set_option maxHeartbeats 4000000 in
theorem lc_M_tries (L : Nat → Nat → Int64) (a1 : Int32) (a2 : Int32) (a3 : Int32) (a4 : Int32) (m0 : Mem) : So L (F_M_tries a1 a2 a3 a4 m0) (F_M_tries a1 a2 a3 a4 (mL m0 L)) := by
  unfold F_M_tries
  refine so_ite rfl ?_ ?_
  · refine so_bnd (lc_M_mayDeclare L _ _ _) (fun zq3 mq1 => ?_)
    refine so_ite rfl ?_ ?_
    · refine so_bnd (lc_M_nextKind L _ _) (fun xq12 mq10 => ?_)
      refine so_bnd (lc_M_handsOver L _ _ _ _) (fun _ mq13 => ?_)
      exact so_some
    · refine so_bnd (lc_M_mayFollow L _ _ _ _) (fun zq6 mq4 => ?_)
      refine so_ite rfl ?_ ?_
      · refine so_bnd (lc_M_handsOver L _ _ _ _) (fun _ mq7 => ?_)
        exact so_some
      · exact so_some
  · refine so_bnd (lc_M_goesOn L _ _ _ _ _ _) (fun _ mq16 => ?_)
    exact so_some
set_option maxHeartbeats 4000000 in
theorem lc_M_chooses (L : Nat → Nat → Int64) (a1 : Int32) (a2 : Int32) (a3 : Int32) (a4 : Int32) (m0 : Mem) : So L (F_M_chooses a1 a2 a3 a4 m0) (F_M_chooses a1 a2 a3 a4 (mL m0 L)) := by
  unfold F_M_chooses
  refine so_ltv rfl (fun xq1 => ?_)
  refine so_ltv rfl (fun xq2 => ?_)
  refine so_bnd (lc_M_got L _ _) (fun yq5 mq3 => ?_)
  refine so_bnd (lc_M_tries L _ _ _ _ _) (fun _ mq6 => ?_)
  refine so_bnd (lc_M_got L _ _) (fun yq11 mq9 => ?_)
  refine so_ite rfl ?_ ?_
  · refine so_ltm rfl (fun mq12 => ?_)
    refine so_ltm rfl (fun mq13 => ?_)
    exact so_some
  · exact so_some
set_option maxHeartbeats 4000000 in
theorem lc_M_counts (L : Nat → Nat → Int64) (a1 : Int32) (a2 : Int32) (a3 : Int32) (a4 : Int32) (m0 : Mem) : So L (F_M_counts a1 a2 a3 a4 m0) (F_M_counts a1 a2 a3 a4 (mL m0 L)) := by
  unfold F_M_counts
  refine so_ltj (fun z_ w_ => ∀ (q0_ : Mem), So L (z_ q0_) (w_ (mL q0_ L))) ?_ ?_
  · intro mq1
    refine so_bnd (lc_M_goesOn L _ _ _ _ _ _) (fun _ mq2 => ?_)
    refine so_ite rfl ?_ ?_
    · exact so_some
    · refine so_bnd (lc_M_chooses L _ _ _ _ _) (fun zq7 mq5 => ?_)
      exact so_some
  intro k25_1 k25_1w Jk25_1
  refine so_ite rfl ?_ ?_
  · exact Jk25_1 _
  · refine so_ite rfl ?_ ?_
    · exact Jk25_1 _
    · refine so_bnd (lc_M_all L _ _) (fun xq10 mq8 => ?_)
      refine so_ltm rfl (fun mq11 => ?_)
      refine so_ltm rfl (fun mq12 => ?_)
      exact so_some
set_option maxHeartbeats 4000000 in
theorem lc_M_layers_L71 (L : Nat → Nat → Int64) (xq10 : Int32) (xq16 : Int32) (xq20 : Int32) (xq26 : Int32) (k136_30 k136_30w : Mem → Option (Unit × Mem)) (Jk136_30 : ∀ (b0 : Mem), So L (k136_30 b0) (k136_30w (mL b0 L))) : ∀ (nf : Nat) (xq33 : Int32) (mq32 : Mem), So L (F_M_layers_L71 xq10 xq16 xq20 xq26 k136_30 nf xq33 mq32) (F_M_layers_L71 xq10 xq16 xq20 xq26 k136_30w nf xq33 (mL mq32 L)) := by
  intro nf
  induction nf with
  | zero =>
    intro xq33 mq32
    rw [F_M_layers_L71, F_M_layers_L71]
    exact so_none
  | succ nfq34 ih =>
    intro xq33 mq32
    rw [F_M_layers_L71, F_M_layers_L71]
    refine so_ite rfl ?_ ?_
    · exact Jk136_30 _
    · refine so_bnd (lc_M_counts L _ _ _ _ _) (fun _ mq36 => ?_)
      refine so_bnd (lc_M_cell L _ _ _ _ _) (fun xq41 mq39 => ?_)
      refine so_ck rfl ?_
      refine so_ltm rfl (fun mq42 => ?_)
      refine so_bnd (lc_M_cell L _ _ _ _ _) (fun xq46 mq44 => ?_)
      refine so_ck rfl ?_
      refine so_ltm rfl (fun mq47 => ?_)
      refine so_ltv rfl (fun xq49 => ?_)
      exact ih _ _
set_option maxHeartbeats 4000000 in
theorem lc_M_layers_L59 (L : Nat → Nat → Int64) (xq10 : Int32) (xq16 : Int32) (xq20 : Int32) (k142_23 k142_23w : Mem → Option (Unit × Mem)) (Jk142_23 : ∀ (b0 : Mem), So L (k142_23 b0) (k142_23w (mL b0 L))) : ∀ (nf : Nat) (xq26 : Int32) (mq25 : Mem), So L (F_M_layers_L59 xq10 xq16 xq20 k142_23 nf xq26 mq25) (F_M_layers_L59 xq10 xq16 xq20 k142_23w nf xq26 (mL mq25 L)) := by
  intro nf
  induction nf with
  | zero =>
    intro xq26 mq25
    rw [F_M_layers_L59, F_M_layers_L59]
    exact so_none
  | succ nfq27 ih =>
    intro xq26 mq25
    rw [F_M_layers_L59, F_M_layers_L59]
    refine so_ite rfl ?_ ?_
    · exact Jk142_23 _
    · refine so_ltv rfl (fun xq29 => ?_)
      refine so_ltj (fun z_ w_ => ∀ (q0_ : Mem), So L (z_ q0_) (w_ (mL q0_ L))) ?_ ?_
      · intro mq30
        refine so_ltv rfl (fun xq31 => ?_)
        exact ih _ _
      intro k136_30 k136_30w Jk136_30
      exact lc_M_layers_L71 L _ _ _ _ k136_30 k136_30w Jk136_30 _ _ _
set_option maxHeartbeats 4000000 in
theorem lc_M_layers_L51 (L : Nat → Nat → Int64) (xq10 : Int32) (xq16 : Int32) (k148_17 k148_17w : Mem → Option (Unit × Mem)) (Jk148_17 : ∀ (b0 : Mem), So L (k148_17 b0) (k148_17w (mL b0 L))) : ∀ (nf : Nat) (xq20 : Int32) (mq19 : Mem), So L (F_M_layers_L51 xq10 xq16 k148_17 nf xq20 mq19) (F_M_layers_L51 xq10 xq16 k148_17w nf xq20 (mL mq19 L)) := by
  intro nf
  induction nf with
  | zero =>
    intro xq20 mq19
    rw [F_M_layers_L51, F_M_layers_L51]
    exact so_none
  | succ nfq21 ih =>
    intro xq20 mq19
    rw [F_M_layers_L51, F_M_layers_L51]
    refine so_ite rfl ?_ ?_
    · exact Jk148_17 _
    · refine so_ltj (fun z_ w_ => ∀ (q0_ : Mem), So L (z_ q0_) (w_ (mL q0_ L))) ?_ ?_
      · intro mq23
        refine so_ltv rfl (fun xq24 => ?_)
        exact ih _ _
      intro k142_23 k142_23w Jk142_23
      exact lc_M_layers_L59 L _ _ _ k142_23 k142_23w Jk142_23 _ _ _
set_option maxHeartbeats 4000000 in
theorem lc_M_layers_L19 (L : Nat → Nat → Int64) (a2 : Int32) (a3 : Int32) (xq4 : Int32) : ∀ (nf : Nat) (xq10 : Int32) (mq9 : Mem), So L (F_M_layers_L19 a2 a3 xq4 nf xq10 mq9) (F_M_layers_L19 a2 a3 xq4 nf xq10 (mL mq9 L)) := by
  intro nf
  induction nf with
  | zero =>
    intro xq10 mq9
    rw [F_M_layers_L19, F_M_layers_L19]
    exact so_none
  | succ nfq11 ih =>
    intro xq10 mq9
    rw [F_M_layers_L19, F_M_layers_L19]
    refine so_ite rfl ?_ ?_
    · exact so_some
    · refine so_bnd (lc_M_laysLevels L _ _) (fun _ mq13 => ?_)
      refine so_ltv rfl (fun xq16 => ?_)
      refine so_ltj (fun z_ w_ => ∀ (q0_ : Mem), So L (z_ q0_) (w_ (mL q0_ L))) ?_ ?_
      · intro mq17
        refine so_ltv rfl (fun xq18 => ?_)
        exact ih _ _
      intro k148_17 k148_17w Jk148_17
      exact lc_M_layers_L51 L _ _ k148_17 k148_17w Jk148_17 _ _ _
set_option maxHeartbeats 4000000 in
theorem lc_M_layers (L : Nat → Nat → Int64) (a1 : Int32) (a2 : Int32) (a3 : Int32) (m0 : Mem) : So L (F_M_layers a1 a2 a3 m0) (F_M_layers a1 a2 a3 (mL m0 L)) := by
  unfold F_M_layers
  refine so_ltm rfl (fun mq1 => ?_)
  refine so_bnd (lc_M_mostRuns L _) (fun xq4 mq2 => ?_)
  refine so_bnd (lc_M_size L _) (fun xq7 mq5 => ?_)
  refine so_ltv rfl (fun xq8 => ?_)
  exact lc_M_layers_L19 L _ _ _  _ _ _
set_option maxHeartbeats 4000000 in
theorem lc_M_kindOf (L : Nat → Nat → Int64) (a0 : Int32) (a1 : Bool) (m0 : Mem) : So L (F_M_kindOf a0 a1 m0) (F_M_kindOf a0 a1 (mL m0 L)) := by
  unfold F_M_kindOf
  refine so_ite rfl ?_ ?_
  · refine so_ite rfl ?_ ?_
    · refine so_ite rfl ?_ ?_
      · exact so_some
      · exact so_some
    · refine so_ite rfl ?_ ?_
      · exact so_some
      · exact so_some
  · exact so_some
set_option maxHeartbeats 4000000 in
theorem lc_M_kindNow (L : Nat → Nat → Int64) (m0 : Mem) : So L (F_M_kindNow m0) (F_M_kindNow (mL m0 L)) := by
  unfold F_M_kindNow
  refine so_bnd (lc_M_isFollowed L _) (fun zq3 mq1 => ?_)
  refine so_bnd (lc_M_kindOf L _ _ _) (fun xq6 mq4 => ?_)
  exact so_some
set_option maxHeartbeats 4000000 in
theorem lc_M_outNow (L : Nat → Nat → Int64) (m0 : Mem) : So L (F_M_outNow m0) (F_M_outNow (mL m0 L)) := by
  unfold F_M_outNow
  refine so_ite rfl ?_ ?_
  · exact so_some
  · exact so_some
set_option maxHeartbeats 4000000 in
theorem lc_M_countsAfter (L : Nat → Nat → Int64) (a1 : Int32) (m0 : Mem) : So L (F_M_countsAfter a1 m0) (F_M_countsAfter a1 (mL m0 L)) := by
  unfold F_M_countsAfter
  refine so_bnd (lc_M_played L _) (fun xq3 mq1 => ?_)
  refine so_bnd (lc_M_batter L _) (fun xq6 mq4 => ?_)
  refine so_bnd (lc_M_leadOf L _ _) (fun xq9 mq7 => ?_)
  refine so_ltm rfl (fun mq10 => ?_)
  refine so_bnd (lc_M_firstSide L _) (fun xq13 mq11 => ?_)
  refine so_bnd (lc_M_mostRuns L _) (fun xq16 mq14 => ?_)
  refine so_bnd (lc_M_layers L _ _ _ _) (fun _ mq17 => ?_)
  refine so_bnd (lc_M_laysLevels L _ _) (fun _ mq20 => ?_)
  refine so_ltm rfl (fun mq23 => ?_)
  refine so_ltm rfl (fun mq24 => ?_)
  refine so_bnd (lc_M_kindNow L _) (fun xq27 mq25 => ?_)
  refine so_bnd (lc_M_outNow L _) (fun xq30 mq28 => ?_)
  refine so_bnd (lc_M_brings L _ _ _ _ _ _ _) (fun _ mq31 => ?_)
  exact so_some
set_option maxHeartbeats 4000000 in
theorem lc_M_waysOf (L : Nat → Nat → Int64) (a1 : Int32) (a2 : Int32) (a3 : Int32) (m0 : Mem) : So L (F_M_waysOf a1 a2 a3 m0) (F_M_waysOf a1 a2 a3 (mL m0 L)) := by
  unfold F_M_waysOf
  refine so_ltj (fun z_ w_ => ∀ (q0_ : Int32) (q1_ : Mem), So L (z_ q0_ q1_) (w_ q0_ (mL q1_ L))) ?_ ?_
  · intro xq2 mq1
    refine so_ltj (fun z_ w_ => ∀ (q0_ : Int32) (q1_ : Mem), So L (z_ q0_ q1_) (w_ q0_ (mL q1_ L))) ?_ ?_
    · intro xq4 mq3
      refine so_ite rfl ?_ ?_
      · exact so_some
      · refine so_ite rfl ?_ ?_
        · exact so_some
        · refine so_ite rfl ?_ ?_
          · refine so_bnd (lc_M_all L _ _) (fun xq10 mq8 => ?_)
            exact so_some
          · refine so_bnd (lc_M_all L _ _) (fun xq7 mq5 => ?_)
            exact so_some
    intro k32_4 k32_4w Jk32_4
    refine so_ite rfl ?_ ?_
    · exact Jk32_4 _ _
    · exact Jk32_4 _ _
  intro k15_2 k15_2w Jk15_2
  refine so_ite rfl ?_ ?_
  · exact Jk15_2 _ _
  · exact Jk15_2 _ _
set_option maxHeartbeats 4000000 in
theorem lc_M_after_IIJ (L : Nat → Nat → Int64) (a1 : Int32) (a2 : Int32) (m0 : Mem) : So L (F_M_after_IIJ a1 a2 m0) (F_M_after_IIJ a1 a2 (mL m0 L)) := by
  unfold F_M_after_IIJ
  refine so_ltm rfl (fun mq1 => ?_)
  refine so_bnd (lc_M_noSlot L _ _) (fun zq4 mq2 => ?_)
  refine so_bnd (lc_M_throwsIf L _ _ _) (fun zq7 mq5 => ?_)
  refine so_ite rfl ?_ ?_
  · exact so_some
  · refine so_bnd (lc_M_isOn L _) (fun zq10 mq8 => ?_)
    refine so_ltj (fun z_ w_ => ∀ (q0_ : Bool) (q1_ : Mem), So L (z_ q0_ q1_) (w_ q0_ (mL q1_ L))) ?_ ?_
    · intro zq12 mq11
      refine so_bnd (lc_M_throwsIf L _ _ _) (fun zq15 mq13 => ?_)
      refine so_ite rfl ?_ ?_
      · exact so_some
      · refine so_bnd (lc_M_in L _ _ _ _) (fun zq18 mq16 => ?_)
        refine so_ltj (fun z_ w_ => ∀ (q0_ : Bool) (q1_ : Mem), So L (z_ q0_ q1_) (w_ q0_ (mL q1_ L))) ?_ ?_
        · intro zq20 mq19
          refine so_bnd (lc_M_throwsIf L _ _ _) (fun zq23 mq21 => ?_)
          refine so_ite rfl ?_ ?_
          · exact so_some
          · refine so_bnd (lc_M_countsAfter L _ _) (fun _ mq24 => ?_)
            refine so_bnd (lc_M_played L _) (fun xq29 mq27 => ?_)
            refine so_bnd (lc_M_batter L _) (fun xq32 mq30 => ?_)
            refine so_bnd (lc_M_waysOf L _ _ _ _) (fun yq35 mq33 => ?_)
            exact so_some
        intro k52_20 k52_20w Jk52_20
        refine so_ite rfl ?_ ?_
        · exact Jk52_20 _ _
        · exact Jk52_20 _ _
    intro k30_12 k30_12w Jk30_12
    refine so_ite rfl ?_ ?_
    · exact Jk30_12 _ _
    · exact Jk30_12 _ _
set_option maxHeartbeats 4000000 in
theorem lc_M_remembers_L55 (L : Nat → Nat → Int64)  : ∀ (nf : Nat) (xq3 : Int32) (mq2 : Mem), So L (F_M_remembers_L55  nf xq3 mq2) (F_M_remembers_L55  nf xq3 (mL mq2 L)) := by
  intro nf
  induction nf with
  | zero =>
    intro xq3 mq2
    rw [F_M_remembers_L55, F_M_remembers_L55]
    exact so_none
  | succ nfq4 ih =>
    intro xq3 mq2
    rw [F_M_remembers_L55, F_M_remembers_L55]
    refine so_ite rfl ?_ ?_
    · exact so_some
    · refine so_ltv rfl (fun xq6 => ?_)
      refine so_ck rfl ?_
      refine so_ltv rfl (fun xq8 => ?_)
      refine so_ck rfl ?_
      refine so_ltm rfl (fun mq9 => ?_)
      refine so_ltv rfl (fun xq11 => ?_)
      exact ih _ _
set_option maxHeartbeats 4000000 in
theorem lc_M_remembers_L11 (L : Nat → Nat → Int64) (k40_13 k40_13w : Mem → Option (Unit × Mem)) (Jk40_13 : ∀ (b0 : Mem), So L (k40_13 b0) (k40_13w (mL b0 L))) : ∀ (nf : Nat) (xq15 : Int32) (mq14 : Mem), So L (F_M_remembers_L11 k40_13 nf xq15 mq14) (F_M_remembers_L11 k40_13w nf xq15 (mL mq14 L)) := by
  intro nf
  induction nf with
  | zero =>
    intro xq15 mq14
    rw [F_M_remembers_L11, F_M_remembers_L11]
    exact so_none
  | succ nfq16 ih =>
    intro xq15 mq14
    rw [F_M_remembers_L11, F_M_remembers_L11]
    refine so_ite rfl ?_ ?_
    · exact Jk40_13 _
    · refine so_ck rfl ?_
      refine so_ltv rfl (fun xq19 => ?_)
      refine so_ck rfl ?_
      refine so_ltm rfl (fun mq20 => ?_)
      refine so_ltv rfl (fun xq22 => ?_)
      exact ih _ _
set_option maxHeartbeats 4000000 in
theorem lc_M_remembers (L : Nat → Nat → Int64) (m0 : Mem) : So L (F_M_remembers m0) (F_M_remembers (mL m0 L)) := by
  unfold F_M_remembers
  refine so_ltj (fun z_ w_ => ∀ (q0_ : Mem), So L (z_ q0_) (w_ (mL q0_ L))) ?_ ?_
  · intro mq1
    exact lc_M_remembers_L55 L   _ _ _
  intro k53_1 k53_1w Jk53_1
  refine so_ite rfl ?_ ?_
  · refine so_ltj (fun z_ w_ => ∀ (q0_ : Mem), So L (z_ q0_) (w_ (mL q0_ L))) ?_ ?_
    · intro mq13
      exact Jk53_1 _
    intro k40_13 k40_13w Jk40_13
    exact lc_M_remembers_L11 L k40_13 k40_13w Jk40_13 _ _ _
  · refine so_ltm rfl (fun mq12 => ?_)
    exact Jk53_1 _
set_option maxHeartbeats 4000000 in
theorem lc_M_anew_L56 (L : Nat → Nat → Int64) (xq7 : Int32) : ∀ (nf : Nat) (xq12 : Int32) (mq11 : Mem), So L (F_M_anew_L56 xq7 nf xq12 mq11) (F_M_anew_L56 xq7 nf xq12 (mL mq11 L)) := by
  intro nf
  induction nf with
  | zero =>
    intro xq12 mq11
    rw [F_M_anew_L56, F_M_anew_L56]
    exact so_none
  | succ nfq13 ih =>
    intro xq12 mq11
    rw [F_M_anew_L56, F_M_anew_L56]
    refine so_ite rfl ?_ ?_
    · exact so_some
    · refine so_ck rfl ?_
      refine so_ltm rfl (fun mq15 => ?_)
      refine so_ltv rfl (fun xq17 => ?_)
      exact ih _ _
set_option maxHeartbeats 4000000 in
theorem lc_M_anew_L17 (L : Nat → Nat → Int64) (k36_8 k36_8w : Mem → Option (Int32 × Mem)) (Jk36_8 : ∀ (b0 : Mem), So L (k36_8 b0) (k36_8w (mL b0 L))) : ∀ (nf : Nat) (xq19 : Int32) (mq18 : Mem), So L (F_M_anew_L17 k36_8 nf xq19 mq18) (F_M_anew_L17 k36_8w nf xq19 (mL mq18 L)) := by
  intro nf
  induction nf with
  | zero =>
    intro xq19 mq18
    rw [F_M_anew_L17, F_M_anew_L17]
    exact so_none
  | succ nfq20 ih =>
    intro xq19 mq18
    rw [F_M_anew_L17, F_M_anew_L17]
    refine so_ite rfl ?_ ?_
    · exact Jk36_8 _
    · refine so_ck rfl ?_
      refine so_ltm rfl (fun mq22 => ?_)
      refine so_ltv rfl (fun xq24 => ?_)
      exact ih _ _
set_option maxHeartbeats 4000000 in
theorem lc_M_anew (L : Nat → Nat → Int64) (m0 : Mem) : So L (F_M_anew m0) (F_M_anew (mL m0 L)) := by
  unfold F_M_anew
  refine so_ltm rfl (fun mq1 => ?_)
  refine so_bnd (lc_M_remembers L _) (fun _ mq2 => ?_)
  refine so_bnd (lc_M_played L _) (fun xq7 mq5 => ?_)
  refine so_ltj (fun z_ w_ => ∀ (q0_ : Mem), So L (z_ q0_) (w_ (mL q0_ L))) ?_ ?_
  · intro mq8
    refine so_ltm rfl (fun mq9 => ?_)
    refine so_ltm rfl (fun mq10 => ?_)
    exact lc_M_anew_L56 L _  _ _ _
  intro k36_8 k36_8w Jk36_8
  exact lc_M_anew_L17 L k36_8 k36_8w Jk36_8 _ _ _
set_option maxHeartbeats 4000000 in
theorem lc_M_back_L16 (L : Nat → Nat → Int64) (k41_2 k41_2w : Mem → Option (Bool × Mem)) (Jk41_2 : ∀ (b0 : Mem), So L (k41_2 b0) (k41_2w (mL b0 L))) : ∀ (nf : Nat) (xq5 : Int32) (mq4 : Mem), So L (F_M_back_L16 k41_2 nf xq5 mq4) (F_M_back_L16 k41_2w nf xq5 (mL mq4 L)) := by
  intro nf
  induction nf with
  | zero =>
    intro xq5 mq4
    rw [F_M_back_L16, F_M_back_L16]
    exact so_none
  | succ nfq6 ih =>
    intro xq5 mq4
    rw [F_M_back_L16, F_M_back_L16]
    refine so_ite rfl ?_ ?_
    · exact Jk41_2 _
    · refine so_ck rfl ?_
      refine so_ltv rfl (fun xq9 => ?_)
      refine so_ck rfl ?_
      refine so_ltm rfl (fun mq10 => ?_)
      refine so_ltv rfl (fun xq12 => ?_)
      exact ih _ _
set_option maxHeartbeats 4000000 in
theorem lc_M_back (L : Nat → Nat → Int64) (m0 : Mem) : So L (F_M_back m0) (F_M_back (mL m0 L)) := by
  unfold F_M_back
  refine so_ltm rfl (fun mq1 => ?_)
  refine so_ite rfl ?_ ?_
  · refine so_ltj (fun z_ w_ => ∀ (q0_ : Mem), So L (z_ q0_) (w_ (mL q0_ L))) ?_ ?_
    · intro mq2
      refine so_ltm rfl (fun mq3 => ?_)
      exact so_some
    intro k41_2 k41_2w Jk41_2
    exact lc_M_back_L16 L k41_2 k41_2w Jk41_2 _ _ _
  · exact so_some
set_option maxHeartbeats 4000000 in
theorem lc_M_uses (L : Nat → Nat → Int64) (m0 : Mem) : So L (F_M_uses m0) (F_M_uses (mL m0 L)) := by
  unfold F_M_uses
  refine so_ltm rfl (fun mq1 => ?_)
  refine so_ltm rfl (fun mq2 => ?_)
  refine so_ltm rfl (fun mq3 => ?_)
  refine so_ltm rfl (fun mq4 => ?_)
  exact so_some
set_option maxHeartbeats 4000000 in
theorem lc_M_readSigns_L21 (L : Nat → Nat → Int64)  : ∀ (nf : Nat) (zq8 : Bool) (xq9 : Int32) (mq7 : Mem), So L (F_M_readSigns_L21  nf zq8 xq9 mq7) (F_M_readSigns_L21  nf zq8 xq9 (mL mq7 L)) := by
  intro nf
  induction nf with
  | zero =>
    intro zq8 xq9 mq7
    rw [F_M_readSigns_L21, F_M_readSigns_L21]
    exact so_none
  | succ nfq10 ih =>
    intro zq8 xq9 mq7
    rw [F_M_readSigns_L21, F_M_readSigns_L21]
    refine so_ite rfl ?_ ?_
    · exact so_some
    · refine so_ltj (fun z_ w_ => ∀ (q0_ : Bool) (q1_ : Mem), So L (z_ q0_ q1_) (w_ q0_ (mL q1_ L))) ?_ ?_
      · intro zq13 mq12
        refine so_ltv rfl (fun xq14 => ?_)
        exact ih _ _ _
      intro k63_13 k63_13w Jk63_13
      refine so_ltj (fun z_ w_ => ∀ (q0_ : Mem), So L (z_ q0_) (w_ (mL q0_ L))) ?_ ?_
      · intro mq15
        exact Jk63_13 _ _
      intro k62_15 k62_15w Jk62_15
      refine so_ite rfl ?_ ?_
      · refine so_ck rfl ?_
        refine so_ltv rfl (fun xq17 => ?_)
        refine so_ltj (fun z_ w_ => ∀ (q0_ : Int32) (q1_ : Mem), So L (z_ q0_ q1_) (w_ q0_ (mL q1_ L))) ?_ ?_
        · intro xq19 mq18
          refine so_bnd (lc_M_in L _ _ _ _) (fun zq22 mq20 => ?_)
          refine so_ite rfl ?_ ?_
          · exact Jk63_13 _ _
          · exact Jk62_15 _
        intro k52_19 k52_19w Jk52_19
        refine so_ite rfl ?_ ?_
        · exact Jk52_19 _ _
        · exact Jk52_19 _ _
      · exact Jk62_15 _
set_option maxHeartbeats 4000000 in
theorem lc_M_readSigns (L : Nat → Nat → Int64) (m0 : Mem) : So L (F_M_readSigns m0) (F_M_readSigns (mL m0 L)) := by
  unfold F_M_readSigns
  refine so_bnd (lc_M_uses L _) (fun _ mq1 => ?_)
  refine so_ltv rfl (fun xq4 => ?_)
  refine so_ltj (fun z_ w_ => ∀ (q0_ : Bool) (q1_ : Mem), So L (z_ q0_ q1_) (w_ q0_ (mL q1_ L))) ?_ ?_
  · intro zq6 mq5
    exact lc_M_readSigns_L21 L   _ _ _ _
  intro k18_6 k18_6w Jk18_6
  refine so_ite rfl ?_ ?_
  · exact Jk18_6 _ _
  · exact Jk18_6 _ _
set_option maxHeartbeats 4000000 in
theorem lc_M_mornings_L6 (L : Nat → Nat → Int64) (a1 : Int32) (a2 : Int32) (a3 : Int32) (a4 : Int32) (a5 : Bool) : ∀ (nf : Nat) (xq2 : Int32) (xq3 : Int32) (mq1 : Mem), So L (F_M_mornings_L6 a1 a2 a3 a4 a5 nf xq2 xq3 mq1) (F_M_mornings_L6 a1 a2 a3 a4 a5 nf xq2 xq3 (mL mq1 L)) := by
  intro nf
  induction nf with
  | zero =>
    intro xq2 xq3 mq1
    rw [F_M_mornings_L6, F_M_mornings_L6]
    exact so_none
  | succ nfq4 ih =>
    intro xq2 xq3 mq1
    rw [F_M_mornings_L6, F_M_mornings_L6]
    refine so_ite rfl ?_ ?_
    · exact so_some
    · refine so_ck rfl ?_
      refine so_ltv rfl (fun xq7 => ?_)
      refine so_ltj (fun z_ w_ => ∀ (q0_ : Bool) (q1_ : Mem), So L (z_ q0_ q1_) (w_ q0_ (mL q1_ L))) ?_ ?_
      · intro zq9 mq8
        refine so_ltv rfl (fun xq10 => ?_)
        refine so_ltv rfl (fun xq11 => ?_)
        exact ih _ _ _
      intro k71_9 k71_9w Jk71_9
      refine so_ltj (fun z_ w_ => ∀ (q0_ : Mem), So L (z_ q0_) (w_ (mL q0_ L))) ?_ ?_
      · intro mq12
        exact Jk71_9 _ _
      intro k70_12 k70_12w Jk70_12
      refine so_ite rfl ?_ ?_
      · refine so_ltj (fun z_ w_ => ∀ (q0_ : Mem), So L (z_ q0_) (w_ (mL q0_ L))) ?_ ?_
        · intro mq13
          refine so_ltj (fun z_ w_ => ∀ (q0_ : Mem), So L (z_ q0_) (w_ (mL q0_ L))) ?_ ?_
          · intro mq14
            exact Jk71_9 _ _
          intro k66_14 k66_14w Jk66_14
          refine so_ite rfl ?_ ?_
          · refine so_ck rfl ?_
            refine so_ltv rfl (fun xq16 => ?_)
            refine so_ite rfl ?_ ?_
            · exact Jk66_14 _
            · exact Jk70_12 _
          · exact Jk66_14 _
        intro k48_13 k48_13w Jk48_13
        refine so_ite rfl ?_ ?_
        · exact Jk48_13 _
        · refine so_ck rfl ?_
          refine so_ltv rfl (fun xq18 => ?_)
          refine so_ite rfl ?_ ?_
          · exact Jk48_13 _
          · exact Jk70_12 _
      · exact Jk70_12 _
set_option maxHeartbeats 4000000 in
theorem lc_M_mornings (L : Nat → Nat → Int64) (a1 : Int32) (a2 : Int32) (a3 : Int32) (a4 : Int32) (a5 : Bool) (m0 : Mem) : So L (F_M_mornings a1 a2 a3 a4 a5 m0) (F_M_mornings a1 a2 a3 a4 a5 (mL m0 L)) := by
  unfold F_M_mornings
  exact lc_M_mornings_L6 L _ _ _ _ _  _ _ _ _
set_option maxHeartbeats 4000000 in
theorem lc_M_rightBy_L14 (L : Nat → Nat → Int64) (a1 : Int32) (a2 : Int32) (xq3 : Int32) (k69_7 k69_7w : Int32 → Mem → Option (Int32 × Mem)) (Jk69_7 : ∀ (b0 : Int32) (b1 : Mem), So L (k69_7 b0 b1) (k69_7w b0 (mL b1 L))) : ∀ (nf : Nat) (xq10 : Int32) (xq11 : Int32) (mq9 : Mem), So L (F_M_rightBy_L14 a1 a2 xq3 k69_7 nf xq10 xq11 mq9) (F_M_rightBy_L14 a1 a2 xq3 k69_7w nf xq10 xq11 (mL mq9 L)) := by
  intro nf
  induction nf with
  | zero =>
    intro xq10 xq11 mq9
    rw [F_M_rightBy_L14, F_M_rightBy_L14]
    exact so_none
  | succ nfq12 ih =>
    intro xq10 xq11 mq9
    rw [F_M_rightBy_L14, F_M_rightBy_L14]
    refine so_ltj (fun z_ w_ => ∀ (q0_ : Int32) (q1_ : Mem), So L (z_ q0_ q1_) (w_ q0_ (mL q1_ L))) ?_ ?_
    · intro xq15 mq14
      refine so_ite rfl ?_ ?_
      · exact Jk69_7 _ _
      · refine so_bnd (lc_M_mornings L _ _ _ _ _ _) (fun xq18 mq16 => ?_)
        refine so_bnd (lc_M_mornings L _ _ _ _ _ _) (fun xq21 mq19 => ?_)
        refine so_ltv rfl (fun xq22 => ?_)
        refine so_ltv rfl (fun xq23 => ?_)
        exact ih _ _ _
    intro k25_15 k25_15w Jk25_15
    refine so_ite rfl ?_ ?_
    · exact Jk25_15 _ _
    · exact Jk25_15 _ _
set_option maxHeartbeats 4000000 in
theorem lc_M_rightBy_L5 (L : Nat → Nat → Int64) (a1 : Int32) (a2 : Int32) : ∀ (nf : Nat) (xq2 : Int32) (xq3 : Int32) (mq1 : Mem), So L (F_M_rightBy_L5 a1 a2 nf xq2 xq3 mq1) (F_M_rightBy_L5 a1 a2 nf xq2 xq3 (mL mq1 L)) := by
  intro nf
  induction nf with
  | zero =>
    intro xq2 xq3 mq1
    rw [F_M_rightBy_L5, F_M_rightBy_L5]
    exact so_none
  | succ nfq4 ih =>
    intro xq2 xq3 mq1
    rw [F_M_rightBy_L5, F_M_rightBy_L5]
    refine so_ite rfl ?_ ?_
    · exact so_some
    · refine so_ltj (fun z_ w_ => ∀ (q0_ : Int32) (q1_ : Mem), So L (z_ q0_ q1_) (w_ q0_ (mL q1_ L))) ?_ ?_
      · intro xq7 mq6
        refine so_ltv rfl (fun xq8 => ?_)
        exact ih _ _ _
      intro k69_7 k69_7w Jk69_7
      exact lc_M_rightBy_L14 L _ _ _ k69_7 k69_7w Jk69_7 _ _ _ _
set_option maxHeartbeats 4000000 in
theorem lc_M_rightBy (L : Nat → Nat → Int64) (a1 : Int32) (a2 : Int32) (m0 : Mem) : So L (F_M_rightBy a1 a2 m0) (F_M_rightBy a1 a2 (mL m0 L)) := by
  unfold F_M_rightBy
  exact lc_M_rightBy_L5 L _ _  _ _ _ _
set_option maxHeartbeats 4000000 in
theorem lc_M_best_L33 (L : Nat → Nat → Int64) (a1 : Bool) (k109_11 k109_11w : Int32 → Int32 → Mem → Option (Int32 × Mem)) (Jk109_11 : ∀ (b0 : Int32) (b1 : Int32) (b2 : Mem), So L (k109_11 b0 b1 b2) (k109_11w b0 b1 (mL b2 L))) : ∀ (nf : Nat) (xq13 : Int32) (xq14 : Int32) (xq15 : Int32) (mq12 : Mem), So L (F_M_best_L33 a1 k109_11 nf xq13 xq14 xq15 mq12) (F_M_best_L33 a1 k109_11w nf xq13 xq14 xq15 (mL mq12 L)) := by
  intro nf
  induction nf with
  | zero =>
    intro xq13 xq14 xq15 mq12
    rw [F_M_best_L33, F_M_best_L33]
    exact so_none
  | succ nfq16 ih =>
    intro xq13 xq14 xq15 mq12
    rw [F_M_best_L33, F_M_best_L33]
    refine so_ite rfl ?_ ?_
    · exact Jk109_11 _ _ _
    · refine so_ltj (fun z_ w_ => ∀ (q0_ : Int32) (q1_ : Mem), So L (z_ q0_ q1_) (w_ q0_ (mL q1_ L))) ?_ ?_
      · intro xq19 mq18
        refine so_ltj (fun z_ w_ => ∀ (q0_ : Int32) (q1_ : Int32) (q2_ : Mem), So L (z_ q0_ q1_ q2_) (w_ q0_ q1_ (mL q2_ L))) ?_ ?_
        · intro xq21 xq22 mq20
          refine so_ltv rfl (fun xq23 => ?_)
          exact ih _ _ _ _
        intro k103_22 k103_22w Jk103_22
        refine so_ltj (fun z_ w_ => ∀ (q0_ : Mem), So L (z_ q0_) (w_ (mL q0_ L))) ?_ ?_
        · intro mq24
          exact Jk103_22 _ _ _
        intro k95_24 k95_24w Jk95_24
        refine so_ite rfl ?_ ?_
        · exact Jk95_24 _
        · refine so_ite rfl ?_ ?_
          · exact Jk95_24 _
          · exact Jk103_22 _ _ _
      intro k78_19 k78_19w Jk78_19
      refine so_ite rfl ?_ ?_
      · refine so_ltj (fun z_ w_ => ∀ (q0_ : Bool) (q1_ : Mem), So L (z_ q0_ q1_) (w_ q0_ (mL q1_ L))) ?_ ?_
        · intro zq26 mq25
          refine so_ltj (fun z_ w_ => ∀ (q0_ : Int32) (q1_ : Mem), So L (z_ q0_ q1_) (w_ q0_ (mL q1_ L))) ?_ ?_
          · intro xq28 mq27
            refine so_bnd (lc_M_rightBy L _ _ _) (fun xq31 mq29 => ?_)
            exact Jk78_19 _ _
          intro k75_28 k75_28w Jk75_28
          refine so_ite rfl ?_ ?_
          · exact Jk75_28 _ _
          · exact Jk75_28 _ _
        intro k65_26 k65_26w Jk65_26
        refine so_ite rfl ?_ ?_
        · exact Jk65_26 _ _
        · exact Jk65_26 _ _
      · refine so_bnd (lc_M_rightBy L _ _ _) (fun xq34 mq32 => ?_)
        exact Jk78_19 _ _
set_option maxHeartbeats 4000000 in
theorem lc_M_best (L : Nat → Nat → Int64) (a1 : Bool) (a2 : Bool) (m0 : Mem) : So L (F_M_best a1 a2 m0) (F_M_best a1 a2 (mL m0 L)) := by
  unfold F_M_best
  refine so_bnd (lc_M_readSigns L _) (fun zq3 mq1 => ?_)
  refine so_ltj (fun z_ w_ => ∀ (q0_ : Bool) (q1_ : Mem), So L (z_ q0_ q1_) (w_ q0_ (mL q1_ L))) ?_ ?_
  · intro zq5 mq4
    refine so_bnd (lc_M_throwsIf L _ _ _) (fun zq8 mq6 => ?_)
    refine so_ite rfl ?_ ?_
    · exact so_some
    · refine so_ltj (fun z_ w_ => ∀ (q0_ : Int32) (q1_ : Int32) (q2_ : Mem), So L (z_ q0_ q1_ q2_) (w_ q0_ q1_ (mL q2_ L))) ?_ ?_
      · intro xq10 xq11 mq9
        refine so_ite rfl ?_ ?_
        · exact so_some
        · exact so_some
      intro k109_11 k109_11w Jk109_11
      exact lc_M_best_L33 L _ k109_11 k109_11w Jk109_11 _ _ _ _ _
  intro k15_5 k15_5w Jk15_5
  refine so_ite rfl ?_ ?_
  · exact Jk15_5 _ _
  · exact Jk15_5 _ _
set_option maxHeartbeats 4000000 in
theorem lc_M_takes (L : Nat → Nat → Int64) (a1 : Int32) (a2 : Int32) (a3 : Int32) (a4 : Int32) (m0 : Mem) : So L (F_M_takes a1 a2 a3 a4 m0) (F_M_takes a1 a2 a3 a4 (mL m0 L)) := by
  unfold F_M_takes
  refine so_bnd (lc_M_cell L _ _ _ _ _) (fun xq3 mq1 => ?_)
  refine so_ck rfl ?_
  refine so_ltv rfl (fun xq5 => ?_)
  refine so_ltm rfl (fun mq6 => ?_)
  refine so_bnd (lc_M_cell L _ _ _ _ _) (fun xq9 mq7 => ?_)
  refine so_ck rfl ?_
  refine so_ltv rfl (fun xq11 => ?_)
  refine so_ltm rfl (fun mq12 => ?_)
  exact so_some
set_option maxHeartbeats 4000000 in
theorem lc_M_countsNow (L : Nat → Nat → Int64) (m0 : Mem) : So L (F_M_countsNow m0) (F_M_countsNow (mL m0 L)) := by
  unfold F_M_countsNow
  refine so_ltm rfl (fun mq1 => ?_)
  refine so_bnd (lc_M_isOver L _) (fun zq4 mq2 => ?_)
  refine so_ite rfl ?_ ?_
  · refine so_ltj (fun z_ w_ => ∀ (q0_ : Int32) (q1_ : Mem), So L (z_ q0_ q1_) (w_ q0_ (mL q1_ L))) ?_ ?_
    · intro xq33 mq32
      refine so_ltm rfl (fun mq34 => ?_)
      refine so_ltj (fun z_ w_ => ∀ (q0_ : Int32) (q1_ : Mem), So L (z_ q0_ q1_) (w_ q0_ (mL q1_ L))) ?_ ?_
      · intro xq36 mq35
        refine so_ltm rfl (fun mq37 => ?_)
        exact so_some
      intro k67_36 k67_36w Jk67_36
      refine so_ite rfl ?_ ?_
      · refine so_bnd (lc_M_played L _) (fun xq40 mq38 => ?_)
        refine so_bnd (lc_M_all L _ _) (fun xq43 mq41 => ?_)
        exact Jk67_36 _ _
      · exact Jk67_36 _ _
    intro k40_33 k40_33w Jk40_33
    refine so_ite rfl ?_ ?_
    · refine so_bnd (lc_M_played L _) (fun xq46 mq44 => ?_)
      refine so_bnd (lc_M_all L _ _) (fun xq49 mq47 => ?_)
      exact Jk40_33 _ _
    · exact Jk40_33 _ _
  · refine so_bnd (lc_M_batter L _) (fun xq7 mq5 => ?_)
    refine so_bnd (lc_M_leadOf L _ _) (fun xq10 mq8 => ?_)
    refine so_bnd (lc_M_firstSide L _) (fun xq13 mq11 => ?_)
    refine so_bnd (lc_M_played L _) (fun xq16 mq14 => ?_)
    refine so_bnd (lc_M_layers L _ _ _ _) (fun _ mq17 => ?_)
    refine so_bnd (lc_M_played L _) (fun xq22 mq20 => ?_)
    refine so_bnd (lc_M_kindNow L _) (fun xq25 mq23 => ?_)
    refine so_bnd (lc_M_outNow L _) (fun xq28 mq26 => ?_)
    refine so_bnd (lc_M_takes L _ _ _ _ _) (fun _ mq29 => ?_)
    exact so_some
set_option maxHeartbeats 4000000 in
theorem lc_M_blind (L : Nat → Nat → Int64) (a1 : Int32) (m0 : Mem) : So L (F_M_blind a1 m0) (F_M_blind a1 (mL m0 L)) := by
  unfold F_M_blind
  refine so_ltm rfl (fun mq1 => ?_)
  refine so_bnd (lc_M_firstSide L _) (fun xq4 mq2 => ?_)
  refine so_ltj (fun z_ w_ => ∀ (q0_ : Bool) (q1_ : Mem), So L (z_ q0_ q1_) (w_ q0_ (mL q1_ L))) ?_ ?_
  · intro zq6 mq5
    refine so_bnd (lc_M_throwsIf L _ _ _) (fun zq9 mq7 => ?_)
    refine so_ite rfl ?_ ?_
    · exact so_some
    · refine so_bnd (lc_M_in L _ _ _ _) (fun zq12 mq10 => ?_)
      refine so_ltj (fun z_ w_ => ∀ (q0_ : Bool) (q1_ : Mem), So L (z_ q0_ q1_) (w_ q0_ (mL q1_ L))) ?_ ?_
      · intro zq14 mq13
        refine so_bnd (lc_M_throwsIf L _ _ _) (fun zq17 mq15 => ?_)
        refine so_ite rfl ?_ ?_
        · exact so_some
        · refine so_ltm rfl (fun mq18 => ?_)
          refine so_bnd (lc_M_countsNow L _) (fun _ mq19 => ?_)
          refine so_ltm rfl (fun mq22 => ?_)
          refine so_bnd (lc_M_played L _) (fun xq25 mq23 => ?_)
          refine so_bnd (lc_M_isOver L _) (fun zq28 mq26 => ?_)
          refine so_ltj (fun z_ w_ => ∀ (q0_ : Int32) (q1_ : Mem), So L (z_ q0_ q1_) (w_ q0_ (mL q1_ L))) ?_ ?_
          · intro xq30 mq29
            refine so_bnd (lc_M_waysOf L _ _ _ _) (fun yq33 mq31 => ?_)
            exact so_some
          intro k84_30 k84_30w Jk84_30
          refine so_ite rfl ?_ ?_
          · exact Jk84_30 _ _
          · refine so_bnd (lc_M_batter L _) (fun xq36 mq34 => ?_)
            exact Jk84_30 _ _
      intro k40_14 k40_14w Jk40_14
      refine so_ite rfl ?_ ?_
      · exact Jk40_14 _ _
      · exact Jk40_14 _ _
  intro k18_6 k18_6w Jk18_6
  refine so_ite rfl ?_ ?_
  · exact Jk18_6 _ _
  · exact Jk18_6 _ _
set_option maxHeartbeats 4000000 in
theorem lc_M_ofBook (L : Nat → Nat → Int64) (a1 : Int32) (a2 : Int32) (m0 : Mem) : So L (F_M_ofBook a1 a2 m0) (F_M_ofBook a1 a2 (mL m0 L)) := by
  unfold F_M_ofBook
  refine so_ck rfl ?_
  refine so_ltv rfl (fun xq2 => ?_)
  exact so_some
set_option maxHeartbeats 4000000 in
theorem lc_M_isSuch (L : Nat → Nat → Int64) (a1 : Int32) (a2 : Int32) (m0 : Mem) : So L (F_M_isSuch a1 a2 m0) (F_M_isSuch a1 a2 (mL m0 L)) := by
  unfold F_M_isSuch
  refine so_bnd (lc_M_ofBook L _ _ _) (fun xq3 mq1 => ?_)
  refine so_bnd (lc_M_ofBook L _ _ _) (fun xq6 mq4 => ?_)
  refine so_bnd (lc_M_ofBook L _ _ _) (fun xq9 mq7 => ?_)
  refine so_ite rfl ?_ ?_
  · refine so_ite rfl ?_ ?_
    · exact so_some
    · exact so_some
  · refine so_ite rfl ?_ ?_
    · refine so_ite rfl ?_ ?_
      · refine so_ite rfl ?_ ?_
        · exact so_some
        · exact so_some
      · exact so_some
    · refine so_ite rfl ?_ ?_
      · refine so_ite rfl ?_ ?_
        · exact so_some
        · exact so_some
      · refine so_ite rfl ?_ ?_
        · refine so_ite rfl ?_ ?_
          · exact so_some
          · exact so_some
        · refine so_ite rfl ?_ ?_
          · refine so_ite rfl ?_ ?_
            · exact so_some
            · exact so_some
          · exact so_some
set_option maxHeartbeats 4000000 in
theorem lc_M_bookOf_L4 (L : Nat → Nat → Int64) (a1 : Int32) : ∀ (nf : Nat) (xq2 : Int32) (xq3 : Int32) (mq1 : Mem), So L (F_M_bookOf_L4 a1 nf xq2 xq3 mq1) (F_M_bookOf_L4 a1 nf xq2 xq3 (mL mq1 L)) := by
  intro nf
  induction nf with
  | zero =>
    intro xq2 xq3 mq1
    rw [F_M_bookOf_L4, F_M_bookOf_L4]
    exact so_none
  | succ nfq4 ih =>
    intro xq2 xq3 mq1
    rw [F_M_bookOf_L4, F_M_bookOf_L4]
    refine so_ite rfl ?_ ?_
    · exact so_some
    · refine so_bnd (lc_M_isSuch L _ _ _) (fun zq8 mq6 => ?_)
      refine so_ltj (fun z_ w_ => ∀ (q0_ : Bool) (q1_ : Mem), So L (z_ q0_ q1_) (w_ q0_ (mL q1_ L))) ?_ ?_
      · intro zq10 mq9
        refine so_ltv rfl (fun xq11 => ?_)
        refine so_ltv rfl (fun xq12 => ?_)
        exact ih _ _ _
      intro k29_10 k29_10w Jk29_10
      refine so_ite rfl ?_ ?_
      · exact Jk29_10 _ _
      · exact Jk29_10 _ _
set_option maxHeartbeats 4000000 in
theorem lc_M_bookOf (L : Nat → Nat → Int64) (a1 : Int32) (m0 : Mem) : So L (F_M_bookOf a1 m0) (F_M_bookOf a1 (mL m0 L)) := by
  unfold F_M_bookOf
  exact lc_M_bookOf_L4 L _  _ _ _ _
set_option maxHeartbeats 4000000 in
theorem lc_M_book (L : Nat → Nat → Int64) (a1 : Int32) (m0 : Mem) : So L (F_M_book a1 m0) (F_M_book a1 (mL m0 L)) := by
  unfold F_M_book
  refine so_ltm rfl (fun mq1 => ?_)
  refine so_bnd (lc_M_in L _ _ _ _) (fun zq4 mq2 => ?_)
  refine so_ltj (fun z_ w_ => ∀ (q0_ : Bool) (q1_ : Mem), So L (z_ q0_ q1_) (w_ q0_ (mL q1_ L))) ?_ ?_
  · intro zq6 mq5
    refine so_bnd (lc_M_throwsIf L _ _ _) (fun zq9 mq7 => ?_)
    refine so_ite rfl ?_ ?_
    · exact so_some
    · refine so_bnd (lc_M_bookOf L _ _) (fun xq12 mq10 => ?_)
      exact so_some
  intro k20_6 k20_6w Jk20_6
  refine so_ite rfl ?_ ?_
  · exact Jk20_6 _ _
  · exact Jk20_6 _ _
set_option maxHeartbeats 4000000 in
theorem lc_M_nextInnings (L : Nat → Nat → Int64) (m0 : Mem) : So L (F_M_nextInnings m0) (F_M_nextInnings (mL m0 L)) := by
  unfold F_M_nextInnings
  refine so_ltm rfl (fun mq1 => ?_)
  refine so_ltj (fun z_ w_ => ∀ (q0_ : Mem), So L (z_ q0_) (w_ (mL q0_ L))) ?_ ?_
  · intro mq2
    refine so_ltm rfl (fun mq3 => ?_)
    refine so_ltm rfl (fun mq4 => ?_)
    refine so_ite rfl ?_ ?_
    · refine so_bnd (lc_M_batter L _) (fun xq7 mq5 => ?_)
      refine so_bnd (lc_M_leadOf L _ _) (fun xq10 mq8 => ?_)
      refine so_ite rfl ?_ ?_
      · exact so_some
      · refine so_bnd (lc_M_batter L _) (fun xq13 mq11 => ?_)
        refine so_ltm rfl (fun mq14 => ?_)
        exact so_some
    · exact so_some
  intro k30_2 k30_2w Jk30_2
  refine so_ite rfl ?_ ?_
  · refine so_ltm rfl (fun mq15 => ?_)
    exact Jk30_2 _
  · exact Jk30_2 _
set_option maxHeartbeats 4000000 in
theorem lc_M_settles (L : Nat → Nat → Int64) (m0 : Mem) : So L (F_M_settles m0) (F_M_settles (mL m0 L)) := by
  unfold F_M_settles
  refine so_bnd (lc_M_batter L _) (fun xq3 mq1 => ?_)
  refine so_bnd (lc_M_leadOf L _ _) (fun xq6 mq4 => ?_)
  refine so_ltj (fun z_ w_ => ∀ (q0_ : Mem), So L (z_ q0_) (w_ (mL q0_ L))) ?_ ?_
  · intro mq7
    refine so_bnd (lc_M_isOver L _) (fun zq10 mq8 => ?_)
    refine so_ite rfl ?_ ?_
    · exact so_some
    · refine so_bnd (lc_M_played L _) (fun xq13 mq11 => ?_)
      refine so_bnd (lc_M_size L _) (fun xq16 mq14 => ?_)
      refine so_ite rfl ?_ ?_
      · refine so_ltm rfl (fun mq17 => ?_)
        exact so_some
      · exact so_some
  intro k86_7 k86_7w Jk86_7
  refine so_ite rfl ?_ ?_
  · refine so_ite rfl ?_ ?_
    · refine so_ite rfl ?_ ?_
      · refine so_ltj (fun z_ w_ => ∀ (q0_ : Int32) (q1_ : Mem), So L (z_ q0_ q1_) (w_ q0_ (mL q1_ L))) ?_ ?_
        · intro xq22 mq21
          refine so_ltm rfl (fun mq23 => ?_)
          exact Jk86_7 _
        intro k66_22 k66_22w Jk66_22
        refine so_ite rfl ?_ ?_
        · exact Jk66_22 _ _
        · exact Jk66_22 _ _
      · exact Jk86_7 _
    · refine so_ltm rfl (fun mq24 => ?_)
      exact Jk86_7 _
  · refine so_ite rfl ?_ ?_
    · refine so_bnd (lc_M_nextInnings L _) (fun _ mq18 => ?_)
      exact Jk86_7 _
    · exact Jk86_7 _
set_option maxHeartbeats 4000000 in
theorem lc_M_plays (L : Nat → Nat → Int64) (a1 : Int32) (a2 : Bool) (m0 : Mem) : So L (F_M_plays a1 a2 m0) (F_M_plays a1 a2 (mL m0 L)) := by
  unfold F_M_plays
  refine so_bnd (lc_M_played L _) (fun xq3 mq1 => ?_)
  refine so_bnd (lc_M_batter L _) (fun xq6 mq4 => ?_)
  refine so_bnd (lc_M_levelOf L _ _ _ _) (fun xq9 mq7 => ?_)
  refine so_ltj (fun z_ w_ => ∀ (q0_ : Int32) (q1_ : Mem), So L (z_ q0_ q1_) (w_ q0_ (mL q1_ L))) ?_ ?_
  · intro xq11 mq10
    refine so_bnd (lc_M_isRain L _ _) (fun zq14 mq12 => ?_)
    refine so_ltj (fun z_ w_ => ∀ (q0_ : Int32) (q1_ : Mem), So L (z_ q0_ q1_) (w_ q0_ (mL q1_ L))) ?_ ?_
    · intro xq16 mq15
      refine so_ltv rfl (fun xq17 => ?_)
      refine so_ck rfl ?_
      refine so_ltv rfl (fun xq19 => ?_)
      refine so_ck rfl ?_
      refine so_ltm rfl (fun mq20 => ?_)
      refine so_ltj (fun z_ w_ => ∀ (q0_ : Bool) (q1_ : Mem), So L (z_ q0_ q1_) (w_ q0_ (mL q1_ L))) ?_ ?_
      · intro zq23 mq22
        refine so_ltv rfl (fun xq24 => ?_)
        refine so_ltm rfl (fun mq25 => ?_)
        refine so_ltm rfl (fun mq26 => ?_)
        refine so_bnd (lc_M_leadOf L _ _) (fun xq29 mq27 => ?_)
        refine so_ltv rfl (fun xq30 => ?_)
        refine so_ck rfl ?_
        refine so_ltm rfl (fun mq31 => ?_)
        refine so_ck rfl ?_
        refine so_ltm rfl (fun mq33 => ?_)
        refine so_ck rfl ?_
        refine so_ltm rfl (fun mq35 => ?_)
        refine so_ck rfl ?_
        refine so_ltm rfl (fun mq37 => ?_)
        refine so_ck rfl ?_
        refine so_ltm rfl (fun mq39 => ?_)
        refine so_ck rfl ?_
        refine so_ltm rfl (fun mq41 => ?_)
        refine so_ck rfl ?_
        refine so_ltm rfl (fun mq43 => ?_)
        refine so_ltm rfl (fun mq45 => ?_)
        refine so_bnd (lc_M_settles L _) (fun _ mq46 => ?_)
        exact so_some
      intro k117_23 k117_23w Jk117_23
      refine so_ite rfl ?_ ?_
      · exact Jk117_23 _ _
      · exact Jk117_23 _ _
    intro k73_16 k73_16w Jk73_16
    refine so_ite rfl ?_ ?_
    · exact Jk73_16 _ _
    · refine so_bnd (lc_M_ofSlot L _ _ _ _) (fun xq51 mq49 => ?_)
      exact Jk73_16 _ _
  intro k51_11 k51_11w Jk51_11
  refine so_ltj (fun z_ w_ => ∀ (q0_ : Mem), So L (z_ q0_) (w_ (mL q0_ L))) ?_ ?_
  · intro mq52
    exact Jk51_11 _ _
  intro k39_52 k39_52w Jk39_52
  refine so_ite rfl ?_ ?_
  · exact Jk39_52 _
  · refine so_bnd (lc_M_isRain L _ _) (fun zq55 mq53 => ?_)
    refine so_ite rfl ?_ ?_
    · exact Jk39_52 _
    · refine so_bnd (lc_M_ofSlot L _ _ _ _) (fun xq58 mq56 => ?_)
      exact Jk51_11 _ _
set_option maxHeartbeats 4000000 in
theorem lc_M_bring (L : Nat → Nat → Int64) (a1 : Int32) (m0 : Mem) : So L (F_M_bring a1 m0) (F_M_bring a1 (mL m0 L)) := by
  unfold F_M_bring
  refine so_ltm rfl (fun mq1 => ?_)
  refine so_bnd (lc_M_noSlot L _ _) (fun zq4 mq2 => ?_)
  refine so_bnd (lc_M_throwsIf L _ _ _) (fun zq7 mq5 => ?_)
  refine so_ite rfl ?_ ?_
  · exact so_some
  · refine so_bnd (lc_M_isOn L _) (fun zq10 mq8 => ?_)
    refine so_ltj (fun z_ w_ => ∀ (q0_ : Bool) (q1_ : Mem), So L (z_ q0_ q1_) (w_ q0_ (mL q1_ L))) ?_ ?_
    · intro zq12 mq11
      refine so_bnd (lc_M_throwsIf L _ _ _) (fun zq15 mq13 => ?_)
      refine so_ite rfl ?_ ?_
      · exact so_some
      · refine so_bnd (lc_M_remembers L _) (fun _ mq16 => ?_)
        refine so_bnd (lc_M_plays L _ _ _) (fun xq21 mq19 => ?_)
        exact so_some
    intro k30_12 k30_12w Jk30_12
    refine so_ite rfl ?_ ?_
    · exact Jk30_12 _ _
    · exact Jk30_12 _ _
set_option maxHeartbeats 4000000 in
theorem lc_M_noPlayed (L : Nat → Nat → Int64) (a1 : Int32) (m0 : Mem) : So L (F_M_noPlayed a1 m0) (F_M_noPlayed a1 (mL m0 L)) := by
  unfold F_M_noPlayed
  refine so_bnd (lc_M_size L _) (fun xq3 mq1 => ?_)
  refine so_bnd (lc_M_in L _ _ _ _) (fun zq6 mq4 => ?_)
  refine so_ite rfl ?_ ?_
  · exact so_some
  · exact so_some
set_option maxHeartbeats 4000000 in
theorem lc_M_countsFrom (L : Nat → Nat → Int64) (a1 : Int32) (a2 : Int32) (m0 : Mem) : So L (F_M_countsFrom a1 a2 m0) (F_M_countsFrom a1 a2 (mL m0 L)) := by
  unfold F_M_countsFrom
  refine so_ltm rfl (fun mq1 => ?_)
  refine so_bnd (lc_M_layers L _ _ _ _) (fun _ mq2 => ?_)
  refine so_bnd (lc_M_size L _) (fun xq7 mq5 => ?_)
  refine so_ite rfl ?_ ?_
  · exact so_some
  · refine so_bnd (lc_M_laysLevels L _ _) (fun _ mq8 => ?_)
    exact so_some
set_option maxHeartbeats 4000000 in
theorem lc_M_chased_L41 (L : Nat → Nat → Int64) (a1 : Int32) : ∀ (nf : Nat) (xq15 : Int32) (mq14 : Mem), So L (F_M_chased_L41 a1 nf xq15 mq14) (F_M_chased_L41 a1 nf xq15 (mL mq14 L)) := by
  intro nf
  induction nf with
  | zero =>
    intro xq15 mq14
    rw [F_M_chased_L41, F_M_chased_L41]
    exact so_none
  | succ nfq16 ih =>
    intro xq15 mq14
    rw [F_M_chased_L41, F_M_chased_L41]
    refine so_ite rfl ?_ ?_
    · exact so_some
    · refine so_bnd (lc_M_takes L _ _ _ _ _) (fun _ mq18 => ?_)
      refine so_ite rfl ?_ ?_
      · refine so_ltv rfl (fun xq21 => ?_)
        exact ih _ _
      · exact so_some
set_option maxHeartbeats 4000000 in
theorem lc_M_chased (L : Nat → Nat → Int64) (a1 : Int32) (m0 : Mem) : So L (F_M_chased a1 m0) (F_M_chased a1 (mL m0 L)) := by
  unfold F_M_chased
  refine so_ltm rfl (fun mq1 => ?_)
  refine so_bnd (lc_M_noPlayed L _ _) (fun zq4 mq2 => ?_)
  refine so_bnd (lc_M_throwsIf L _ _ _) (fun zq7 mq5 => ?_)
  refine so_ite rfl ?_ ?_
  · exact so_some
  · refine so_bnd (lc_M_size L _) (fun xq10 mq8 => ?_)
    refine so_ite rfl ?_ ?_
    · exact so_some
    · refine so_bnd (lc_M_countsFrom L _ _ _) (fun _ mq11 => ?_)
      exact lc_M_chased_L41 L _  _ _ _
set_option maxHeartbeats 4000000 in
theorem lc_M_canHold (L : Nat → Nat → Int64) (m0 : Mem) : So L (F_M_canHold m0) (F_M_canHold (mL m0 L)) := by
  unfold F_M_canHold
  refine so_bnd (lc_M_isOn L _) (fun zq3 mq1 => ?_)
  refine so_ite rfl ?_ ?_
  · refine so_ite rfl ?_ ?_
    · exact so_some
    · exact so_some
  · exact so_some
set_option maxHeartbeats 4000000 in
theorem lc_M_canFollow (L : Nat → Nat → Int64) (m0 : Mem) : So L (F_M_canFollow m0) (F_M_canFollow (mL m0 L)) := by
  unfold F_M_canFollow
  refine so_bnd (lc_M_isOn L _) (fun zq3 mq1 => ?_)
  refine so_ite rfl ?_ ?_
  · refine so_ite rfl ?_ ?_
    · refine so_ite rfl ?_ ?_
      · refine so_bnd (lc_M_isFollowed L _) (fun zq6 mq4 => ?_)
        refine so_ite rfl ?_ ?_
        · exact so_some
        · refine so_bnd (lc_M_firstSide L _) (fun xq9 mq7 => ?_)
          refine so_bnd (lc_M_leadOf L _ _) (fun xq12 mq10 => ?_)
          refine so_ite rfl ?_ ?_
          · exact so_some
          · exact so_some
      · exact so_some
    · exact so_some
  · exact so_some
set_option maxHeartbeats 4000000 in
theorem lc_M_canDeclare (L : Nat → Nat → Int64) (m0 : Mem) : So L (F_M_canDeclare m0) (F_M_canDeclare (mL m0 L)) := by
  unfold F_M_canDeclare
  refine so_bnd (lc_M_isOn L _) (fun zq3 mq1 => ?_)
  refine so_ite rfl ?_ ?_
  · refine so_ite rfl ?_ ?_
    · exact so_some
    · refine so_ite rfl ?_ ?_
      · exact so_some
      · exact so_some
  · exact so_some
set_option maxHeartbeats 4000000 in
theorem lc_M_canBe (L : Nat → Nat → Int64) (a1 : Int32) (m0 : Mem) : So L (F_M_canBe a1 m0) (F_M_canBe a1 (mL m0 L)) := by
  unfold F_M_canBe
  refine so_ite rfl ?_ ?_
  · refine so_bnd (lc_M_isOn L _) (fun zq12 mq10 => ?_)
    exact so_some
  · refine so_ite rfl ?_ ?_
    · refine so_bnd (lc_M_canDeclare L _) (fun zq9 mq7 => ?_)
      exact so_some
    · refine so_ite rfl ?_ ?_
      · refine so_bnd (lc_M_canFollow L _) (fun zq6 mq4 => ?_)
        exact so_some
      · refine so_bnd (lc_M_canHold L _) (fun zq3 mq1 => ?_)
        exact so_some
set_option maxHeartbeats 4000000 in
theorem lc_M_worthBy (L : Nat → Nat → Int64) (a1 : Int32) (m0 : Mem) : So L (F_M_worthBy a1 m0) (F_M_worthBy a1 (mL m0 L)) := by
  unfold F_M_worthBy
  refine so_bnd (lc_M_played L _) (fun xq3 mq1 => ?_)
  refine so_bnd (lc_M_batter L _) (fun xq6 mq4 => ?_)
  refine so_bnd (lc_M_leadOf L _ _) (fun xq9 mq7 => ?_)
  refine so_ltj (fun z_ w_ => ∀ (q0_ : Mem), So L (z_ q0_) (w_ (mL q0_ L))) ?_ ?_
  · intro mq10
    refine so_bnd (lc_M_got L _ _) (fun yq13 mq11 => ?_)
    exact so_some
  intro k72_10 k72_10w Jk72_10
  refine so_ltj (fun z_ w_ => ∀ (q0_ : Mem), So L (z_ q0_) (w_ (mL q0_ L))) ?_ ?_
  · intro mq14
    refine so_bnd (lc_M_kindNow L _) (fun xq17 mq15 => ?_)
    refine so_bnd (lc_M_outNow L _) (fun xq20 mq18 => ?_)
    refine so_ltj (fun z_ w_ => ∀ (q0_ : Bool) (q1_ : Mem), So L (z_ q0_ q1_) (w_ q0_ (mL q1_ L))) ?_ ?_
    · intro zq22 mq21
      refine so_bnd (lc_M_goesOn L _ _ _ _ _ _) (fun _ mq23 => ?_)
      exact Jk72_10 _
    intro k44_22 k44_22w Jk44_22
    refine so_ite rfl ?_ ?_
    · exact Jk44_22 _ _
    · exact Jk44_22 _ _
  intro k23_14 k23_14w Jk23_14
  refine so_ite rfl ?_ ?_
  · exact Jk23_14 _
  · refine so_ite rfl ?_ ?_
    · exact Jk23_14 _
    · refine so_ltj (fun z_ w_ => ∀ (q0_ : Int32) (q1_ : Mem), So L (z_ q0_ q1_) (w_ q0_ (mL q1_ L))) ?_ ?_
      · intro xq27 mq26
        refine so_bnd (lc_M_handsOver L _ _ _ _) (fun _ mq28 => ?_)
        exact Jk72_10 _
      intro k68_27 k68_27w Jk68_27
      refine so_ite rfl ?_ ?_
      · refine so_bnd (lc_M_kindNow L _) (fun xq33 mq31 => ?_)
        refine so_bnd (lc_M_nextKind L _ _) (fun xq36 mq34 => ?_)
        exact Jk68_27 _ _
      · exact Jk68_27 _ _
set_option maxHeartbeats 4000000 in
theorem lc_M_cost_L67 (L : Nat → Nat → Int64) (k103_28 k103_28w : Int64 → Mem → Option (Int64 × Mem)) (Jk103_28 : ∀ (b0 : Int64) (b1 : Mem), So L (k103_28 b0 b1) (k103_28w b0 (mL b1 L))) : ∀ (nf : Nat) (yq33 : Int64) (xq34 : Int32) (mq32 : Mem), So L (F_M_cost_L67 k103_28 nf yq33 xq34 mq32) (F_M_cost_L67 k103_28w nf yq33 xq34 (mL mq32 L)) := by
  intro nf
  induction nf with
  | zero =>
    intro yq33 xq34 mq32
    rw [F_M_cost_L67, F_M_cost_L67]
    exact so_none
  | succ nfq35 ih =>
    intro yq33 xq34 mq32
    rw [F_M_cost_L67, F_M_cost_L67]
    refine so_ite rfl ?_ ?_
    · exact Jk103_28 _ _
    · refine so_bnd (lc_M_canBe L _ _) (fun zq39 mq37 => ?_)
      refine so_ltj (fun z_ w_ => ∀ (q0_ : Int64) (q1_ : Mem), So L (z_ q0_ q1_) (w_ q0_ (mL q1_ L))) ?_ ?_
      · intro yq41 mq40
        refine so_ltv rfl (fun xq42 => ?_)
        exact ih _ _ _
      intro k96_41 k96_41w Jk96_41
      refine so_ite rfl ?_ ?_
      · refine so_bnd (lc_M_worthBy L _ _) (fun yq45 mq43 => ?_)
        exact Jk96_41 _ _
      · exact Jk96_41 _ _
set_option maxHeartbeats 4000000 in
theorem lc_M_cost (L : Nat → Nat → Int64) (a1 : Int32) (m0 : Mem) : So L (F_M_cost a1 m0) (F_M_cost a1 (mL m0 L)) := by
  unfold F_M_cost
  refine so_ltm rfl (fun mq1 => ?_)
  refine so_bnd (lc_M_in L _ _ _ _) (fun zq4 mq2 => ?_)
  refine so_ltj (fun z_ w_ => ∀ (q0_ : Bool) (q1_ : Mem), So L (z_ q0_ q1_) (w_ q0_ (mL q1_ L))) ?_ ?_
  · intro zq6 mq5
    refine so_bnd (lc_M_throwsIf L _ _ _) (fun zq9 mq7 => ?_)
    refine so_ite rfl ?_ ?_
    · exact so_some
    · refine so_bnd (lc_M_canBe L _ _) (fun zq12 mq10 => ?_)
      refine so_ltj (fun z_ w_ => ∀ (q0_ : Bool) (q1_ : Mem), So L (z_ q0_ q1_) (w_ q0_ (mL q1_ L))) ?_ ?_
      · intro zq14 mq13
        refine so_bnd (lc_M_throwsIf L _ _ _) (fun zq17 mq15 => ?_)
        refine so_ite rfl ?_ ?_
        · exact so_some
        · refine so_bnd (lc_M_countsNow L _) (fun _ mq18 => ?_)
          refine so_bnd (lc_M_played L _) (fun xq23 mq21 => ?_)
          refine so_bnd (lc_M_laysLevels L _ _) (fun _ mq24 => ?_)
          refine so_ltj (fun z_ w_ => ∀ (q0_ : Int64) (q1_ : Mem), So L (z_ q0_ q1_) (w_ q0_ (mL q1_ L))) ?_ ?_
          · intro yq28 mq27
            refine so_bnd (lc_M_worthBy L _ _) (fun yq31 mq29 => ?_)
            exact so_some
          intro k103_28 k103_28w Jk103_28
          exact lc_M_cost_L67 L k103_28 k103_28w Jk103_28 _ _ _ _
      intro k41_14 k41_14w Jk41_14
      refine so_ite rfl ?_ ?_
      · exact Jk41_14 _ _
      · exact Jk41_14 _ _
  intro k20_6 k20_6w Jk20_6
  refine so_ite rfl ?_ ?_
  · exact Jk20_6 _ _
  · exact Jk20_6 _ _
set_option maxHeartbeats 4000000 in
theorem lc_M_count (L : Nat → Nat → Int64) (a1 : Int32) (m0 : Mem) : So L (F_M_count a1 m0) (F_M_count a1 (mL m0 L)) := by
  unfold F_M_count
  refine so_ltm rfl (fun mq1 => ?_)
  refine so_ite rfl ?_ ?_
  · refine so_ite rfl ?_ ?_
    · exact so_some
    · exact so_some
  · refine so_ite rfl ?_ ?_
    · refine so_bnd (lc_M_size L _) (fun xq4 mq2 => ?_)
      refine so_bnd (lc_M_played L _) (fun xq7 mq5 => ?_)
      exact so_some
    · refine so_ite rfl ?_ ?_
      · exact so_some
      · refine so_bnd (lc_M_in L _ _ _ _) (fun zq10 mq8 => ?_)
        refine so_ite rfl ?_ ?_
        · refine so_ck rfl ?_
          refine so_ltv rfl (fun xq12 => ?_)
          exact so_some
        · exact so_some
set_option maxHeartbeats 4000000 in
theorem lc_M_declare (L : Nat → Nat → Int64) (m0 : Mem) : So L (F_M_declare m0) (F_M_declare (mL m0 L)) := by
  unfold F_M_declare
  refine so_ltm rfl (fun mq1 => ?_)
  refine so_bnd (lc_M_canDeclare L _) (fun zq4 mq2 => ?_)
  refine so_ltj (fun z_ w_ => ∀ (q0_ : Bool) (q1_ : Mem), So L (z_ q0_ q1_) (w_ q0_ (mL q1_ L))) ?_ ?_
  · intro zq6 mq5
    refine so_bnd (lc_M_throwsIf L _ _ _) (fun zq9 mq7 => ?_)
    refine so_ite rfl ?_ ?_
    · exact so_some
    · refine so_bnd (lc_M_remembers L _) (fun _ mq10 => ?_)
      refine so_bnd (lc_M_batter L _) (fun xq15 mq13 => ?_)
      refine so_bnd (lc_M_leadOf L _ _) (fun xq18 mq16 => ?_)
      refine so_bnd (lc_M_nextInnings L _) (fun _ mq19 => ?_)
      exact so_some
  intro k18_6 k18_6w Jk18_6
  refine so_ite rfl ?_ ?_
  · exact Jk18_6 _ _
  · exact Jk18_6 _ _
set_option maxHeartbeats 4000000 in
theorem lc_M_noState (L : Nat → Nat → Int64) (a1 : Int32) (a2 : Int32) (m0 : Mem) : So L (F_M_noState a1 a2 m0) (F_M_noState a1 a2 (mL m0 L)) := by
  unfold F_M_noState
  refine so_bnd (lc_M_in L _ _ _ _) (fun zq3 mq1 => ?_)
  refine so_ite rfl ?_ ?_
  · refine so_bnd (lc_M_in L _ _ _ _) (fun zq6 mq4 => ?_)
    refine so_ite rfl ?_ ?_
    · exact so_some
    · exact so_some
  · exact so_some
set_option maxHeartbeats 4000000 in
theorem lc_M_isChosen (L : Nat → Nat → Int64) (a1 : Int32) (a2 : Int32) (a3 : Int32) (a4 : Int32) (m0 : Mem) : So L (F_M_isChosen a1 a2 a3 a4 m0) (F_M_isChosen a1 a2 a3 a4 (mL m0 L)) := by
  unfold F_M_isChosen
  refine so_bnd (lc_M_goesOn L _ _ _ _ _ _) (fun _ mq1 => ?_)
  refine so_bnd (lc_M_chooses L _ _ _ _ _) (fun zq6 mq4 => ?_)
  exact so_some
set_option maxHeartbeats 4000000 in
theorem lc_M_noInnings (L : Nat → Nat → Int64) (a0 : Int32) (m0 : Mem) : So L (F_M_noInnings a0 m0) (F_M_noInnings a0 (mL m0 L)) := by
  unfold F_M_noInnings
  refine so_bnd (lc_M_in L _ _ _ _) (fun zq3 mq1 => ?_)
  refine so_ite rfl ?_ ?_
  · exact so_some
  · exact so_some
set_option maxHeartbeats 4000000 in
theorem lc_M_declares (L : Nat → Nat → Int64) (a1 : Int32) (a2 : Int32) (a3 : Bool) (a4 : Int32) (a5 : Int32) (m0 : Mem) : So L (F_M_declares a1 a2 a3 a4 a5 m0) (F_M_declares a1 a2 a3 a4 a5 (mL m0 L)) := by
  unfold F_M_declares
  refine so_ltm rfl (fun mq1 => ?_)
  refine so_bnd (lc_M_noPlayed L _ _) (fun zq4 mq2 => ?_)
  refine so_ltj (fun z_ w_ => ∀ (q0_ : Bool) (q1_ : Mem), So L (z_ q0_ q1_) (w_ q0_ (mL q1_ L))) ?_ ?_
  · intro zq6 mq5
    refine so_bnd (lc_M_throwsIf L _ _ _) (fun zq9 mq7 => ?_)
    refine so_ite rfl ?_ ?_
    · exact so_some
    · refine so_bnd (lc_M_noState L _ _ _) (fun zq12 mq10 => ?_)
      refine so_bnd (lc_M_throwsIf L _ _ _) (fun zq15 mq13 => ?_)
      refine so_ite rfl ?_ ?_
      · exact so_some
      · refine so_ite rfl ?_ ?_
        · exact so_some
        · refine so_bnd (lc_M_size L _) (fun xq18 mq16 => ?_)
          refine so_ite rfl ?_ ?_
          · exact so_some
          · refine so_bnd (lc_M_countsFrom L _ _ _) (fun _ mq19 => ?_)
            refine so_bnd (lc_M_kindOf L _ _ _) (fun xq24 mq22 => ?_)
            refine so_bnd (lc_M_isChosen L _ _ _ _ _) (fun zq27 mq25 => ?_)
            exact so_some
  intro k26_6 k26_6w Jk26_6
  refine so_ltj (fun z_ w_ => ∀ (q0_ : Mem), So L (z_ q0_) (w_ (mL q0_ L))) ?_ ?_
  · intro mq28
    exact Jk26_6 _ _
  intro k21_28 k21_28w Jk21_28
  refine so_ite rfl ?_ ?_
  · exact Jk21_28 _
  · refine so_bnd (lc_M_noInnings L _ _) (fun zq31 mq29 => ?_)
    refine so_ite rfl ?_ ?_
    · exact Jk21_28 _
    · exact Jk26_6 _ _
set_option maxHeartbeats 4000000 in
theorem lc_M_end (L : Nat → Nat → Int64) (a1 : Int32) (m0 : Mem) : So L (F_M_end a1 m0) (F_M_end a1 (mL m0 L)) := by
  unfold F_M_end
  refine so_ltm rfl (fun mq1 => ?_)
  refine so_ite rfl ?_ ?_
  · exact so_some
  · refine so_ite rfl ?_ ?_
    · refine so_ltm rfl (fun mq2 => ?_)
      exact so_some
    · exact so_some
set_option maxHeartbeats 4000000 in
theorem lc_M_enforces (L : Nat → Nat → Int64) (a1 : Int32) (a2 : Int32) (m0 : Mem) : So L (F_M_enforces a1 a2 m0) (F_M_enforces a1 a2 (mL m0 L)) := by
  unfold F_M_enforces
  refine so_ltm rfl (fun mq1 => ?_)
  refine so_bnd (lc_M_noPlayed L _ _) (fun zq4 mq2 => ?_)
  refine so_bnd (lc_M_throwsIf L _ _ _) (fun zq7 mq5 => ?_)
  refine so_ite rfl ?_ ?_
  · exact so_some
  · refine so_bnd (lc_M_noState L _ _ _) (fun zq10 mq8 => ?_)
    refine so_bnd (lc_M_throwsIf L _ _ _) (fun zq13 mq11 => ?_)
    refine so_ite rfl ?_ ?_
    · exact so_some
    · refine so_ite rfl ?_ ?_
      · exact so_some
      · refine so_bnd (lc_M_size L _) (fun xq16 mq14 => ?_)
        refine so_ite rfl ?_ ?_
        · exact so_some
        · refine so_bnd (lc_M_countsFrom L _ _ _) (fun _ mq17 => ?_)
          refine so_bnd (lc_M_isChosen L _ _ _ _ _) (fun zq22 mq20 => ?_)
          exact so_some
set_option maxHeartbeats 4000000 in
theorem lc_M_noSide (L : Nat → Nat → Int64) (a0 : Int32) (m0 : Mem) : So L (F_M_noSide a0 m0) (F_M_noSide a0 (mL m0 L)) := by
  unfold F_M_noSide
  refine so_bnd (lc_M_in L _ _ _ _) (fun zq3 mq1 => ?_)
  refine so_ite rfl ?_ ?_
  · exact so_some
  · exact so_some
set_option maxHeartbeats 4000000 in
theorem lc_M_tossWorth (L : Nat → Nat → Int64) (a1 : Int32) (a2 : Bool) (m0 : Mem) : So L (F_M_tossWorth a1 a2 m0) (F_M_tossWorth a1 a2 (mL m0 L)) := by
  unfold F_M_tossWorth
  refine so_ltm rfl (fun mq1 => ?_)
  refine so_ltj (fun z_ w_ => ∀ (q0_ : Int32) (q1_ : Mem), So L (z_ q0_ q1_) (w_ q0_ (mL q1_ L))) ?_ ?_
  · intro xq3 mq2
    refine so_bnd (lc_M_layers L _ _ _ _) (fun _ mq4 => ?_)
    refine so_bnd (lc_M_takes L _ _ _ _ _) (fun _ mq7 => ?_)
    refine so_ite rfl ?_ ?_
    · refine so_bnd (lc_M_got L _ _) (fun yq15 mq13 => ?_)
      exact so_some
    · refine so_bnd (lc_M_worthOf L _ _ _ _) (fun yq12 mq10 => ?_)
      exact so_some
  intro k22_3 k22_3w Jk22_3
  refine so_ite rfl ?_ ?_
  · exact Jk22_3 _ _
  · exact Jk22_3 _ _
set_option maxHeartbeats 4000000 in
theorem lc_M_betterOf (L : Nat → Nat → Int64) (a1 : Int32) (m0 : Mem) : So L (F_M_betterOf a1 m0) (F_M_betterOf a1 (mL m0 L)) := by
  unfold F_M_betterOf
  refine so_bnd (lc_M_tossWorth L _ _ _) (fun yq3 mq1 => ?_)
  refine so_bnd (lc_M_tossWorth L _ _ _) (fun yq6 mq4 => ?_)
  exact so_some
set_option maxHeartbeats 4000000 in
theorem lc_M_leftTo (L : Nat → Nat → Int64) (a1 : Int32) (m0 : Mem) : So L (F_M_leftTo a1 m0) (F_M_leftTo a1 (mL m0 L)) := by
  unfold F_M_leftTo
  refine so_bnd (lc_M_tossWorth L _ _ _) (fun yq3 mq1 => ?_)
  refine so_bnd (lc_M_tossWorth L _ _ _) (fun yq6 mq4 => ?_)
  refine so_ltj (fun z_ w_ => ∀ (q0_ : Bool) (q1_ : Mem), So L (z_ q0_ q1_) (w_ q0_ (mL q1_ L))) ?_ ?_
  · intro zq8 mq7
    refine so_bnd (lc_M_tossWorth L _ _ _) (fun yq11 mq9 => ?_)
    exact so_some
  intro k27_8 k27_8w Jk27_8
  refine so_ite rfl ?_ ?_
  · exact Jk27_8 _ _
  · exact Jk27_8 _ _
set_option maxHeartbeats 4000000 in
theorem lc_M_evens (L : Nat → Nat → Int64) (a1 : Int32) (m0 : Mem) : So L (F_M_evens a1 m0) (F_M_evens a1 (mL m0 L)) := by
  unfold F_M_evens
  refine so_ltm rfl (fun mq1 => ?_)
  refine so_bnd (lc_M_noSide L _ _) (fun zq4 mq2 => ?_)
  refine so_bnd (lc_M_throwsIf L _ _ _) (fun zq7 mq5 => ?_)
  refine so_ite rfl ?_ ?_
  · exact so_some
  · refine so_bnd (lc_M_betterOf L _ _) (fun yq10 mq8 => ?_)
    refine so_bnd (lc_M_leftTo L _ _) (fun yq13 mq11 => ?_)
    exact so_some
set_option maxHeartbeats 4000000 in
theorem lc_M_fault (L : Nat → Nat → Int64) (m0 : Mem) : So L (F_M_fault m0) (F_M_fault (mL m0 L)) := by
  unfold F_M_fault
  refine so_ltm rfl (fun mq1 => ?_)
  exact so_some
set_option maxHeartbeats 4000000 in
theorem lc_M_feed_L60 (L : Nat → Nat → Int64) (k106_7 k106_7w : Mem → Option (Int32 × Mem)) (Jk106_7 : ∀ (b0 : Mem), So L (k106_7 b0) (k106_7w (mL b0 L))) : ∀ (nf : Nat) (xq10 : Int32) (mq9 : Mem), So L (F_M_feed_L60 k106_7 nf xq10 mq9) (F_M_feed_L60 k106_7w nf xq10 (mL mq9 L)) := by
  intro nf
  induction nf with
  | zero =>
    intro xq10 mq9
    rw [F_M_feed_L60, F_M_feed_L60]
    exact so_none
  | succ nfq11 ih =>
    intro xq10 mq9
    rw [F_M_feed_L60, F_M_feed_L60]
    refine so_ite rfl ?_ ?_
    · exact Jk106_7 _
    · refine so_ck rfl ?_
      refine so_ltv rfl (fun xq14 => ?_)
      refine so_ltv rfl (fun xq15 => ?_)
      refine so_ck rfl ?_
      refine so_ltm rfl (fun mq16 => ?_)
      refine so_ltv rfl (fun xq18 => ?_)
      exact ih _ _
set_option maxHeartbeats 4000000 in
theorem lc_M_feed (L : Nat → Nat → Int64) (a1 : Int32) (a2 : Int32) (a3 : Int32) (a4 : Int32) (a5 : Int32) (m0 : Mem) : So L (F_M_feed a1 a2 a3 a4 a5 m0) (F_M_feed a1 a2 a3 a4 a5 (mL m0 L)) := by
  unfold F_M_feed
  refine so_ltm rfl (fun mq1 => ?_)
  refine so_ite rfl ?_ ?_
  · refine so_ltm rfl (fun mq2 => ?_)
    refine so_ltm rfl (fun mq3 => ?_)
    refine so_ltm rfl (fun mq4 => ?_)
    refine so_ltm rfl (fun mq5 => ?_)
    refine so_ltm rfl (fun mq6 => ?_)
    refine so_ltj (fun z_ w_ => ∀ (q0_ : Mem), So L (z_ q0_) (w_ (mL q0_ L))) ?_ ?_
    · intro mq7
      refine so_ltm rfl (fun mq8 => ?_)
      exact so_some
    intro k106_7 k106_7w Jk106_7
    exact lc_M_feed_L60 L k106_7 k106_7w Jk106_7 _ _ _
  · exact so_some
set_option maxHeartbeats 4000000 in
theorem lc_M_follow (L : Nat → Nat → Int64) (m0 : Mem) : So L (F_M_follow m0) (F_M_follow (mL m0 L)) := by
  unfold F_M_follow
  refine so_ltm rfl (fun mq1 => ?_)
  refine so_bnd (lc_M_canFollow L _) (fun zq4 mq2 => ?_)
  refine so_ltj (fun z_ w_ => ∀ (q0_ : Bool) (q1_ : Mem), So L (z_ q0_ q1_) (w_ q0_ (mL q1_ L))) ?_ ?_
  · intro zq6 mq5
    refine so_bnd (lc_M_throwsIf L _ _ _) (fun zq9 mq7 => ?_)
    refine so_ite rfl ?_ ?_
    · exact so_some
    · refine so_bnd (lc_M_remembers L _) (fun _ mq10 => ?_)
      refine so_ltm rfl (fun mq13 => ?_)
      refine so_bnd (lc_M_firstSide L _) (fun xq16 mq14 => ?_)
      refine so_bnd (lc_M_leadOf L _ _) (fun xq19 mq17 => ?_)
      exact so_some
  intro k18_6 k18_6w Jk18_6
  refine so_ite rfl ?_ ?_
  · exact Jk18_6 _ _
  · exact Jk18_6 _ _
set_option maxHeartbeats 4000000 in
theorem lc_M_ofLog (L : Nat → Nat → Int64) (a1 : Int32) (a2 : Int32) (m0 : Mem) : So L (F_M_ofLog a1 a2 m0) (F_M_ofLog a1 a2 (mL m0 L)) := by
  unfold F_M_ofLog
  refine so_ck rfl ?_
  refine so_ltv rfl (fun xq2 => ?_)
  exact so_some
set_option maxHeartbeats 4000000 in
theorem lc_M_form_L46 (L : Nat → Nat → Int64) (a1 : Int32) (a2 : Int32) : ∀ (nf : Nat) (xq17 : Int32) (xq18 : Int32) (mq16 : Mem), So L (F_M_form_L46 a1 a2 nf xq17 xq18 mq16) (F_M_form_L46 a1 a2 nf xq17 xq18 (mL mq16 L)) := by
  intro nf
  induction nf with
  | zero =>
    intro xq17 xq18 mq16
    rw [F_M_form_L46, F_M_form_L46]
    exact so_none
  | succ nfq19 ih =>
    intro xq17 xq18 mq16
    rw [F_M_form_L46, F_M_form_L46]
    refine so_bnd (lc_M_played L _) (fun xq23 mq21 => ?_)
    refine so_ite rfl ?_ ?_
    · exact so_some
    · refine so_ltj (fun z_ w_ => ∀ (q0_ : Int32) (q1_ : Mem), So L (z_ q0_ q1_) (w_ q0_ (mL q1_ L))) ?_ ?_
      · intro xq25 mq24
        refine so_ltv rfl (fun xq26 => ?_)
        refine so_ltv rfl (fun xq27 => ?_)
        exact ih _ _ _
      intro k87_25 k87_25w Jk87_25
      refine so_ltj (fun z_ w_ => ∀ (q0_ : Mem), So L (z_ q0_) (w_ (mL q0_ L))) ?_ ?_
      · intro mq28
        exact Jk87_25 _ _
      intro k86_28 k86_28w Jk86_28
      refine so_ite rfl ?_ ?_
      · refine so_bnd (lc_M_ofLog L _ _ _) (fun xq31 mq29 => ?_)
        refine so_ite rfl ?_ ?_
        · refine so_bnd (lc_M_ofLog L _ _ _) (fun xq34 mq32 => ?_)
          exact Jk87_25 _ _
        · exact Jk86_28 _
      · exact Jk86_28 _
set_option maxHeartbeats 4000000 in
theorem lc_M_form (L : Nat → Nat → Int64) (a1 : Int32) (a2 : Int32) (m0 : Mem) : So L (F_M_form a1 a2 m0) (F_M_form a1 a2 (mL m0 L)) := by
  unfold F_M_form
  refine so_ltm rfl (fun mq1 => ?_)
  refine so_bnd (lc_M_noSide L _ _) (fun zq4 mq2 => ?_)
  refine so_bnd (lc_M_throwsIf L _ _ _) (fun zq7 mq5 => ?_)
  refine so_ite rfl ?_ ?_
  · exact so_some
  · refine so_bnd (lc_M_in L _ _ _ _) (fun zq10 mq8 => ?_)
    refine so_ltj (fun z_ w_ => ∀ (q0_ : Bool) (q1_ : Mem), So L (z_ q0_ q1_) (w_ q0_ (mL q1_ L))) ?_ ?_
    · intro zq12 mq11
      refine so_bnd (lc_M_throwsIf L _ _ _) (fun zq15 mq13 => ?_)
      refine so_ite rfl ?_ ?_
      · exact so_some
      · exact lc_M_form_L46 L _ _  _ _ _ _
    intro k32_12 k32_12w Jk32_12
    refine so_ite rfl ?_ ?_
    · exact Jk32_12 _ _
    · exact Jk32_12 _ _
set_option maxHeartbeats 4000000 in
theorem lc_M_isAt (L : Nat → Nat → Int64) (a1 : Int32) (a2 : Int32) (m0 : Mem) : So L (F_M_isAt a1 a2 m0) (F_M_isAt a1 a2 (mL m0 L)) := by
  unfold F_M_isAt
  refine so_ite rfl ?_ ?_
  · exact so_some
  · refine so_ck rfl ?_
    refine so_ltv rfl (fun xq2 => ?_)
    refine so_ite rfl ?_ ?_
    · exact so_some
    · refine so_ck rfl ?_
      refine so_ltv rfl (fun xq4 => ?_)
      refine so_ite rfl ?_ ?_
      · exact so_some
      · exact so_some
set_option maxHeartbeats 4000000 in
theorem lc_M_blanks_L0 (L : Nat → Nat → Int64) (k24_1 k24_1w : Mem → Option (Unit × Mem)) (Jk24_1 : ∀ (b0 : Mem), So L (k24_1 b0) (k24_1w (mL b0 L))) : ∀ (nf : Nat) (mq3 : Mem), So L (F_M_blanks_L0 k24_1 nf mq3) (F_M_blanks_L0 k24_1w nf (mL mq3 L)) := by
  intro nf
  induction nf with
  | zero =>
    intro mq3
    rw [F_M_blanks_L0, F_M_blanks_L0]
    exact so_none
  | succ nfq4 ih =>
    intro mq3
    rw [F_M_blanks_L0, F_M_blanks_L0]
    refine so_bnd (lc_M_isAt L _ _ _) (fun zq8 mq6 => ?_)
    refine so_ite rfl ?_ ?_
    · refine so_ltm rfl (fun mq9 => ?_)
      exact ih _
    · exact Jk24_1 _
set_option maxHeartbeats 4000000 in
theorem lc_M_blanks (L : Nat → Nat → Int64) (m0 : Mem) : So L (F_M_blanks m0) (F_M_blanks (mL m0 L)) := by
  unfold F_M_blanks
  refine so_ltj (fun z_ w_ => ∀ (q0_ : Mem), So L (z_ q0_) (w_ (mL q0_ L))) ?_ ?_
  · intro mq1
    refine so_ltm rfl (fun mq2 => ?_)
    exact so_some
  intro k24_1 k24_1w Jk24_1
  exact lc_M_blanks_L0 L k24_1 k24_1w Jk24_1 _ _
set_option maxHeartbeats 4000000 in
theorem lc_M_letters_L4 (L : Nat → Nat → Int64)  : ∀ (nf : Nat) (mq4 : Mem), So L (F_M_letters_L4  nf mq4) (F_M_letters_L4  nf (mL mq4 L)) := by
  intro nf
  induction nf with
  | zero =>
    intro mq4
    rw [F_M_letters_L4, F_M_letters_L4]
    exact so_none
  | succ nfq5 ih =>
    intro mq4
    rw [F_M_letters_L4, F_M_letters_L4]
    refine so_bnd (lc_M_isAt L _ _ _) (fun zq9 mq7 => ?_)
    refine so_ite rfl ?_ ?_
    · refine so_ltm rfl (fun mq10 => ?_)
      exact ih _
    · exact so_some
set_option maxHeartbeats 4000000 in
theorem lc_M_letters (L : Nat → Nat → Int64) (m0 : Mem) : So L (F_M_letters m0) (F_M_letters (mL m0 L)) := by
  unfold F_M_letters
  refine so_bnd (lc_M_blanks L _) (fun _ mq1 => ?_)
  exact lc_M_letters_L4 L   _ _
set_option maxHeartbeats 4000000 in
theorem lc_M_isWord_L24 (L : Nat → Nat → Int64) (tx1 : String) : ∀ (nf : Nat) (zq4 : Bool) (xq5 : Int32) (mq3 : Mem), So L (F_M_isWord_L24 tx1 nf zq4 xq5 mq3) (F_M_isWord_L24 tx1 nf zq4 xq5 (mL mq3 L)) := by
  intro nf
  induction nf with
  | zero =>
    intro zq4 xq5 mq3
    rw [F_M_isWord_L24, F_M_isWord_L24]
    exact so_none
  | succ nfq6 ih =>
    intro zq4 xq5 mq3
    rw [F_M_isWord_L24, F_M_isWord_L24]
    refine so_ite rfl ?_ ?_
    · refine so_ite rfl ?_ ?_
      · exact so_some
      · refine so_ck rfl ?_
        refine so_ltv rfl (fun xq9 => ?_)
        refine so_ck rfl ?_
        refine so_ltj (fun z_ w_ => ∀ (q0_ : Bool) (q1_ : Mem), So L (z_ q0_ q1_) (w_ q0_ (mL q1_ L))) ?_ ?_
        · intro zq12 mq11
          refine so_ltv rfl (fun xq13 => ?_)
          exact ih _ _ _
        intro k60_12 k60_12w Jk60_12
        refine so_ite rfl ?_ ?_
        · exact Jk60_12 _ _
        · exact Jk60_12 _ _
    · exact so_some
set_option maxHeartbeats 4000000 in
theorem lc_M_isWord (L : Nat → Nat → Int64) (tx1 : String) (m0 : Mem) : So L (F_M_isWord tx1 m0) (F_M_isWord tx1 (mL m0 L)) := by
  unfold F_M_isWord
  refine so_ltj (fun z_ w_ => ∀ (q0_ : Bool) (q1_ : Mem), So L (z_ q0_ q1_) (w_ q0_ (mL q1_ L))) ?_ ?_
  · intro zq2 mq1
    exact lc_M_isWord_L24 L _  _ _ _ _
  intro k21_2 k21_2w Jk21_2
  refine so_ite rfl ?_ ?_
  · exact Jk21_2 _ _
  · exact Jk21_2 _ _
set_option maxHeartbeats 4000000 in
theorem lc_M_number_L6 (L : Nat → Nat → Int64) (k65_5 k65_5w : Int32 → Mem → Option (Int32 × Mem)) (Jk65_5 : ∀ (b0 : Int32) (b1 : Mem), So L (k65_5 b0 b1) (k65_5w b0 (mL b1 L))) : ∀ (nf : Nat) (xq7 : Int32) (mq6 : Mem), So L (F_M_number_L6 k65_5 nf xq7 mq6) (F_M_number_L6 k65_5w nf xq7 (mL mq6 L)) := by
  intro nf
  induction nf with
  | zero =>
    intro xq7 mq6
    rw [F_M_number_L6, F_M_number_L6]
    exact so_none
  | succ nfq8 ih =>
    intro xq7 mq6
    rw [F_M_number_L6, F_M_number_L6]
    refine so_bnd (lc_M_isAt L _ _ _) (fun zq12 mq10 => ?_)
    refine so_ite rfl ?_ ?_
    · refine so_ltj (fun z_ w_ => ∀ (q0_ : Int32) (q1_ : Mem), So L (z_ q0_ q1_) (w_ q0_ (mL q1_ L))) ?_ ?_
      · intro xq14 mq13
        refine so_ltm rfl (fun mq15 => ?_)
        exact ih _ _
      intro k51_14 k51_14w Jk51_14
      refine so_ite rfl ?_ ?_
      · exact Jk51_14 _ _
      · refine so_ck rfl ?_
        refine so_ltv rfl (fun xq17 => ?_)
        exact Jk51_14 _ _
    · exact Jk65_5 _ _
set_option maxHeartbeats 4000000 in
theorem lc_M_number (L : Nat → Nat → Int64) (a1 : Int32) (a2 : Int32) (m0 : Mem) : So L (F_M_number a1 a2 m0) (F_M_number a1 a2 (mL m0 L)) := by
  unfold F_M_number
  refine so_bnd (lc_M_blanks L _) (fun _ mq1 => ?_)
  refine so_ltj (fun z_ w_ => ∀ (q0_ : Int32) (q1_ : Mem), So L (z_ q0_ q1_) (w_ q0_ (mL q1_ L))) ?_ ?_
  · intro xq5 mq4
    refine so_ite rfl ?_ ?_
    · exact so_some
    · refine so_ite rfl ?_ ?_
      · exact so_some
      · refine so_ite rfl ?_ ?_
        · exact so_some
        · refine so_ite rfl ?_ ?_
          · exact so_some
          · exact so_some
  intro k65_5 k65_5w Jk65_5
  exact lc_M_number_L6 L k65_5 k65_5w Jk65_5 _ _ _
set_option maxHeartbeats 4000000 in
theorem lc_M_passes (L : Nat → Nat → Int64) (tx1 : String) (m0 : Mem) : So L (F_M_passes tx1 m0) (F_M_passes tx1 (mL m0 L)) := by
  unfold F_M_passes
  refine so_bnd (lc_M_letters L _) (fun _ mq1 => ?_)
  refine so_bnd (lc_M_isWord L _ _) (fun zq6 mq4 => ?_)
  refine so_ite rfl ?_ ?_
  · exact so_some
  · refine so_ltm rfl (fun mq7 => ?_)
    exact so_some
set_option maxHeartbeats 4000000 in
theorem lc_M_emits (L : Nat → Nat → Int64) (a1 : Int32) (a2 : Int32) (m0 : Mem) : So L (F_M_emits a1 a2 m0) (F_M_emits a1 a2 (mL m0 L)) := by
  unfold F_M_emits
  refine so_ck rfl ?_
  refine so_ltm rfl (fun mq1 => ?_)
  refine so_ltv rfl (fun xq3 => ?_)
  refine so_ck rfl ?_
  refine so_ltm rfl (fun mq4 => ?_)
  refine so_ltm rfl (fun mq6 => ?_)
  exact so_some
set_option maxHeartbeats 4000000 in
theorem lc_M_readAllOf_L9 (L : Nat → Nat → Int64) (rc rcw : Mem → Option (Bool × Mem)) (hrc : ∀  (m : Mem), So L (rc  m) (rcw  (mL m L))) : ∀ (nf : Nat) (mq4 : Mem), So L (F_M_readAllOf_L9 rc nf mq4) (F_M_readAllOf_L9 rcw nf (mL mq4 L)) := by
  intro nf
  induction nf with
  | zero =>
    intro mq4
    rw [F_M_readAllOf_L9, F_M_readAllOf_L9]
    exact so_none
  | succ nfq5 ih =>
    intro mq4
    rw [F_M_readAllOf_L9, F_M_readAllOf_L9]
    refine so_bnd (lc_M_passes L _ _) (fun zq9 mq7 => ?_)
    refine so_ite rfl ?_ ?_
    · refine so_bnd (hrc _) (fun zq12 mq10 => ?_)
      refine so_ite rfl ?_ ?_
      · refine so_bnd (lc_M_emits L _ _ _) (fun _ mq13 => ?_)
        exact ih _
      · exact so_some
    · exact so_some
set_option maxHeartbeats 4000000 in
theorem lc_M_readAllOf (L : Nat → Nat → Int64) (rc rcw : Mem → Option (Bool × Mem)) (hrc : ∀  (m : Mem), So L (rc  m) (rcw  (mL m L))) (m0 : Mem) : So L (F_M_readAllOf rc m0) (F_M_readAllOf rcw (mL m0 L)) := by
  unfold F_M_readAllOf
  refine so_bnd (hrc _) (fun zq3 mq1 => ?_)
  refine so_ite rfl ?_ ?_
  · exact lc_M_readAllOf_L9 L rc rcw hrc  _ _
  · exact so_some
set_option maxHeartbeats 4000000 in
theorem lc_M_readCond_L9 (L : Nat → Nat → Int64) (rc rcw : Mem → Option (Bool × Mem)) (hrc : ∀  (m : Mem), So L (rc  m) (rcw  (mL m L))) : ∀ (nf : Nat) (mq4 : Mem), So L (F_M_readCond_L9 rc nf mq4) (F_M_readCond_L9 rcw nf (mL mq4 L)) := by
  intro nf
  induction nf with
  | zero =>
    intro mq4
    rw [F_M_readCond_L9, F_M_readCond_L9]
    exact so_none
  | succ nfq5 ih =>
    intro mq4
    rw [F_M_readCond_L9, F_M_readCond_L9]
    refine so_bnd (lc_M_passes L _ _) (fun zq9 mq7 => ?_)
    refine so_ite rfl ?_ ?_
    · refine so_bnd (lc_M_readAllOf L rc rcw hrc _) (fun zq12 mq10 => ?_)
      refine so_ite rfl ?_ ?_
      · refine so_bnd (lc_M_emits L _ _ _) (fun _ mq13 => ?_)
        exact ih _
      · exact so_some
    · exact so_some
set_option maxHeartbeats 4000000 in
theorem lc_M_readCond (L : Nat → Nat → Int64) (rc rcw : Mem → Option (Bool × Mem)) (hrc : ∀  (m : Mem), So L (rc  m) (rcw  (mL m L))) (m0 : Mem) : So L (F_M_readCond rc m0) (F_M_readCond rcw (mL m0 L)) := by
  unfold F_M_readCond
  refine so_bnd (lc_M_readAllOf L rc rcw hrc _) (fun zq3 mq1 => ?_)
  refine so_ite rfl ?_ ?_
  · exact lc_M_readCond_L9 L rc rcw hrc  _ _
  · exact so_some
set_option maxHeartbeats 4000000 in
theorem lc_M_sign (L : Nat → Nat → Int64) (a1 : Int32) (m0 : Mem) : So L (F_M_sign a1 m0) (F_M_sign a1 (mL m0 L)) := by
  unfold F_M_sign
  refine so_bnd (lc_M_blanks L _) (fun _ mq1 => ?_)
  refine so_bnd (lc_M_isAt L _ _ _) (fun zq6 mq4 => ?_)
  refine so_ite rfl ?_ ?_
  · refine so_ltm rfl (fun mq7 => ?_)
    exact so_some
  · exact so_some
set_option maxHeartbeats 4000000 in
theorem lc_M_readPart (L : Nat → Nat → Int64) (m0 : Mem) : So L (F_M_readPart m0) (F_M_readPart (mL m0 L)) := by
  unfold F_M_readPart
  refine so_bnd (lc_M_letters L _) (fun _ mq1 => ?_)
  refine so_ltj (fun z_ w_ => ∀ (q0_ : Int32) (q1_ : Mem), So L (z_ q0_ q1_) (w_ q0_ (mL q1_ L))) ?_ ?_
  · intro xq5 mq4
    refine so_ite rfl ?_ ?_
    · exact so_some
    · exact so_some
  intro k120_5 k120_5w Jk120_5
  refine so_ite rfl ?_ ?_
  · refine so_bnd (lc_M_number L _ _ _) (fun xq31 mq29 => ?_)
    refine so_bnd (lc_M_emits L _ _ _) (fun _ mq32 => ?_)
    exact Jk120_5 _ _
  · refine so_bnd (lc_M_isWord L _ _) (fun zq8 mq6 => ?_)
    refine so_ltj (fun z_ w_ => ∀ (q0_ : Int32) (q1_ : Mem), So L (z_ q0_ q1_) (w_ q0_ (mL q1_ L))) ?_ ?_
    · intro xq10 mq9
      refine so_bnd (lc_M_emits L _ _ _) (fun _ mq11 => ?_)
      exact Jk120_5 _ _
    intro k113_10 k113_10w Jk113_10
    refine so_ite rfl ?_ ?_
    · exact Jk113_10 _ _
    · refine so_bnd (lc_M_isWord L _ _) (fun zq16 mq14 => ?_)
      refine so_ite rfl ?_ ?_
      · exact Jk113_10 _ _
      · refine so_bnd (lc_M_isWord L _ _) (fun zq19 mq17 => ?_)
        refine so_ite rfl ?_ ?_
        · exact Jk113_10 _ _
        · refine so_bnd (lc_M_isWord L _ _) (fun zq22 mq20 => ?_)
          refine so_ite rfl ?_ ?_
          · exact Jk113_10 _ _
          · refine so_bnd (lc_M_isWord L _ _) (fun zq25 mq23 => ?_)
            refine so_ite rfl ?_ ?_
            · exact Jk113_10 _ _
            · refine so_bnd (lc_M_isWord L _ _) (fun zq28 mq26 => ?_)
              refine so_ite rfl ?_ ?_
              · exact Jk113_10 _ _
              · exact Jk113_10 _ _
set_option maxHeartbeats 4000000 in
theorem lc_M_readSum_L9 (L : Nat → Nat → Int64)  : ∀ (nf : Nat) (mq4 : Mem), So L (F_M_readSum_L9  nf mq4) (F_M_readSum_L9  nf (mL mq4 L)) := by
  intro nf
  induction nf with
  | zero =>
    intro mq4
    rw [F_M_readSum_L9, F_M_readSum_L9]
    exact so_none
  | succ nfq5 ih =>
    intro mq4
    rw [F_M_readSum_L9, F_M_readSum_L9]
    refine so_bnd (lc_M_sign L _ _) (fun zq9 mq7 => ?_)
    refine so_ite rfl ?_ ?_
    · refine so_bnd (lc_M_readPart L _) (fun zq12 mq10 => ?_)
      refine so_ite rfl ?_ ?_
      · refine so_bnd (lc_M_emits L _ _ _) (fun _ mq13 => ?_)
        exact ih _
      · exact so_some
    · exact so_some
set_option maxHeartbeats 4000000 in
theorem lc_M_readSum (L : Nat → Nat → Int64) (m0 : Mem) : So L (F_M_readSum m0) (F_M_readSum (mL m0 L)) := by
  unfold F_M_readSum
  refine so_bnd (lc_M_readPart L _) (fun zq3 mq1 => ?_)
  refine so_ite rfl ?_ ?_
  · exact lc_M_readSum_L9 L   _ _
  · exact so_some
set_option maxHeartbeats 4000000 in
theorem lc_M_readAtom_b (L : Nat → Nat → Int64) (rc rcw : Mem → Option (Bool × Mem)) (hrc : ∀  (m : Mem), So L (rc  m) (rcw  (mL m L))) (m0 : Mem) : So L (F_M_readAtom_b rc m0) (F_M_readAtom_b rcw (mL m0 L)) := by
  unfold F_M_readAtom_b
  refine so_bnd (lc_M_sign L _ _) (fun zq3 mq1 => ?_)
  refine so_ite rfl ?_ ?_
  · refine so_ite rfl ?_ ?_
    · exact so_some
    · refine so_ltm rfl (fun mq45 => ?_)
      refine so_bnd (lc_M_readCond L rc rcw hrc _) (fun zq48 mq46 => ?_)
      refine so_ite rfl ?_ ?_
      · refine so_ltm rfl (fun mq49 => ?_)
        refine so_bnd (lc_M_sign L _ _) (fun zq52 mq50 => ?_)
        exact so_some
      · exact so_some
  · refine so_bnd (lc_M_passes L _ _) (fun zq6 mq4 => ?_)
    refine so_ite rfl ?_ ?_
    · refine so_ite rfl ?_ ?_
      · exact so_some
      · refine so_ltm rfl (fun mq37 => ?_)
        refine so_bnd (hrc _) (fun zq40 mq38 => ?_)
        refine so_ite rfl ?_ ?_
        · refine so_ltm rfl (fun mq41 => ?_)
          refine so_bnd (lc_M_emits L _ _ _) (fun _ mq42 => ?_)
          exact so_some
        · exact so_some
    · refine so_bnd (lc_M_passes L _ _) (fun zq9 mq7 => ?_)
      refine so_ltj (fun z_ w_ => ∀ (q0_ : Mem), So L (z_ q0_) (w_ (mL q0_ L))) ?_ ?_
      · intro mq10
        refine so_ltj (fun z_ w_ => ∀ (q0_ : Int32) (q1_ : Mem), So L (z_ q0_ q1_) (w_ q0_ (mL q1_ L))) ?_ ?_
        · intro xq12 mq11
          refine so_bnd (lc_M_emits L _ _ _) (fun _ mq13 => ?_)
          exact so_some
        intro k146_12 k146_12w Jk146_12
        refine so_ite rfl ?_ ?_
        · exact Jk146_12 _ _
        · exact Jk146_12 _ _
      intro k134_10 k134_10w Jk134_10
      refine so_ite rfl ?_ ?_
      · exact Jk134_10 _
      · refine so_bnd (lc_M_passes L _ _) (fun zq18 mq16 => ?_)
        refine so_ite rfl ?_ ?_
        · exact Jk134_10 _
        · refine so_bnd (lc_M_readSum L _) (fun zq21 mq19 => ?_)
          refine so_ite rfl ?_ ?_
          · refine so_bnd (lc_M_sign L _ _) (fun zq24 mq22 => ?_)
            refine so_ltj (fun z_ w_ => ∀ (q0_ : Mem), So L (z_ q0_) (w_ (mL q0_ L))) ?_ ?_
            · intro mq25
              refine so_bnd (lc_M_readSum L _) (fun zq28 mq26 => ?_)
              refine so_ite rfl ?_ ?_
              · refine so_ltj (fun z_ w_ => ∀ (q0_ : Int32) (q1_ : Mem), So L (z_ q0_ q1_) (w_ q0_ (mL q1_ L))) ?_ ?_
                · intro xq30 mq29
                  refine so_bnd (lc_M_emits L _ _ _) (fun _ mq31 => ?_)
                  exact so_some
                intro k202_30 k202_30w Jk202_30
                refine so_ite rfl ?_ ?_
                · exact Jk202_30 _ _
                · exact Jk202_30 _ _
              · exact so_some
            intro k181_25 k181_25w Jk181_25
            refine so_ite rfl ?_ ?_
            · exact Jk181_25 _
            · refine so_bnd (lc_M_sign L _ _) (fun zq36 mq34 => ?_)
              refine so_ite rfl ?_ ?_
              · exact Jk181_25 _
              · exact so_some
          · exact so_some
set_option maxHeartbeats 4000000 in
theorem lc_M_readAtom (L : Nat → Nat → Int64) : ∀ (k : Nat) (b0 : Mem), So L (F_M_readAtom k b0) (F_M_readAtom k (mL b0 L)) := by
  intro k
  induction k with
  | zero =>
    intro b0
    rw [F_M_readAtom, F_M_readAtom]
    exact so_none
  | succ k ih =>
    intro b0
    rw [F_M_readAtom, F_M_readAtom]
    exact lc_M_readAtom_b L (F_M_readAtom k) (F_M_readAtom k) ih b0
set_option maxHeartbeats 4000000 in
theorem lc_M_readLawLine (L : Nat → Nat → Int64) (a1 : Int32) (m0 : Mem) : So L (F_M_readLawLine a1 m0) (F_M_readLawLine a1 (mL m0 L)) := by
  unfold F_M_readLawLine
  refine so_ltv rfl (fun xq1 => ?_)
  refine so_bnd (lc_M_isWord L _ _) (fun zq4 mq2 => ?_)
  refine so_ite rfl ?_ ?_
  · refine so_bnd (lc_M_number L _ _ _) (fun xq7 mq5 => ?_)
    refine so_ck rfl ?_
    refine so_ltm rfl (fun mq8 => ?_)
    refine so_ck rfl ?_
    refine so_ltv rfl (fun xq11 => ?_)
    refine so_ite rfl ?_ ?_
    · refine so_ck rfl ?_
      refine so_ltm rfl (fun mq12 => ?_)
      refine so_ltm rfl (fun mq14 => ?_)
      refine so_bnd (lc_M_passes L _ _) (fun zq17 mq15 => ?_)
      refine so_ltj (fun z_ w_ => ∀ (q0_ : Mem), So L (z_ q0_) (w_ (mL q0_ L))) ?_ ?_
      · intro mq18
        refine so_ck rfl ?_
        refine so_ltm rfl (fun mq19 => ?_)
        exact so_some
      intro k78_18 k78_18w Jk78_18
      refine so_ite rfl ?_ ?_
      · refine so_bnd (lc_M_readCond L _ _ (lc_M_readAtom L 8) _) (fun zq23 mq21 => ?_)
        refine so_ite rfl ?_ ?_
        · exact Jk78_18 _
        · exact so_some
      · exact Jk78_18 _
    · exact so_some
  · exact so_some
set_option maxHeartbeats 4000000 in
theorem lc_M_readBook (L : Nat → Nat → Int64) (m0 : Mem) : So L (F_M_readBook m0) (F_M_readBook (mL m0 L)) := by
  unfold F_M_readBook
  refine so_ltv rfl (fun xq1 => ?_)
  refine so_ite rfl ?_ ?_
  · exact so_some
  · refine so_bnd (lc_M_number L _ _ _) (fun xq4 mq2 => ?_)
    refine so_ltj (fun z_ w_ => ∀ (q0_ : Int32) (q1_ : Mem), So L (z_ q0_ q1_) (w_ q0_ (mL q1_ L))) ?_ ?_
    · intro xq6 mq5
      refine so_ltj (fun z_ w_ => ∀ (q0_ : Int32) (q1_ : Mem), So L (z_ q0_ q1_) (w_ q0_ (mL q1_ L))) ?_ ?_
      · intro xq8 mq7
        refine so_ite rfl ?_ ?_
        · refine so_ck rfl ?_
          refine so_ltm rfl (fun mq9 => ?_)
          refine so_ck rfl ?_
          refine so_ltm rfl (fun mq11 => ?_)
          refine so_ck rfl ?_
          refine so_ltm rfl (fun mq13 => ?_)
          refine so_ltm rfl (fun mq15 => ?_)
          exact so_some
        · exact so_some
      intro k61_8 k61_8w Jk61_8
      refine so_ite rfl ?_ ?_
      · refine so_bnd (lc_M_number L _ _ _) (fun xq18 mq16 => ?_)
        exact Jk61_8 _ _
      · exact Jk61_8 _ _
    intro k46_6 k46_6w Jk46_6
    refine so_ite rfl ?_ ?_
    · refine so_bnd (lc_M_number L _ _ _) (fun xq21 mq19 => ?_)
      exact Jk46_6 _ _
    · exact Jk46_6 _ _
set_option maxHeartbeats 4000000 in
theorem lc_M_readNumber (L : Nat → Nat → Int64) (a1 : Int32) (a2 : Int32) (m0 : Mem) : So L (F_M_readNumber a1 a2 m0) (F_M_readNumber a1 a2 (mL m0 L)) := by
  unfold F_M_readNumber
  refine so_bnd (lc_M_number L _ _ _) (fun xq3 mq1 => ?_)
  refine so_ck rfl ?_
  refine so_ltm rfl (fun mq4 => ?_)
  refine so_ite rfl ?_ ?_
  · exact so_some
  · exact so_some
set_option maxHeartbeats 4000000 in
theorem lc_M_isFigure (L : Nat → Nat → Int64) (m0 : Mem) : So L (F_M_isFigure m0) (F_M_isFigure (mL m0 L)) := by
  unfold F_M_isFigure
  refine so_bnd (lc_M_blanks L _) (fun _ mq1 => ?_)
  refine so_bnd (lc_M_isAt L _ _ _) (fun zq6 mq4 => ?_)
  exact so_some
set_option maxHeartbeats 4000000 in
theorem lc_M_readSet_L0 (L : Nat → Nat → Int64) (a1 : Int32) : ∀ (nf : Nat) (mq1 : Mem), So L (F_M_readSet_L0 a1 nf mq1) (F_M_readSet_L0 a1 nf (mL mq1 L)) := by
  intro nf
  induction nf with
  | zero =>
    intro mq1
    rw [F_M_readSet_L0, F_M_readSet_L0]
    exact so_none
  | succ nfq2 ih =>
    intro mq1
    rw [F_M_readSet_L0, F_M_readSet_L0]
    refine so_bnd (lc_M_number L _ _ _) (fun xq6 mq4 => ?_)
    refine so_ite rfl ?_ ?_
    · refine so_ck rfl ?_
      refine so_ltv rfl (fun xq8 => ?_)
      refine so_ck rfl ?_
      refine so_ltm rfl (fun mq9 => ?_)
      refine so_bnd (lc_M_isFigure L _) (fun zq13 mq11 => ?_)
      refine so_ite rfl ?_ ?_
      · exact ih _
      · exact so_some
    · exact so_some
set_option maxHeartbeats 4000000 in
theorem lc_M_readSet (L : Nat → Nat → Int64) (a1 : Int32) (m0 : Mem) : So L (F_M_readSet a1 m0) (F_M_readSet a1 (mL m0 L)) := by
  unfold F_M_readSet
  exact lc_M_readSet_L0 L _  _ _
set_option maxHeartbeats 4000000 in
theorem lc_M_after_LjavalangStringIII (L : Nat → Nat → Int64) (tx1 : String) (a2 : Int32) (a3 : Int32) (m0 : Mem) : So L (F_M_after_LjavalangStringIII tx1 a2 a3 m0) (F_M_after_LjavalangStringIII tx1 a2 a3 (mL m0 L)) := by
  unfold F_M_after_LjavalangStringIII
  refine so_bnd (lc_M_letters L _) (fun _ mq1 => ?_)
  refine so_bnd (lc_M_isWord L _ _) (fun zq6 mq4 => ?_)
  refine so_ite rfl ?_ ?_
  · refine so_bnd (lc_M_number L _ _ _) (fun xq9 mq7 => ?_)
    exact so_some
  · exact so_some
set_option maxHeartbeats 4000000 in
theorem lc_M_readSlot (L : Nat → Nat → Int64) (m0 : Mem) : So L (F_M_readSlot m0) (F_M_readSlot (mL m0 L)) := by
  unfold F_M_readSlot
  refine so_bnd (lc_M_number L _ _ _) (fun xq3 mq1 => ?_)
  refine so_ltj (fun z_ w_ => ∀ (q0_ : Int32) (q1_ : Mem), So L (z_ q0_ q1_) (w_ q0_ (mL q1_ L))) ?_ ?_
  · intro xq5 mq4
    refine so_ltj (fun z_ w_ => ∀ (q0_ : Int32) (q1_ : Mem), So L (z_ q0_ q1_) (w_ q0_ (mL q1_ L))) ?_ ?_
    · intro xq7 mq6
      refine so_ltj (fun z_ w_ => ∀ (q0_ : Int32) (q1_ : Mem), So L (z_ q0_ q1_) (w_ q0_ (mL q1_ L))) ?_ ?_
      · intro xq9 mq8
        refine so_ite rfl ?_ ?_
        · refine so_ltv rfl (fun xq10 => ?_)
          refine so_ck rfl ?_
          refine so_ltm rfl (fun mq11 => ?_)
          refine so_ltv rfl (fun xq13 => ?_)
          refine so_ck rfl ?_
          refine so_ltm rfl (fun mq14 => ?_)
          exact so_some
        · exact so_some
      intro k57_9 k57_9w Jk57_9
      refine so_ite rfl ?_ ?_
      · refine so_bnd (lc_M_after_LjavalangStringIII L _ _ _ _) (fun xq18 mq16 => ?_)
        exact Jk57_9 _ _
      · exact Jk57_9 _ _
    intro k39_7 k39_7w Jk39_7
    refine so_ite rfl ?_ ?_
    · refine so_bnd (lc_M_after_LjavalangStringIII L _ _ _ _) (fun xq21 mq19 => ?_)
      exact Jk39_7 _ _
    · exact Jk39_7 _ _
  intro k21_5 k21_5w Jk21_5
  refine so_ite rfl ?_ ?_
  · refine so_bnd (lc_M_number L _ _ _) (fun xq24 mq22 => ?_)
    exact Jk21_5 _ _
  · exact Jk21_5 _ _
set_option maxHeartbeats 4000000 in
theorem lc_M_readSide (L : Nat → Nat → Int64) (m0 : Mem) : So L (F_M_readSide m0) (F_M_readSide (mL m0 L)) := by
  unfold F_M_readSide
  refine so_bnd (lc_M_number L _ _ _) (fun xq3 mq1 => ?_)
  refine so_ltj (fun z_ w_ => ∀ (q0_ : Int32) (q1_ : Mem), So L (z_ q0_ q1_) (w_ q0_ (mL q1_ L))) ?_ ?_
  · intro xq5 mq4
    refine so_ltj (fun z_ w_ => ∀ (q0_ : Int32) (q1_ : Mem), So L (z_ q0_ q1_) (w_ q0_ (mL q1_ L))) ?_ ?_
    · intro xq7 mq6
      refine so_ite rfl ?_ ?_
      · refine so_ck rfl ?_
        refine so_ltm rfl (fun mq8 => ?_)
        refine so_ltv rfl (fun xq10 => ?_)
        refine so_ck rfl ?_
        refine so_ltm rfl (fun mq11 => ?_)
        exact so_some
      · exact so_some
    intro k42_7 k42_7w Jk42_7
    refine so_ite rfl ?_ ?_
    · refine so_bnd (lc_M_after_LjavalangStringIII L _ _ _ _) (fun xq15 mq13 => ?_)
      exact Jk42_7 _ _
    · exact Jk42_7 _ _
  intro k24_5 k24_5w Jk24_5
  refine so_ite rfl ?_ ?_
  · refine so_bnd (lc_M_after_LjavalangStringIII L _ _ _ _) (fun xq18 mq16 => ?_)
    exact Jk24_5 _ _
  · exact Jk24_5 _ _
set_option maxHeartbeats 4000000 in
theorem lc_M_readSessions (L : Nat → Nat → Int64) (m0 : Mem) : So L (F_M_readSessions m0) (F_M_readSessions (mL m0 L)) := by
  unfold F_M_readSessions
  refine so_ite rfl ?_ ?_
  · refine so_bnd (lc_M_number L _ _ _) (fun xq3 mq1 => ?_)
    refine so_ltj (fun z_ w_ => ∀ (q0_ : Mem), So L (z_ q0_) (w_ (mL q0_ L))) ?_ ?_
    · intro mq4
      refine so_ite rfl ?_ ?_
      · exact so_some
      · exact so_some
    intro k31_4 k31_4w Jk31_4
    refine so_ite rfl ?_ ?_
    · exact Jk31_4 _
    · refine so_ltm rfl (fun mq5 => ?_)
      exact Jk31_4 _
  · exact so_some
set_option maxHeartbeats 4000000 in
theorem lc_M_readGroundLine (L : Nat → Nat → Int64) (m0 : Mem) : So L (F_M_readGroundLine m0) (F_M_readGroundLine (mL m0 L)) := by
  unfold F_M_readGroundLine
  refine so_bnd (lc_M_isWord L _ _) (fun zq3 mq1 => ?_)
  refine so_ite rfl ?_ ?_
  · refine so_bnd (lc_M_readSessions L _) (fun zq54 mq52 => ?_)
    exact so_some
  · refine so_bnd (lc_M_isWord L _ _) (fun zq6 mq4 => ?_)
    refine so_ite rfl ?_ ?_
    · refine so_bnd (lc_M_readSide L _) (fun zq51 mq49 => ?_)
      exact so_some
    · refine so_bnd (lc_M_isWord L _ _) (fun zq9 mq7 => ?_)
      refine so_ite rfl ?_ ?_
      · refine so_bnd (lc_M_readSlot L _) (fun zq48 mq46 => ?_)
        exact so_some
      · refine so_bnd (lc_M_isWord L _ _) (fun zq12 mq10 => ?_)
        refine so_ite rfl ?_ ?_
        · refine so_bnd (lc_M_readSet L _ _) (fun zq45 mq43 => ?_)
          exact so_some
        · refine so_bnd (lc_M_isWord L _ _) (fun zq15 mq13 => ?_)
          refine so_ite rfl ?_ ?_
          · refine so_bnd (lc_M_readSet L _ _) (fun zq42 mq40 => ?_)
            exact so_some
          · refine so_bnd (lc_M_isWord L _ _) (fun zq18 mq16 => ?_)
            refine so_ite rfl ?_ ?_
            · refine so_bnd (lc_M_readSet L _ _) (fun zq39 mq37 => ?_)
              exact so_some
            · refine so_bnd (lc_M_isWord L _ _) (fun zq21 mq19 => ?_)
              refine so_ite rfl ?_ ?_
              · refine so_bnd (lc_M_readNumber L _ _ _) (fun zq36 mq34 => ?_)
                exact so_some
              · refine so_bnd (lc_M_isWord L _ _) (fun zq24 mq22 => ?_)
                refine so_ite rfl ?_ ?_
                · refine so_bnd (lc_M_readNumber L _ _ _) (fun zq33 mq31 => ?_)
                  exact so_some
                · refine so_bnd (lc_M_isWord L _ _) (fun zq27 mq25 => ?_)
                  refine so_ite rfl ?_ ?_
                  · refine so_bnd (lc_M_readBook L _) (fun zq30 mq28 => ?_)
                    refine so_ite rfl ?_ ?_
                    · exact so_some
                    · exact so_some
                  · exact so_some
set_option maxHeartbeats 4000000 in
theorem lc_M_readLine (L : Nat → Nat → Int64) (a1 : Bool) (a2 : Int32) (m0 : Mem) : So L (F_M_readLine a1 a2 m0) (F_M_readLine a1 a2 (mL m0 L)) := by
  unfold F_M_readLine
  refine so_bnd (lc_M_letters L _) (fun _ mq1 => ?_)
  refine so_ltj (fun z_ w_ => ∀ (q0_ : Int32) (q1_ : Mem), So L (z_ q0_ q1_) (w_ q0_ (mL q1_ L))) ?_ ?_
  · intro xq5 mq4
    refine so_ite rfl ?_ ?_
    · exact so_some
    · refine so_ite rfl ?_ ?_
      · refine so_bnd (lc_M_readGroundLine L _) (fun zq11 mq9 => ?_)
        refine so_ite rfl ?_ ?_
        · exact so_some
        · exact so_some
      · refine so_bnd (lc_M_readLawLine L _ _) (fun zq8 mq6 => ?_)
        refine so_ite rfl ?_ ?_
        · exact so_some
        · exact so_some
  intro k16_5 k16_5w Jk16_5
  refine so_ite rfl ?_ ?_
  · exact Jk16_5 _ _
  · exact Jk16_5 _ _
set_option maxHeartbeats 4000000 in
theorem lc_M_readAll_L28 (L : Nat → Nat → Int64) (a1 : Bool) (k54_9 k54_9w : Int32 → Mem → Option (Int32 × Mem)) (Jk54_9 : ∀ (b0 : Int32) (b1 : Mem), So L (k54_9 b0 b1) (k54_9w b0 (mL b1 L))) : ∀ (nf : Nat) (xq11 : Int32) (mq10 : Mem), So L (F_M_readAll_L28 a1 k54_9 nf xq11 mq10) (F_M_readAll_L28 a1 k54_9w nf xq11 (mL mq10 L)) := by
  intro nf
  induction nf with
  | zero =>
    intro xq11 mq10
    rw [F_M_readAll_L28, F_M_readAll_L28]
    exact so_none
  | succ nfq12 ih =>
    intro xq11 mq10
    rw [F_M_readAll_L28, F_M_readAll_L28]
    refine so_bnd (lc_M_readLine L _ _ _) (fun zq16 mq14 => ?_)
    refine so_ite rfl ?_ ?_
    · refine so_bnd (lc_M_blanks L _) (fun _ mq17 => ?_)
      refine so_ite rfl ?_ ?_
      · exact Jk54_9 _ _
      · refine so_bnd (lc_M_isAt L _ _ _) (fun zq22 mq20 => ?_)
        refine so_ite rfl ?_ ?_
        · refine so_ltm rfl (fun mq23 => ?_)
          refine so_ltv rfl (fun xq24 => ?_)
          exact ih _ _
        · exact so_some
    · exact so_some
set_option maxHeartbeats 4000000 in
theorem lc_M_readAll (L : Nat → Nat → Int64) (a1 : Bool) (m0 : Mem) : So L (F_M_readAll a1 m0) (F_M_readAll a1 (mL m0 L)) := by
  unfold F_M_readAll
  refine so_bnd (lc_M_uses L _) (fun _ mq1 => ?_)
  refine so_ltm rfl (fun mq4 => ?_)
  refine so_bnd (lc_M_blanks L _) (fun _ mq5 => ?_)
  refine so_ite rfl ?_ ?_
  · exact so_some
  · refine so_ltj (fun z_ w_ => ∀ (q0_ : Int32) (q1_ : Mem), So L (z_ q0_ q1_) (w_ q0_ (mL q1_ L))) ?_ ?_
    · intro xq9 mq8
      exact so_some
    intro k54_9 k54_9w Jk54_9
    exact lc_M_readAll_L28 L _ k54_9 k54_9w Jk54_9 _ _ _
set_option maxHeartbeats 4000000 in
theorem lc_M_ground_L92 (L : Nat → Nat → Int64)  : ∀ (nf : Nat) (xq15 : Int32) (mq14 : Mem), So L (F_M_ground_L92  nf xq15 mq14) (F_M_ground_L92  nf xq15 (mL mq14 L)) := by
  intro nf
  induction nf with
  | zero =>
    intro xq15 mq14
    rw [F_M_ground_L92, F_M_ground_L92]
    exact so_none
  | succ nfq16 ih =>
    intro xq15 mq14
    rw [F_M_ground_L92, F_M_ground_L92]
    refine so_ite rfl ?_ ?_
    · exact so_some
    · refine so_ck rfl ?_
      refine so_ltv rfl (fun xq19 => ?_)
      refine so_ck rfl ?_
      refine so_ltm rfl (fun mq20 => ?_)
      refine so_ltv rfl (fun xq22 => ?_)
      exact ih _ _
set_option maxHeartbeats 4000000 in
theorem lc_M_ground_L2 (L : Nat → Nat → Int64) (k27_1 k27_1w : Mem → Option (Int32 × Mem)) (Jk27_1 : ∀ (b0 : Mem), So L (k27_1 b0) (k27_1w (mL b0 L))) : ∀ (nf : Nat) (xq31 : Int32) (mq30 : Mem), So L (F_M_ground_L2 k27_1 nf xq31 mq30) (F_M_ground_L2 k27_1w nf xq31 (mL mq30 L)) := by
  intro nf
  induction nf with
  | zero =>
    intro xq31 mq30
    rw [F_M_ground_L2, F_M_ground_L2]
    exact so_none
  | succ nfq32 ih =>
    intro xq31 mq30
    rw [F_M_ground_L2, F_M_ground_L2]
    refine so_ite rfl ?_ ?_
    · exact Jk27_1 _
    · refine so_ck rfl ?_
      refine so_ltv rfl (fun xq35 => ?_)
      refine so_ck rfl ?_
      refine so_ltm rfl (fun mq36 => ?_)
      refine so_ltv rfl (fun xq38 => ?_)
      exact ih _ _
set_option maxHeartbeats 4000000 in
theorem lc_M_ground (L : Nat → Nat → Int64) (m0 : Mem) : So L (F_M_ground m0) (F_M_ground (mL m0 L)) := by
  unfold F_M_ground
  refine so_ltj (fun z_ w_ => ∀ (q0_ : Mem), So L (z_ q0_) (w_ (mL q0_ L))) ?_ ?_
  · intro mq1
    refine so_bnd (lc_M_readAll L _ _) (fun xq4 mq2 => ?_)
    refine so_ltj (fun z_ w_ => ∀ (q0_ : Int32) (q1_ : Mem), So L (z_ q0_ q1_) (w_ q0_ (mL q1_ L))) ?_ ?_
    · intro xq6 mq5
      refine so_ltm rfl (fun mq7 => ?_)
      refine so_ltj (fun z_ w_ => ∀ (q0_ : Bool) (q1_ : Mem), So L (z_ q0_ q1_) (w_ q0_ (mL q1_ L))) ?_ ?_
      · intro zq9 mq8
        refine so_bnd (lc_M_throwsIf L _ _ _) (fun zq12 mq10 => ?_)
        refine so_ltj (fun z_ w_ => ∀ (q0_ : Mem), So L (z_ q0_) (w_ (mL q0_ L))) ?_ ?_
        · intro mq13
          exact lc_M_ground_L92 L   _ _ _
        intro k90_13 k90_13w Jk90_13
        refine so_ite rfl ?_ ?_
        · exact Jk90_13 _
        · refine so_ltj (fun z_ w_ => ∀ (q0_ : Bool) (q1_ : Mem), So L (z_ q0_ q1_) (w_ q0_ (mL q1_ L))) ?_ ?_
          · intro zq24 mq23
            refine so_bnd (lc_M_throwsIf L _ _ _) (fun zq27 mq25 => ?_)
            refine so_ite rfl ?_ ?_
            · exact Jk90_13 _
            · refine so_ltm rfl (fun mq28 => ?_)
              refine so_ltm rfl (fun mq29 => ?_)
              exact so_some
          intro k83_24 k83_24w Jk83_24
          refine so_ite rfl ?_ ?_
          · exact Jk83_24 _ _
          · exact Jk83_24 _ _
      intro k59_9 k59_9w Jk59_9
      refine so_ite rfl ?_ ?_
      · exact Jk59_9 _ _
      · exact Jk59_9 _ _
    intro k46_6 k46_6w Jk46_6
    refine so_ite rfl ?_ ?_
    · exact Jk46_6 _ _
    · exact Jk46_6 _ _
  intro k27_1 k27_1w Jk27_1
  exact lc_M_ground_L2 L k27_1 k27_1w Jk27_1 _ _ _
set_option maxHeartbeats 4000000 in
theorem lc_M_habit (L : Nat → Nat → Int64) (a1 : Bool) (m0 : Mem) : So L (F_M_habit a1 m0) (F_M_habit a1 (mL m0 L)) := by
  unfold F_M_habit
  refine so_ltm rfl (fun mq1 => ?_)
  refine so_ite rfl ?_ ?_
  · refine so_bnd (lc_M_bookOf L _ _) (fun xq13 mq11 => ?_)
    refine so_bnd (lc_M_bookOf L _ _) (fun xq16 mq14 => ?_)
    refine so_bnd (lc_M_bookOf L _ _) (fun xq19 mq17 => ?_)
    refine so_ite rfl ?_ ?_
    · exact so_some
    · exact so_some
  · refine so_bnd (lc_M_bookOf L _ _) (fun xq4 mq2 => ?_)
    refine so_ite rfl ?_ ?_
    · exact so_some
    · refine so_bnd (lc_M_bookOf L _ _) (fun xq7 mq5 => ?_)
      refine so_bnd (lc_M_bookOf L _ _) (fun xq10 mq8 => ?_)
      refine so_ite rfl ?_ ?_
      · exact so_some
      · exact so_some
set_option maxHeartbeats 4000000 in
theorem lc_M_hardest_L39 (L : Nat → Nat → Int64) (a1 : Int32) (a2 : Int32) : ∀ (nf : Nat) (xq11 : Int32) (xq12 : Int32) (mq10 : Mem), So L (F_M_hardest_L39 a1 a2 nf xq11 xq12 mq10) (F_M_hardest_L39 a1 a2 nf xq11 xq12 (mL mq10 L)) := by
  intro nf
  induction nf with
  | zero =>
    intro xq11 xq12 mq10
    rw [F_M_hardest_L39, F_M_hardest_L39]
    exact so_none
  | succ nfq13 ih =>
    intro xq11 xq12 mq10
    rw [F_M_hardest_L39, F_M_hardest_L39]
    refine so_bnd (lc_M_size L _) (fun xq17 mq15 => ?_)
    refine so_ite rfl ?_ ?_
    · exact so_some
    · refine so_bnd (lc_M_levelOf L _ _ _ _) (fun xq20 mq18 => ?_)
      refine so_bnd (lc_M_levelOf L _ _ _ _) (fun xq23 mq21 => ?_)
      refine so_ltj (fun z_ w_ => ∀ (q0_ : Int32) (q1_ : Mem), So L (z_ q0_ q1_) (w_ q0_ (mL q1_ L))) ?_ ?_
      · intro xq25 mq24
        refine so_ltv rfl (fun xq26 => ?_)
        exact ih _ _ _
      intro k72_25 k72_25w Jk72_25
      refine so_ite rfl ?_ ?_
      · exact Jk72_25 _ _
      · exact Jk72_25 _ _
set_option maxHeartbeats 4000000 in
theorem lc_M_hardest (L : Nat → Nat → Int64) (a1 : Int32) (a2 : Int32) (m0 : Mem) : So L (F_M_hardest a1 a2 m0) (F_M_hardest a1 a2 (mL m0 L)) := by
  unfold F_M_hardest
  refine so_ltm rfl (fun mq1 => ?_)
  refine so_bnd (lc_M_noInnings L _ _) (fun zq4 mq2 => ?_)
  refine so_ltj (fun z_ w_ => ∀ (q0_ : Bool) (q1_ : Mem), So L (z_ q0_ q1_) (w_ q0_ (mL q1_ L))) ?_ ?_
  · intro zq6 mq5
    refine so_bnd (lc_M_throwsIf L _ _ _) (fun zq9 mq7 => ?_)
    refine so_ite rfl ?_ ?_
    · exact so_some
    · exact lc_M_hardest_L39 L _ _  _ _ _ _
  intro k25_6 k25_6w Jk25_6
  refine so_ltj (fun z_ w_ => ∀ (q0_ : Mem), So L (z_ q0_) (w_ (mL q0_ L))) ?_ ?_
  · intro mq27
    exact Jk25_6 _ _
  intro k20_27 k20_27w Jk20_27
  refine so_ite rfl ?_ ?_
  · exact Jk20_27 _
  · refine so_bnd (lc_M_noSide L _ _) (fun zq30 mq28 => ?_)
    refine so_ite rfl ?_ ?_
    · exact Jk20_27 _
    · exact Jk25_6 _ _
set_option maxHeartbeats 4000000 in
theorem lc_M_here (L : Nat → Nat → Int64) (a1 : Int32) (m0 : Mem) : So L (F_M_here a1 m0) (F_M_here a1 (mL m0 L)) := by
  unfold F_M_here
  refine so_ltm rfl (fun mq1 => ?_)
  refine so_bnd (lc_M_firstSide L _) (fun xq4 mq2 => ?_)
  refine so_ltj (fun z_ w_ => ∀ (q0_ : Bool) (q1_ : Mem), So L (z_ q0_ q1_) (w_ q0_ (mL q1_ L))) ?_ ?_
  · intro zq6 mq5
    refine so_bnd (lc_M_throwsIf L _ _ _) (fun zq9 mq7 => ?_)
    refine so_ite rfl ?_ ?_
    · exact so_some
    · refine so_bnd (lc_M_in L _ _ _ _) (fun zq12 mq10 => ?_)
      refine so_ltj (fun z_ w_ => ∀ (q0_ : Bool) (q1_ : Mem), So L (z_ q0_ q1_) (w_ q0_ (mL q1_ L))) ?_ ?_
      · intro zq14 mq13
        refine so_bnd (lc_M_throwsIf L _ _ _) (fun zq17 mq15 => ?_)
        refine so_ite rfl ?_ ?_
        · exact so_some
        · refine so_bnd (lc_M_countsNow L _) (fun _ mq18 => ?_)
          refine so_bnd (lc_M_played L _) (fun xq23 mq21 => ?_)
          refine so_bnd (lc_M_isOver L _) (fun zq26 mq24 => ?_)
          refine so_ltj (fun z_ w_ => ∀ (q0_ : Int32) (q1_ : Mem), So L (z_ q0_ q1_) (w_ q0_ (mL q1_ L))) ?_ ?_
          · intro xq28 mq27
            refine so_bnd (lc_M_waysOf L _ _ _ _) (fun yq31 mq29 => ?_)
            exact so_some
          intro k74_28 k74_28w Jk74_28
          refine so_ite rfl ?_ ?_
          · exact Jk74_28 _ _
          · refine so_bnd (lc_M_batter L _) (fun xq34 mq32 => ?_)
            exact Jk74_28 _ _
      intro k40_14 k40_14w Jk40_14
      refine so_ite rfl ?_ ?_
      · exact Jk40_14 _ _
      · exact Jk40_14 _ _
  intro k18_6 k18_6w Jk18_6
  refine so_ite rfl ?_ ?_
  · exact Jk18_6 _ _
  · exact Jk18_6 _ _
set_option maxHeartbeats 4000000 in
theorem lc_M_hold (L : Nat → Nat → Int64) (a1 : Int32) (m0 : Mem) : So L (F_M_hold a1 m0) (F_M_hold a1 (mL m0 L)) := by
  unfold F_M_hold
  refine so_ltm rfl (fun mq1 => ?_)
  refine so_bnd (lc_M_noSlot L _ _) (fun zq4 mq2 => ?_)
  refine so_bnd (lc_M_throwsIf L _ _ _) (fun zq7 mq5 => ?_)
  refine so_ite rfl ?_ ?_
  · exact so_some
  · refine so_bnd (lc_M_canHold L _) (fun zq10 mq8 => ?_)
    refine so_ltj (fun z_ w_ => ∀ (q0_ : Bool) (q1_ : Mem), So L (z_ q0_ q1_) (w_ q0_ (mL q1_ L))) ?_ ?_
    · intro zq12 mq11
      refine so_bnd (lc_M_throwsIf L _ _ _) (fun zq15 mq13 => ?_)
      refine so_ite rfl ?_ ?_
      · exact so_some
      · refine so_bnd (lc_M_remembers L _) (fun _ mq16 => ?_)
        refine so_bnd (lc_M_plays L _ _ _) (fun xq21 mq19 => ?_)
        exact so_some
    intro k30_12 k30_12w Jk30_12
    refine so_ite rfl ?_ ?_
    · exact Jk30_12 _ _
    · exact Jk30_12 _ _
set_option maxHeartbeats 4000000 in
theorem lc_M_holds (L : Nat → Nat → Int64) (a1 : Int32) (a2 : Bool) (a3 : Int32) (a4 : Int32) (m0 : Mem) : So L (F_M_holds a1 a2 a3 a4 m0) (F_M_holds a1 a2 a3 a4 (mL m0 L)) := by
  unfold F_M_holds
  refine so_ltm rfl (fun mq1 => ?_)
  refine so_bnd (lc_M_noPlayed L _ _) (fun zq4 mq2 => ?_)
  refine so_bnd (lc_M_throwsIf L _ _ _) (fun zq7 mq5 => ?_)
  refine so_ite rfl ?_ ?_
  · exact so_some
  · refine so_bnd (lc_M_noState L _ _ _) (fun zq10 mq8 => ?_)
    refine so_bnd (lc_M_throwsIf L _ _ _) (fun zq13 mq11 => ?_)
    refine so_ite rfl ?_ ?_
    · exact so_some
    · refine so_bnd (lc_M_size L _) (fun xq16 mq14 => ?_)
      refine so_ite rfl ?_ ?_
      · exact so_some
      · refine so_bnd (lc_M_countsFrom L _ _ _) (fun _ mq17 => ?_)
        refine so_bnd (lc_M_kindOf L _ _ _) (fun xq22 mq20 => ?_)
        refine so_bnd (lc_M_isChosen L _ _ _ _ _) (fun zq25 mq23 => ?_)
        exact so_some
set_option maxHeartbeats 4000000 in
theorem lc_M_image_L7 (L : Nat → Nat → Int64) (k32_2 k32_2w : Mem → Option (Unit × Mem)) (Jk32_2 : ∀ (b0 : Mem), So L (k32_2 b0) (k32_2w (mL b0 L))) : ∀ (nf : Nat) (xq5 : Int32) (mq4 : Mem), So L (F_M_image_L7 k32_2 nf xq5 mq4) (F_M_image_L7 k32_2w nf xq5 (mL mq4 L)) := by
  intro nf
  induction nf with
  | zero =>
    intro xq5 mq4
    rw [F_M_image_L7, F_M_image_L7]
    exact so_none
  | succ nfq6 ih =>
    intro xq5 mq4
    rw [F_M_image_L7, F_M_image_L7]
    refine so_ite rfl ?_ ?_
    · exact Jk32_2 _
    · refine so_ck rfl ?_
      refine so_ltv rfl (fun xq9 => ?_)
      refine so_ck rfl ?_
      refine so_ltm rfl (fun mq10 => ?_)
      refine so_ltv rfl (fun xq12 => ?_)
      exact ih _ _
set_option maxHeartbeats 4000000 in
theorem lc_M_image (L : Nat → Nat → Int64) (m0 : Mem) : So L (F_M_image m0) (F_M_image (mL m0 L)) := by
  unfold F_M_image
  refine so_ltm rfl (fun mq1 => ?_)
  refine so_ltj (fun z_ w_ => ∀ (q0_ : Mem), So L (z_ q0_) (w_ (mL q0_ L))) ?_ ?_
  · intro mq2
    refine so_ltm rfl (fun mq3 => ?_)
    exact so_some
  intro k32_2 k32_2w Jk32_2
  exact lc_M_image_L7 L k32_2 k32_2w Jk32_2 _ _ _
set_option maxHeartbeats 4000000 in
theorem lc_M_law_L52 (L : Nat → Nat → Int64) (k85_13 k85_13w : Mem → Option (Int32 × Mem)) (Jk85_13 : ∀ (b0 : Mem), So L (k85_13 b0) (k85_13w (mL b0 L))) : ∀ (nf : Nat) (xq17 : Int32) (mq16 : Mem), So L (F_M_law_L52 k85_13 nf xq17 mq16) (F_M_law_L52 k85_13w nf xq17 (mL mq16 L)) := by
  intro nf
  induction nf with
  | zero =>
    intro xq17 mq16
    rw [F_M_law_L52, F_M_law_L52]
    exact so_none
  | succ nfq18 ih =>
    intro xq17 mq16
    rw [F_M_law_L52, F_M_law_L52]
    refine so_ite rfl ?_ ?_
    · exact Jk85_13 _
    · refine so_ck rfl ?_
      refine so_ltv rfl (fun xq21 => ?_)
      refine so_ck rfl ?_
      refine so_ltm rfl (fun mq22 => ?_)
      refine so_ltv rfl (fun xq24 => ?_)
      exact ih _ _
set_option maxHeartbeats 4000000 in
theorem lc_M_law (L : Nat → Nat → Int64) (m0 : Mem) : So L (F_M_law m0) (F_M_law (mL m0 L)) := by
  unfold F_M_law
  refine so_bnd (lc_M_readAll L _ _) (fun xq3 mq1 => ?_)
  refine so_ltj (fun z_ w_ => ∀ (q0_ : Int32) (q1_ : Mem), So L (z_ q0_ q1_) (w_ q0_ (mL q1_ L))) ?_ ?_
  · intro xq5 mq4
    refine so_ltm rfl (fun mq6 => ?_)
    refine so_ltj (fun z_ w_ => ∀ (q0_ : Bool) (q1_ : Mem), So L (z_ q0_ q1_) (w_ q0_ (mL q1_ L))) ?_ ?_
    · intro zq8 mq7
      refine so_bnd (lc_M_throwsIf L _ _ _) (fun zq11 mq9 => ?_)
      refine so_ite rfl ?_ ?_
      · exact so_some
      · refine so_ltm rfl (fun mq12 => ?_)
        refine so_ltj (fun z_ w_ => ∀ (q0_ : Mem), So L (z_ q0_) (w_ (mL q0_ L))) ?_ ?_
        · intro mq13
          refine so_ltm rfl (fun mq14 => ?_)
          refine so_ltm rfl (fun mq15 => ?_)
          exact so_some
        intro k85_13 k85_13w Jk85_13
        exact lc_M_law_L52 L k85_13 k85_13w Jk85_13 _ _ _
    intro k32_8 k32_8w Jk32_8
    refine so_ite rfl ?_ ?_
    · exact Jk32_8 _ _
    · exact Jk32_8 _ _
  intro k19_5 k19_5w Jk19_5
  refine so_ite rfl ?_ ?_
  · exact Jk19_5 _ _
  · exact Jk19_5 _ _
set_option maxHeartbeats 4000000 in
theorem lc_M_noSession (L : Nat → Nat → Int64) (a1 : Int32) (m0 : Mem) : So L (F_M_noSession a1 m0) (F_M_noSession a1 (mL m0 L)) := by
  unfold F_M_noSession
  refine so_bnd (lc_M_size L _) (fun xq3 mq1 => ?_)
  refine so_bnd (lc_M_in L _ _ _ _) (fun zq6 mq4 => ?_)
  refine so_ite rfl ?_ ?_
  · exact so_some
  · exact so_some
set_option maxHeartbeats 4000000 in
theorem lc_M_level (L : Nat → Nat → Int64) (a1 : Int32) (a2 : Int32) (a3 : Int32) (m0 : Mem) : So L (F_M_level a1 a2 a3 m0) (F_M_level a1 a2 a3 (mL m0 L)) := by
  unfold F_M_level
  refine so_ltm rfl (fun mq1 => ?_)
  refine so_bnd (lc_M_noSession L _ _) (fun zq4 mq2 => ?_)
  refine so_ltj (fun z_ w_ => ∀ (q0_ : Bool) (q1_ : Mem), So L (z_ q0_ q1_) (w_ q0_ (mL q1_ L))) ?_ ?_
  · intro zq6 mq5
    refine so_bnd (lc_M_throwsIf L _ _ _) (fun zq9 mq7 => ?_)
    refine so_ite rfl ?_ ?_
    · exact so_some
    · refine so_bnd (lc_M_levelOf L _ _ _ _) (fun xq12 mq10 => ?_)
      exact so_some
  intro k33_6 k33_6w Jk33_6
  refine so_ltj (fun z_ w_ => ∀ (q0_ : Mem), So L (z_ q0_) (w_ (mL q0_ L))) ?_ ?_
  · intro mq13
    exact Jk33_6 _ _
  intro k28_13 k28_13w Jk28_13
  refine so_ite rfl ?_ ?_
  · exact Jk28_13 _
  · refine so_bnd (lc_M_noInnings L _ _) (fun zq16 mq14 => ?_)
    refine so_ite rfl ?_ ?_
    · exact Jk28_13 _
    · refine so_bnd (lc_M_noSide L _ _) (fun zq19 mq17 => ?_)
      refine so_ite rfl ?_ ?_
      · exact Jk28_13 _
      · exact Jk33_6 _ _
set_option maxHeartbeats 4000000 in
theorem lc_M_line_L69 (L : Nat → Nat → Int64) (a1 : Int32) (a2 : Int32) (a3 : Bool) (a4 : Int32) (a5 : Int32) (k115_20 k115_20w : Int32 → Mem → Option (Int32 × Mem)) (Jk115_20 : ∀ (b0 : Int32) (b1 : Mem), So L (k115_20 b0 b1) (k115_20w b0 (mL b1 L))) : ∀ (nf : Nat) (xq22 : Int32) (mq21 : Mem), So L (F_M_line_L69 a1 a2 a3 a4 a5 k115_20 nf xq22 mq21) (F_M_line_L69 a1 a2 a3 a4 a5 k115_20w nf xq22 (mL mq21 L)) := by
  intro nf
  induction nf with
  | zero =>
    intro xq22 mq21
    rw [F_M_line_L69, F_M_line_L69]
    exact so_none
  | succ nfq23 ih =>
    intro xq22 mq21
    rw [F_M_line_L69, F_M_line_L69]
    refine so_ite rfl ?_ ?_
    · exact so_some
    · refine so_ltm rfl (fun mq25 => ?_)
      refine so_bnd (lc_M_layers L _ _ _ _) (fun _ mq26 => ?_)
      refine so_bnd (lc_M_laysLevels L _ _) (fun _ mq29 => ?_)
      refine so_bnd (lc_M_kindOf L _ _ _) (fun xq34 mq32 => ?_)
      refine so_bnd (lc_M_isChosen L _ _ _ _ _) (fun zq37 mq35 => ?_)
      refine so_ite rfl ?_ ?_
      · refine so_ltv rfl (fun xq38 => ?_)
        exact ih _ _
      · exact Jk115_20 _ _
set_option maxHeartbeats 4000000 in
theorem lc_M_line (L : Nat → Nat → Int64) (a1 : Int32) (a2 : Int32) (a3 : Bool) (a4 : Int32) (a5 : Int32) (m0 : Mem) : So L (F_M_line a1 a2 a3 a4 a5 m0) (F_M_line a1 a2 a3 a4 a5 (mL m0 L)) := by
  unfold F_M_line
  refine so_ltm rfl (fun mq1 => ?_)
  refine so_bnd (lc_M_noPlayed L _ _) (fun zq4 mq2 => ?_)
  refine so_ltj (fun z_ w_ => ∀ (q0_ : Bool) (q1_ : Mem), So L (z_ q0_ q1_) (w_ q0_ (mL q1_ L))) ?_ ?_
  · intro zq6 mq5
    refine so_bnd (lc_M_throwsIf L _ _ _) (fun zq9 mq7 => ?_)
    refine so_ite rfl ?_ ?_
    · exact so_some
    · refine so_bnd (lc_M_noState L _ _ _) (fun zq12 mq10 => ?_)
      refine so_bnd (lc_M_throwsIf L _ _ _) (fun zq15 mq13 => ?_)
      refine so_ite rfl ?_ ?_
      · exact so_some
      · refine so_ite rfl ?_ ?_
        · exact so_some
        · refine so_bnd (lc_M_size L _) (fun xq18 mq16 => ?_)
          refine so_ite rfl ?_ ?_
          · exact so_some
          · refine so_ltj (fun z_ w_ => ∀ (q0_ : Int32) (q1_ : Mem), So L (z_ q0_ q1_) (w_ q0_ (mL q1_ L))) ?_ ?_
            · intro xq20 mq19
              refine so_ite rfl ?_ ?_
              · exact so_some
              · exact so_some
            intro k115_20 k115_20w Jk115_20
            exact lc_M_line_L69 L _ _ _ _ _ k115_20 k115_20w Jk115_20 _ _ _
  intro k26_6 k26_6w Jk26_6
  refine so_ltj (fun z_ w_ => ∀ (q0_ : Mem), So L (z_ q0_) (w_ (mL q0_ L))) ?_ ?_
  · intro mq39
    exact Jk26_6 _ _
  intro k21_39 k21_39w Jk21_39
  refine so_ite rfl ?_ ?_
  · exact Jk21_39 _
  · refine so_bnd (lc_M_noInnings L _ _) (fun zq42 mq40 => ?_)
    refine so_ite rfl ?_ ?_
    · exact Jk21_39 _
    · exact Jk26_6 _ _
set_option maxHeartbeats 4000000 in
theorem lc_M_log (L : Nat → Nat → Int64) (a1 : Int32) (a2 : Int32) (m0 : Mem) : So L (F_M_log a1 a2 m0) (F_M_log a1 a2 (mL m0 L)) := by
  unfold F_M_log
  refine so_ltm rfl (fun mq1 => ?_)
  refine so_bnd (lc_M_in L _ _ _ _) (fun zq4 mq2 => ?_)
  refine so_ltj (fun z_ w_ => ∀ (q0_ : Bool) (q1_ : Mem), So L (z_ q0_ q1_) (w_ q0_ (mL q1_ L))) ?_ ?_
  · intro zq6 mq5
    refine so_bnd (lc_M_throwsIf L _ _ _) (fun zq9 mq7 => ?_)
    refine so_ite rfl ?_ ?_
    · exact so_some
    · refine so_bnd (lc_M_played L _) (fun xq12 mq10 => ?_)
      refine so_bnd (lc_M_in L _ _ _ _) (fun zq15 mq13 => ?_)
      refine so_ite rfl ?_ ?_
      · refine so_bnd (lc_M_ofLog L _ _ _) (fun xq18 mq16 => ?_)
        exact so_some
      · exact so_some
  intro k21_6 k21_6w Jk21_6
  refine so_ite rfl ?_ ?_
  · exact Jk21_6 _ _
  · exact Jk21_6 _ _
set_option maxHeartbeats 4000000 in
theorem lc_M_match (L : Nat → Nat → Int64) (a1 : Int32) (m0 : Mem) : So L (F_M_match a1 m0) (F_M_match a1 (mL m0 L)) := by
  unfold F_M_match
  refine so_ltm rfl (fun mq1 => ?_)
  refine so_bnd (lc_M_in L _ _ _ _) (fun zq4 mq2 => ?_)
  refine so_ltj (fun z_ w_ => ∀ (q0_ : Bool) (q1_ : Mem), So L (z_ q0_ q1_) (w_ q0_ (mL q1_ L))) ?_ ?_
  · intro zq6 mq5
    refine so_bnd (lc_M_throwsIf L _ _ _) (fun zq9 mq7 => ?_)
    refine so_ite rfl ?_ ?_
    · exact so_some
    · refine so_ite rfl ?_ ?_
      · refine so_bnd (lc_M_firstSide L _) (fun xq12 mq10 => ?_)
        exact so_some
      · refine so_ite rfl ?_ ?_
        · exact so_some
        · refine so_ite rfl ?_ ?_
          · exact so_some
          · refine so_ite rfl ?_ ?_
            · exact so_some
            · refine so_ite rfl ?_ ?_
              · exact so_some
              · refine so_ite rfl ?_ ?_
                · refine so_bnd (lc_M_isOn L _) (fun zq15 mq13 => ?_)
                  refine so_ite rfl ?_ ?_
                  · refine so_bnd (lc_M_batter L _) (fun xq18 mq16 => ?_)
                    exact so_some
                  · exact so_some
                · refine so_ite rfl ?_ ?_
                  · refine so_bnd (lc_M_played L _) (fun xq21 mq19 => ?_)
                    exact so_some
                  · refine so_ite rfl ?_ ?_
                    · exact so_some
                    · refine so_ite rfl ?_ ?_
                      · exact so_some
                      · refine so_ite rfl ?_ ?_
                        · refine so_bnd (lc_M_canFollow L _) (fun zq24 mq22 => ?_)
                          refine so_ite rfl ?_ ?_
                          · exact so_some
                          · exact so_some
                        · exact so_some
  intro k21_6 k21_6w Jk21_6
  refine so_ite rfl ?_ ?_
  · exact Jk21_6 _ _
  · exact Jk21_6 _ _
set_option maxHeartbeats 4000000 in
theorem lc_M_draw (L : Nat → Nat → Int64) (a1 : Int32) (m0 : Mem) : So L (F_M_draw a1 m0) (F_M_draw a1 (mL m0 L)) := by
  unfold F_M_draw
  refine so_ltv rfl (fun xq1 => ?_)
  refine so_ltm rfl (fun mq2 => ?_)
  refine so_ltv rfl (fun xq3 => ?_)
  refine so_ck rfl ?_
  exact so_some
set_option maxHeartbeats 4000000 in
theorem lc_M_play (L : Nat → Nat → Int64) (m0 : Mem) : So L (F_M_play m0) (F_M_play (mL m0 L)) := by
  unfold F_M_play
  refine so_ltm rfl (fun mq1 => ?_)
  refine so_bnd (lc_M_isOn L _) (fun zq4 mq2 => ?_)
  refine so_ltj (fun z_ w_ => ∀ (q0_ : Bool) (q1_ : Mem), So L (z_ q0_ q1_) (w_ q0_ (mL q1_ L))) ?_ ?_
  · intro zq6 mq5
    refine so_bnd (lc_M_throwsIf L _ _ _) (fun zq9 mq7 => ?_)
    refine so_ite rfl ?_ ?_
    · exact so_some
    · refine so_bnd (lc_M_remembers L _) (fun _ mq10 => ?_)
      refine so_bnd (lc_M_draw L _ _) (fun xq15 mq13 => ?_)
      refine so_bnd (lc_M_plays L _ _ _) (fun xq18 mq16 => ?_)
      exact so_some
  intro k18_6 k18_6w Jk18_6
  refine so_ite rfl ?_ ?_
  · exact Jk18_6 _ _
  · exact Jk18_6 _ _
set_option maxHeartbeats 4000000 in
theorem lc_M_seed (L : Nat → Nat → Int64) (a1 : Int32) (m0 : Mem) : So L (F_M_seed a1 m0) (F_M_seed a1 (mL m0 L)) := by
  unfold F_M_seed
  refine so_ltm rfl (fun mq1 => ?_)
  refine so_ltv rfl (fun xq2 => ?_)
  refine so_ltm rfl (fun mq3 => ?_)
  exact so_some
set_option maxHeartbeats 4000000 in
theorem lc_M_session (L : Nat → Nat → Int64) (a1 : Int32) (a2 : Int32) (m0 : Mem) : So L (F_M_session a1 a2 m0) (F_M_session a1 a2 (mL m0 L)) := by
  unfold F_M_session
  refine so_ltm rfl (fun mq1 => ?_)
  refine so_bnd (lc_M_noSession L _ _) (fun zq4 mq2 => ?_)
  refine so_bnd (lc_M_throwsIf L _ _ _) (fun zq7 mq5 => ?_)
  refine so_ite rfl ?_ ?_
  · exact so_some
  · refine so_bnd (lc_M_in L _ _ _ _) (fun zq10 mq8 => ?_)
    refine so_ltj (fun z_ w_ => ∀ (q0_ : Bool) (q1_ : Mem), So L (z_ q0_ q1_) (w_ q0_ (mL q1_ L))) ?_ ?_
    · intro zq12 mq11
      refine so_bnd (lc_M_throwsIf L _ _ _) (fun zq15 mq13 => ?_)
      refine so_ite rfl ?_ ?_
      · exact so_some
      · refine so_ite rfl ?_ ?_
        · exact so_some
        · refine so_ck rfl ?_
          refine so_ltv rfl (fun xq17 => ?_)
          exact so_some
    intro k33_12 k33_12w Jk33_12
    refine so_ite rfl ?_ ?_
    · exact Jk33_12 _ _
    · exact Jk33_12 _ _
set_option maxHeartbeats 4000000 in
theorem lc_M_share (L : Nat → Nat → Int64) (a1 : Int32) (a2 : Int32) (m0 : Mem) : So L (F_M_share a1 a2 m0) (F_M_share a1 a2 (mL m0 L)) := by
  unfold F_M_share
  refine so_ltm rfl (fun mq1 => ?_)
  refine so_bnd (lc_M_in L _ _ _ _) (fun zq4 mq2 => ?_)
  refine so_ltj (fun z_ w_ => ∀ (q0_ : Bool) (q1_ : Mem), So L (z_ q0_ q1_) (w_ q0_ (mL q1_ L))) ?_ ?_
  · intro zq6 mq5
    refine so_bnd (lc_M_throwsIf L _ _ _) (fun zq9 mq7 => ?_)
    refine so_ite rfl ?_ ?_
    · exact so_some
    · refine so_bnd (lc_M_bookOf L _ _) (fun xq12 mq10 => ?_)
      refine so_ite rfl ?_ ?_
      · exact so_some
      · refine so_bnd (lc_M_bookOf L _ _) (fun xq15 mq13 => ?_)
        refine so_bnd (lc_M_bookOf L _ _) (fun xq18 mq16 => ?_)
        refine so_ck rfl ?_
        exact so_some
  intro k29_6 k29_6w Jk29_6
  refine so_ltj (fun z_ w_ => ∀ (q0_ : Mem), So L (z_ q0_) (w_ (mL q0_ L))) ?_ ?_
  · intro mq20
    exact Jk29_6 _ _
  intro k24_20 k24_20w Jk24_20
  refine so_ite rfl ?_ ?_
  · refine so_bnd (lc_M_in L _ _ _ _) (fun zq23 mq21 => ?_)
    refine so_ite rfl ?_ ?_
    · exact Jk29_6 _ _
    · exact Jk24_20 _
  · exact Jk24_20 _
set_option maxHeartbeats 4000000 in
theorem lc_M_side (L : Nat → Nat → Int64) (a1 : Int32) (a2 : Bool) (m0 : Mem) : So L (F_M_side a1 a2 m0) (F_M_side a1 a2 (mL m0 L)) := by
  unfold F_M_side
  refine so_ltm rfl (fun mq1 => ?_)
  refine so_bnd (lc_M_noSide L _ _) (fun zq4 mq2 => ?_)
  refine so_bnd (lc_M_throwsIf L _ _ _) (fun zq7 mq5 => ?_)
  refine so_ite rfl ?_ ?_
  · exact so_some
  · refine so_ltj (fun z_ w_ => ∀ (q0_ : Bool) (q1_ : Mem), So L (z_ q0_ q1_) (w_ q0_ (mL q1_ L))) ?_ ?_
    · intro zq9 mq8
      refine so_ltv rfl (fun xq10 => ?_)
      refine so_ck rfl ?_
      refine so_ltv rfl (fun xq12 => ?_)
      exact so_some
    intro k40_9 k40_9w Jk40_9
    refine so_ite rfl ?_ ?_
    · exact Jk40_9 _ _
    · exact Jk40_9 _ _
set_option maxHeartbeats 4000000 in
theorem lc_M_signs (L : Nat → Nat → Int64) (a1 : Int32) (a2 : Int32) (a3 : Bool) (m0 : Mem) : So L (F_M_signs a1 a2 a3 m0) (F_M_signs a1 a2 a3 (mL m0 L)) := by
  unfold F_M_signs
  refine so_bnd (lc_M_readSigns L _) (fun zq3 mq1 => ?_)
  refine so_ltj (fun z_ w_ => ∀ (q0_ : Bool) (q1_ : Mem), So L (z_ q0_ q1_) (w_ q0_ (mL q1_ L))) ?_ ?_
  · intro zq5 mq4
    refine so_bnd (lc_M_throwsIf L _ _ _) (fun zq8 mq6 => ?_)
    refine so_ite rfl ?_ ?_
    · exact so_some
    · refine so_bnd (lc_M_mornings L _ _ _ _ _ _) (fun xq11 mq9 => ?_)
      exact so_some
  intro k35_5 k35_5w Jk35_5
  refine so_ltj (fun z_ w_ => ∀ (q0_ : Mem), So L (z_ q0_) (w_ (mL q0_ L))) ?_ ?_
  · intro mq12
    exact Jk35_5 _ _
  intro k30_12 k30_12w Jk30_12
  refine so_ite rfl ?_ ?_
  · refine so_bnd (lc_M_in L _ _ _ _) (fun zq15 mq13 => ?_)
    refine so_ite rfl ?_ ?_
    · refine so_bnd (lc_M_in L _ _ _ _) (fun zq18 mq16 => ?_)
      refine so_ite rfl ?_ ?_
      · exact Jk35_5 _ _
      · exact Jk30_12 _
    · exact Jk30_12 _
  · exact Jk30_12 _
set_option maxHeartbeats 4000000 in
theorem lc_M_slot (L : Nat → Nat → Int64) (a1 : Int32) (a2 : Int32) (a3 : Bool) (m0 : Mem) : So L (F_M_slot a1 a2 a3 m0) (F_M_slot a1 a2 a3 (mL m0 L)) := by
  unfold F_M_slot
  refine so_ltm rfl (fun mq1 => ?_)
  refine so_bnd (lc_M_in L _ _ _ _) (fun zq4 mq2 => ?_)
  refine so_ltj (fun z_ w_ => ∀ (q0_ : Bool) (q1_ : Mem), So L (z_ q0_ q1_) (w_ q0_ (mL q1_ L))) ?_ ?_
  · intro zq6 mq5
    refine so_bnd (lc_M_throwsIf L _ _ _) (fun zq9 mq7 => ?_)
    refine so_ite rfl ?_ ?_
    · exact so_some
    · refine so_ltj (fun z_ w_ => ∀ (q0_ : Bool) (q1_ : Mem), So L (z_ q0_ q1_) (w_ q0_ (mL q1_ L))) ?_ ?_
      · intro zq11 mq10
        refine so_bnd (lc_M_ofSlot L _ _ _ _) (fun xq14 mq12 => ?_)
        exact so_some
      intro k50_11 k50_11w Jk50_11
      refine so_ite rfl ?_ ?_
      · exact Jk50_11 _ _
      · exact Jk50_11 _ _
  intro k27_6 k27_6w Jk27_6
  refine so_ltj (fun z_ w_ => ∀ (q0_ : Mem), So L (z_ q0_) (w_ (mL q0_ L))) ?_ ?_
  · intro mq15
    exact Jk27_6 _ _
  intro k22_15 k22_15w Jk22_15
  refine so_ite rfl ?_ ?_
  · refine so_bnd (lc_M_noSlot L _ _) (fun zq18 mq16 => ?_)
    refine so_ite rfl ?_ ?_
    · exact Jk22_15 _
    · exact Jk27_6 _ _
  · exact Jk22_15 _
set_option maxHeartbeats 4000000 in
theorem lc_M_streak_L36 (L : Nat → Nat → Int64) (a1 : Int32) : ∀ (nf : Nat) (xq11 : Int32) (xq12 : Int32) (xq13 : Int32) (mq10 : Mem), So L (F_M_streak_L36 a1 nf xq11 xq12 xq13 mq10) (F_M_streak_L36 a1 nf xq11 xq12 xq13 (mL mq10 L)) := by
  intro nf
  induction nf with
  | zero =>
    intro xq11 xq12 xq13 mq10
    rw [F_M_streak_L36, F_M_streak_L36]
    exact so_none
  | succ nfq14 ih =>
    intro xq11 xq12 xq13 mq10
    rw [F_M_streak_L36, F_M_streak_L36]
    refine so_ite rfl ?_ ?_
    · exact so_some
    · refine so_bnd (lc_M_isSuch L _ _ _) (fun zq18 mq16 => ?_)
      refine so_ltj (fun z_ w_ => ∀ (q0_ : Int32) (q1_ : Mem), So L (z_ q0_ q1_) (w_ q0_ (mL q1_ L))) ?_ ?_
      · intro xq20 mq19
        refine so_ltv rfl (fun xq21 => ?_)
        refine so_ltv rfl (fun xq22 => ?_)
        exact ih _ _ _ _
      intro k66_20 k66_20w Jk66_20
      refine so_ite rfl ?_ ?_
      · exact Jk66_20 _ _
      · exact Jk66_20 _ _
set_option maxHeartbeats 4000000 in
theorem lc_M_streak (L : Nat → Nat → Int64) (a1 : Int32) (m0 : Mem) : So L (F_M_streak a1 m0) (F_M_streak a1 (mL m0 L)) := by
  unfold F_M_streak
  refine so_ltm rfl (fun mq1 => ?_)
  refine so_bnd (lc_M_in L _ _ _ _) (fun zq4 mq2 => ?_)
  refine so_ltj (fun z_ w_ => ∀ (q0_ : Bool) (q1_ : Mem), So L (z_ q0_ q1_) (w_ q0_ (mL q1_ L))) ?_ ?_
  · intro zq6 mq5
    refine so_bnd (lc_M_throwsIf L _ _ _) (fun zq9 mq7 => ?_)
    refine so_ite rfl ?_ ?_
    · exact so_some
    · exact lc_M_streak_L36 L _  _ _ _ _ _
  intro k20_6 k20_6w Jk20_6
  refine so_ite rfl ?_ ?_
  · exact Jk20_6 _ _
  · exact Jk20_6 _ _
set_option maxHeartbeats 4000000 in
theorem lc_M_swing_L177 (L : Nat → Nat → Int64) (xq29 : Int32) : ∀ (nf : Nat) (xq31 : Int32) (mq30 : Mem), So L (F_M_swing_L177 xq29 nf xq31 mq30) (F_M_swing_L177 xq29 nf xq31 (mL mq30 L)) := by
  intro nf
  induction nf with
  | zero =>
    intro xq31 mq30
    rw [F_M_swing_L177, F_M_swing_L177]
    exact so_none
  | succ nfq32 ih =>
    intro xq31 mq30
    rw [F_M_swing_L177, F_M_swing_L177]
    refine so_ite rfl ?_ ?_
    · exact so_some
    · refine so_ck rfl ?_
      refine so_ltv rfl (fun xq35 => ?_)
      refine so_ck rfl ?_
      refine so_ltm rfl (fun mq36 => ?_)
      refine so_ltv rfl (fun xq38 => ?_)
      exact ih _ _
set_option maxHeartbeats 4000000 in
theorem lc_M_swing_L134 (L : Nat → Nat → Int64) (k167_28 k167_28w : Mem → Option (Int32 × Mem)) (Jk167_28 : ∀ (b0 : Mem), So L (k167_28 b0) (k167_28w (mL b0 L))) : ∀ (nf : Nat) (xq40 : Int32) (mq39 : Mem), So L (F_M_swing_L134 k167_28 nf xq40 mq39) (F_M_swing_L134 k167_28w nf xq40 (mL mq39 L)) := by
  intro nf
  induction nf with
  | zero =>
    intro xq40 mq39
    rw [F_M_swing_L134, F_M_swing_L134]
    exact so_none
  | succ nfq41 ih =>
    intro xq40 mq39
    rw [F_M_swing_L134, F_M_swing_L134]
    refine so_ite rfl ?_ ?_
    · exact Jk167_28 _
    · refine so_bnd (lc_M_isOver L _) (fun zq45 mq43 => ?_)
      refine so_ite rfl ?_ ?_
      · exact Jk167_28 _
      · refine so_ck rfl ?_
        refine so_ltv rfl (fun xq47 => ?_)
        refine so_bnd (lc_M_plays L _ _ _) (fun xq50 mq48 => ?_)
        refine so_ltv rfl (fun xq51 => ?_)
        exact ih _ _
set_option maxHeartbeats 4000000 in
theorem lc_M_swing_L107 (L : Nat → Nat → Int64) (k132_27 k132_27w : Mem → Option (Int32 × Mem)) (Jk132_27 : ∀ (b0 : Mem), So L (k132_27 b0) (k132_27w (mL b0 L))) : ∀ (nf : Nat) (xq53 : Int32) (mq52 : Mem), So L (F_M_swing_L107 k132_27 nf xq53 mq52) (F_M_swing_L107 k132_27w nf xq53 (mL mq52 L)) := by
  intro nf
  induction nf with
  | zero =>
    intro xq53 mq52
    rw [F_M_swing_L107, F_M_swing_L107]
    exact so_none
  | succ nfq54 ih =>
    intro xq53 mq52
    rw [F_M_swing_L107, F_M_swing_L107]
    refine so_ite rfl ?_ ?_
    · exact Jk132_27 _
    · refine so_ck rfl ?_
      refine so_ltv rfl (fun xq57 => ?_)
      refine so_ck rfl ?_
      refine so_ltm rfl (fun mq58 => ?_)
      refine so_ltv rfl (fun xq60 => ?_)
      exact ih _ _
set_option maxHeartbeats 4000000 in
theorem lc_M_swing_L50 (L : Nat → Nat → Int64) (k86_21 k86_21w : Bool → Mem → Option (Int32 × Mem)) (Jk86_21 : ∀ (b0 : Bool) (b1 : Mem), So L (k86_21 b0 b1) (k86_21w b0 (mL b1 L))) : ∀ (nf : Nat) (zq62 : Bool) (xq63 : Int32) (mq61 : Mem), So L (F_M_swing_L50 k86_21 nf zq62 xq63 mq61) (F_M_swing_L50 k86_21w nf zq62 xq63 (mL mq61 L)) := by
  intro nf
  induction nf with
  | zero =>
    intro zq62 xq63 mq61
    rw [F_M_swing_L50, F_M_swing_L50]
    exact so_none
  | succ nfq64 ih =>
    intro zq62 xq63 mq61
    rw [F_M_swing_L50, F_M_swing_L50]
    refine so_ite rfl ?_ ?_
    · exact Jk86_21 _ _
    · refine so_ite rfl ?_ ?_
      · refine so_ck rfl ?_
        refine so_ltv rfl (fun xq67 => ?_)
        refine so_bnd (lc_M_noSlot L _ _) (fun zq70 mq68 => ?_)
        refine so_ltj (fun z_ w_ => ∀ (q0_ : Bool) (q1_ : Mem), So L (z_ q0_ q1_) (w_ q0_ (mL q1_ L))) ?_ ?_
        · intro zq72 mq71
          refine so_ltv rfl (fun xq73 => ?_)
          exact ih _ _ _
        intro k79_72 k79_72w Jk79_72
        refine so_ite rfl ?_ ?_
        · exact Jk79_72 _ _
        · exact Jk79_72 _ _
      · exact Jk86_21 _ _
set_option maxHeartbeats 4000000 in
theorem lc_M_swing (L : Nat → Nat → Int64) (m0 : Mem) : So L (F_M_swing m0) (F_M_swing (mL m0 L)) := by
  unfold F_M_swing
  refine so_bnd (lc_M_uses L _) (fun _ mq1 => ?_)
  refine so_bnd (lc_M_isOn L _) (fun zq6 mq4 => ?_)
  refine so_ltj (fun z_ w_ => ∀ (q0_ : Bool) (q1_ : Mem), So L (z_ q0_ q1_) (w_ q0_ (mL q1_ L))) ?_ ?_
  · intro zq8 mq7
    refine so_bnd (lc_M_throwsIf L _ _ _) (fun zq11 mq9 => ?_)
    refine so_ite rfl ?_ ?_
    · exact so_some
    · refine so_bnd (lc_M_size L _) (fun xq14 mq12 => ?_)
      refine so_bnd (lc_M_played L _) (fun xq17 mq15 => ?_)
      refine so_ltj (fun z_ w_ => ∀ (q0_ : Bool) (q1_ : Mem), So L (z_ q0_ q1_) (w_ q0_ (mL q1_ L))) ?_ ?_
      · intro zq19 mq18
        refine so_ltj (fun z_ w_ => ∀ (q0_ : Bool) (q1_ : Mem), So L (z_ q0_ q1_) (w_ q0_ (mL q1_ L))) ?_ ?_
        · intro zq21 mq20
          refine so_ltj (fun z_ w_ => ∀ (q0_ : Bool) (q1_ : Mem), So L (z_ q0_ q1_) (w_ q0_ (mL q1_ L))) ?_ ?_
          · intro zq23 mq22
            refine so_bnd (lc_M_throwsIf L _ _ _) (fun zq26 mq24 => ?_)
            refine so_ite rfl ?_ ?_
            · exact so_some
            · refine so_ltj (fun z_ w_ => ∀ (q0_ : Mem), So L (z_ q0_) (w_ (mL q0_ L))) ?_ ?_
              · intro mq27
                refine so_ltj (fun z_ w_ => ∀ (q0_ : Mem), So L (z_ q0_) (w_ (mL q0_ L))) ?_ ?_
                · intro mq28
                  refine so_ltv rfl (fun xq29 => ?_)
                  exact lc_M_swing_L177 L _  _ _ _
                intro k167_28 k167_28w Jk167_28
                exact lc_M_swing_L134 L k167_28 k167_28w Jk167_28 _ _ _
              intro k132_27 k132_27w Jk132_27
              exact lc_M_swing_L107 L k132_27 k132_27w Jk132_27 _ _ _
          intro k96_23 k96_23w Jk96_23
          refine so_ite rfl ?_ ?_
          · exact Jk96_23 _ _
          · exact Jk96_23 _ _
        intro k86_21 k86_21w Jk86_21
        exact lc_M_swing_L50 L k86_21 k86_21w Jk86_21 _ _ _ _
      intro k47_19 k47_19w Jk47_19
      refine so_ite rfl ?_ ?_
      · exact Jk47_19 _ _
      · exact Jk47_19 _ _
  intro k17_8 k17_8w Jk17_8
  refine so_ite rfl ?_ ?_
  · exact Jk17_8 _ _
  · exact Jk17_8 _ _
set_option maxHeartbeats 4000000 in
theorem lc_M_table_L57 (L : Nat → Nat → Int64) (a1 : Int32) (a4 : Bool) (xq12 : Int32) : ∀ (nf : Nat) (xq14 : Int32) (xq15 : Int32) (mq13 : Mem), So L (F_M_table_L57 a1 a4 xq12 nf xq14 xq15 mq13) (F_M_table_L57 a1 a4 xq12 nf xq14 xq15 (mL mq13 L)) := by
  intro nf
  induction nf with
  | zero =>
    intro xq14 xq15 mq13
    rw [F_M_table_L57, F_M_table_L57]
    exact so_none
  | succ nfq16 ih =>
    intro xq14 xq15 mq13
    rw [F_M_table_L57, F_M_table_L57]
    refine so_ite rfl ?_ ?_
    · exact so_some
    · refine so_bnd (lc_M_isRain L _ _) (fun zq20 mq18 => ?_)
      refine so_ite rfl ?_ ?_
      · exact so_some
      · refine so_ltj (fun z_ w_ => ∀ (q0_ : Bool) (q1_ : Mem), So L (z_ q0_ q1_) (w_ q0_ (mL q1_ L))) ?_ ?_
        · intro zq22 mq21
          refine so_bnd (lc_M_ofSlot L _ _ _ _) (fun xq25 mq23 => ?_)
          refine so_ltv rfl (fun xq26 => ?_)
          refine so_ltv rfl (fun xq27 => ?_)
          exact ih _ _ _
        intro k88_22 k88_22w Jk88_22
        refine so_ite rfl ?_ ?_
        · exact Jk88_22 _ _
        · exact Jk88_22 _ _
set_option maxHeartbeats 4000000 in
theorem lc_M_table (L : Nat → Nat → Int64) (a1 : Int32) (a2 : Int32) (a3 : Int32) (a4 : Bool) (m0 : Mem) : So L (F_M_table a1 a2 a3 a4 m0) (F_M_table a1 a2 a3 a4 (mL m0 L)) := by
  unfold F_M_table
  refine so_ltm rfl (fun mq1 => ?_)
  refine so_bnd (lc_M_noSession L _ _) (fun zq4 mq2 => ?_)
  refine so_ltj (fun z_ w_ => ∀ (q0_ : Bool) (q1_ : Mem), So L (z_ q0_ q1_) (w_ q0_ (mL q1_ L))) ?_ ?_
  · intro zq6 mq5
    refine so_bnd (lc_M_throwsIf L _ _ _) (fun zq9 mq7 => ?_)
    refine so_ite rfl ?_ ?_
    · exact so_some
    · refine so_bnd (lc_M_levelOf L _ _ _ _) (fun xq12 mq10 => ?_)
      exact lc_M_table_L57 L _ _ _  _ _ _ _
  intro k33_6 k33_6w Jk33_6
  refine so_ltj (fun z_ w_ => ∀ (q0_ : Mem), So L (z_ q0_) (w_ (mL q0_ L))) ?_ ?_
  · intro mq28
    exact Jk33_6 _ _
  intro k28_28 k28_28w Jk28_28
  refine so_ite rfl ?_ ?_
  · exact Jk28_28 _
  · refine so_bnd (lc_M_noInnings L _ _) (fun zq31 mq29 => ?_)
    refine so_ite rfl ?_ ?_
    · exact Jk28_28 _
    · refine so_bnd (lc_M_noSide L _ _) (fun zq34 mq32 => ?_)
      refine so_ite rfl ?_ ?_
      · exact Jk28_28 _
      · exact Jk33_6 _ _
set_option maxHeartbeats 4000000 in
theorem lc_M_target (L : Nat → Nat → Int64) (a1 : Bool) (m0 : Mem) : So L (F_M_target a1 m0) (F_M_target a1 (mL m0 L)) := by
  unfold F_M_target
  refine so_ltm rfl (fun mq1 => ?_)
  refine so_bnd (lc_M_canHold L _) (fun zq4 mq2 => ?_)
  refine so_ltj (fun z_ w_ => ∀ (q0_ : Bool) (q1_ : Mem), So L (z_ q0_ q1_) (w_ q0_ (mL q1_ L))) ?_ ?_
  · intro zq6 mq5
    refine so_bnd (lc_M_throwsIf L _ _ _) (fun zq9 mq7 => ?_)
    refine so_ite rfl ?_ ?_
    · exact so_some
    · refine so_bnd (lc_M_batter L _) (fun xq12 mq10 => ?_)
      refine so_bnd (lc_M_leadOf L _ _) (fun xq15 mq13 => ?_)
      refine so_ltv rfl (fun xq16 => ?_)
      refine so_bnd (lc_M_size L _) (fun xq19 mq17 => ?_)
      refine so_bnd (lc_M_played L _) (fun xq22 mq20 => ?_)
      refine so_ltv rfl (fun xq23 => ?_)
      refine so_ite rfl ?_ ?_
      · refine so_ck rfl ?_
        exact so_some
      · exact so_some
  intro k18_6 k18_6w Jk18_6
  refine so_ite rfl ?_ ?_
  · exact Jk18_6 _ _
  · exact Jk18_6 _ _
set_option maxHeartbeats 4000000 in
theorem lc_M_thrown (L : Nat → Nat → Int64) (m0 : Mem) : So L (F_M_thrown m0) (F_M_thrown (mL m0 L)) := by
  unfold F_M_thrown
  exact so_some
set_option maxHeartbeats 4000000 in
theorem lc_M_toss (L : Nat → Nat → Int64) (a1 : Int32) (m0 : Mem) : So L (F_M_toss a1 m0) (F_M_toss a1 (mL m0 L)) := by
  unfold F_M_toss
  refine so_ltm rfl (fun mq1 => ?_)
  refine so_bnd (lc_M_noSide L _ _) (fun zq4 mq2 => ?_)
  refine so_bnd (lc_M_throwsIf L _ _ _) (fun zq7 mq5 => ?_)
  refine so_ite rfl ?_ ?_
  · exact so_some
  · refine so_bnd (lc_M_firstSide L _) (fun xq10 mq8 => ?_)
    refine so_ltj (fun z_ w_ => ∀ (q0_ : Bool) (q1_ : Mem), So L (z_ q0_ q1_) (w_ q0_ (mL q1_ L))) ?_ ?_
    · intro zq12 mq11
      refine so_bnd (lc_M_throwsIf L _ _ _) (fun zq15 mq13 => ?_)
      refine so_ite rfl ?_ ?_
      · exact so_some
      · refine so_bnd (lc_M_remembers L _) (fun _ mq16 => ?_)
        refine so_ltm rfl (fun mq19 => ?_)
        refine so_ltm rfl (fun mq20 => ?_)
        refine so_bnd (lc_M_levelOf L _ _ _ _) (fun xq23 mq21 => ?_)
        exact so_some
    intro k30_12 k30_12w Jk30_12
    refine so_ite rfl ?_ ?_
    · exact Jk30_12 _ _
    · exact Jk30_12 _ _
set_option maxHeartbeats 4000000 in
theorem lc_M_turning_L34 (L : Nat → Nat → Int64) (a1 : Bool) : ∀ (nf : Nat) (xq11 : Int32) (yq12 : Int64) (xq13 : Int32) (mq10 : Mem), So L (F_M_turning_L34 a1 nf xq11 yq12 xq13 mq10) (F_M_turning_L34 a1 nf xq11 yq12 xq13 (mL mq10 L)) := by
  intro nf
  induction nf with
  | zero =>
    intro xq11 yq12 xq13 mq10
    rw [F_M_turning_L34, F_M_turning_L34]
    exact so_none
  | succ nfq14 ih =>
    intro xq11 yq12 xq13 mq10
    rw [F_M_turning_L34, F_M_turning_L34]
    refine so_ite rfl ?_ ?_
    · exact so_some
    · refine so_bnd (lc_M_countsAfter L _ _) (fun _ mq16 => ?_)
      refine so_ltj (fun z_ w_ => ∀ (q0_ : Int64) (q1_ : Mem), So L (z_ q0_ q1_) (w_ q0_ (mL q1_ L))) ?_ ?_
      · intro yq20 mq19
        refine so_ltj (fun z_ w_ => ∀ (q0_ : Int32) (q1_ : Int64) (q2_ : Mem), So L (z_ q0_ q1_ q2_) (w_ q0_ q1_ (mL q2_ L))) ?_ ?_
        · intro xq22 yq23 mq21
          refine so_ltv rfl (fun xq24 => ?_)
          exact ih _ _ _ _
        intro k96_23 k96_23w Jk96_23
        refine so_ltj (fun z_ w_ => ∀ (q0_ : Mem), So L (z_ q0_) (w_ (mL q0_ L))) ?_ ?_
        · intro mq25
          exact Jk96_23 _ _ _
        intro k90_25 k90_25w Jk90_25
        refine so_ite rfl ?_ ?_
        · exact Jk90_25 _
        · refine so_ite rfl ?_ ?_
          · exact Jk90_25 _
          · exact Jk96_23 _ _ _
      intro k74_20 k74_20w Jk74_20
      refine so_ite rfl ?_ ?_
      · refine so_bnd (lc_M_played L _) (fun xq34 mq32 => ?_)
        refine so_bnd (lc_M_got L _ _) (fun yq37 mq35 => ?_)
        exact Jk74_20 _ _
      · refine so_bnd (lc_M_played L _) (fun xq28 mq26 => ?_)
        refine so_bnd (lc_M_got L _ _) (fun yq31 mq29 => ?_)
        exact Jk74_20 _ _
set_option maxHeartbeats 4000000 in
theorem lc_M_turning (L : Nat → Nat → Int64) (a1 : Bool) (m0 : Mem) : So L (F_M_turning a1 m0) (F_M_turning a1 (mL m0 L)) := by
  unfold F_M_turning
  refine so_ltm rfl (fun mq1 => ?_)
  refine so_bnd (lc_M_isOn L _) (fun zq4 mq2 => ?_)
  refine so_ltj (fun z_ w_ => ∀ (q0_ : Bool) (q1_ : Mem), So L (z_ q0_ q1_) (w_ q0_ (mL q1_ L))) ?_ ?_
  · intro zq6 mq5
    refine so_bnd (lc_M_throwsIf L _ _ _) (fun zq9 mq7 => ?_)
    refine so_ite rfl ?_ ?_
    · exact so_some
    · exact lc_M_turning_L34 L _  _ _ _ _ _
  intro k18_6 k18_6w Jk18_6
  refine so_ite rfl ?_ ?_
  · exact Jk18_6 _ _
  · exact Jk18_6 _ _
set_option maxHeartbeats 4000000 in
theorem lc_M_turnover_L55 (L : Nat → Nat → Int64) (a1 : Int32) (a2 : Int32) : ∀ (nf : Nat) (xq21 : Int32) (mq20 : Mem), So L (F_M_turnover_L55 a1 a2 nf xq21 mq20) (F_M_turnover_L55 a1 a2 nf xq21 (mL mq20 L)) := by
  intro nf
  induction nf with
  | zero =>
    intro xq21 mq20
    rw [F_M_turnover_L55, F_M_turnover_L55]
    exact so_none
  | succ nfq22 ih =>
    intro xq21 mq20
    rw [F_M_turnover_L55, F_M_turnover_L55]
    refine so_ite rfl ?_ ?_
    · exact so_some
    · refine so_bnd (lc_M_isChosen L _ _ _ _ _) (fun zq26 mq24 => ?_)
      refine so_ite rfl ?_ ?_
      · refine so_ltv rfl (fun xq27 => ?_)
        exact ih _ _
      · exact so_some
set_option maxHeartbeats 4000000 in
theorem lc_M_turnover (L : Nat → Nat → Int64) (a1 : Int32) (a2 : Int32) (m0 : Mem) : So L (F_M_turnover a1 a2 m0) (F_M_turnover a1 a2 (mL m0 L)) := by
  unfold F_M_turnover
  refine so_ltm rfl (fun mq1 => ?_)
  refine so_bnd (lc_M_noPlayed L _ _) (fun zq4 mq2 => ?_)
  refine so_bnd (lc_M_throwsIf L _ _ _) (fun zq7 mq5 => ?_)
  refine so_ite rfl ?_ ?_
  · exact so_some
  · refine so_bnd (lc_M_noState L _ _ _) (fun zq10 mq8 => ?_)
    refine so_bnd (lc_M_throwsIf L _ _ _) (fun zq13 mq11 => ?_)
    refine so_ite rfl ?_ ?_
    · exact so_some
    · refine so_bnd (lc_M_size L _) (fun xq16 mq14 => ?_)
      refine so_ite rfl ?_ ?_
      · exact so_some
      · refine so_bnd (lc_M_countsFrom L _ _ _) (fun _ mq17 => ?_)
        exact lc_M_turnover_L55 L _ _  _ _ _
