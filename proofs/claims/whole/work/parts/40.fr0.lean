section FRAME
/-! ===== which cells a function may write ===== -/
def Fr (A : List Nat) (L : List (Nat × Nat)) (m m' : Mem) : Prop := ∀ o j, o ∉ A → (o, j) ∉ L → gI m' o j = gI m o j ∧ gL m' o j = gL m o j ∧ gZ m' o j = gZ m o j
theorem Fr_rf {A : List Nat} {L : List (Nat × Nat)} {m : Mem} : Fr A L m m := fun _ _ _ _ => ⟨rfl, rfl, rfl⟩
theorem Fr_tr {A A' : List Nat} {L L' : List (Nat × Nat)} {m m1 m2 : Mem} (h : Fr A L m m1) (h1 : Fr A' L' m1 m2) (ha : ∀ a ∈ A', a ∈ A) (hl : ∀ a ∈ L', a ∈ L) : Fr A L m m2 := fun o j a b => by
  obtain ⟨x1, x2, x3⟩ := h o j a b
  obtain ⟨y1, y2, y3⟩ := h1 o j (fun q => a (ha _ q)) (fun q => b (hl _ q))
  exact ⟨y1.trans x1, y2.trans x2, y3.trans x3⟩
theorem Fr_wk {A A' : List Nat} {L L' : List (Nat × Nat)} {m m1 : Mem} (h1 : Fr A' L' m m1) (ha : ∀ a ∈ A', a ∈ A) (hl : ∀ a ∈ L', a ∈ L) : Fr A L m m1 := Fr_tr Fr_rf h1 ha hl
theorem Fr_ne {A : List Nat} {L : List (Nat × Nat)} {o j o' j' : Nat} (h : o ∈ A ∨ (o, j) ∈ L) (a : o' ∉ A) (b : (o', j') ∉ L) : ¬ (o' = o ∧ j' = j) := fun e => h.elim (fun q => a (e.1 ▸ q)) (fun q => b (e.1 ▸ e.2 ▸ q))
theorem Fr_sI {A : List Nat} {L : List (Nat × Nat)} {m0 m m1 : Mem} {o j : Nat} {v : Int32} (e : m1 = sI m o j v) (h : Fr A L m0 m) (ho : o ∈ A ∨ (o, j) ∈ L) : Fr A L m0 m1 := fun o' j' a b => by
  obtain ⟨x1, x2, x3⟩ := h o' j' a b
  subst e
  refine ⟨?_, x2, x3⟩
  rw [← x1]
  simp only [gI, sI, u2, if_neg (Fr_ne ho a b)]
theorem Fr_sL {A : List Nat} {L : List (Nat × Nat)} {m0 m m1 : Mem} {o j : Nat} {v : Int64} (e : m1 = sL m o j v) (h : Fr A L m0 m) (ho : o ∈ A ∨ (o, j) ∈ L) : Fr A L m0 m1 := fun o' j' a b => by
  obtain ⟨x1, x2, x3⟩ := h o' j' a b
  subst e
  refine ⟨x1, ?_, x3⟩
  rw [← x2]
  simp only [gL, sL, u2, if_neg (Fr_ne ho a b)]
theorem Fr_sZ {A : List Nat} {L : List (Nat × Nat)} {m0 m m1 : Mem} {o j : Nat} {v : Bool} (e : m1 = sZ m o j v) (h : Fr A L m0 m) (ho : o ∈ A ∨ (o, j) ∈ L) : Fr A L m0 m1 := fun o' j' a b => by
  obtain ⟨x1, x2, x3⟩ := h o' j' a b
  subst e
  refine ⟨x1, x2, ?_⟩
  rw [← x3]
  simp only [gZ, sZ, u2, if_neg (Fr_ne ho a b)]
theorem if_ex {c : Prop} [inst : Decidable c] {α : Type} {a b : α} {r : α} (h : (if c then a else b) = r) : a = r ∨ b = r := by
  by_cases hc : c
  · exact Or.inl (if_t hc h)
  · exact Or.inr (if_f hc h)
end FRAME

set_option maxHeartbeats 4000000 in
theorem fr_T_mustBeBelow (a1 : Int32) (a2 : Int32) (m0 : Mem) (v : (Nat ⊕ Unit)) (m' : Mem) (hF : F_T_mustBeBelow a1 a2 m0 = some (v, m')) : Fr [] [] m0 m' := by
  unfold F_T_mustBeBelow at hF
  have hf : Fr [] [] m0 m0 := Fr_rf
  obtain ⟨k9_1, ek9_1, hF⟩ := lt_ex hF
  have Jk9_1 : ∀ (mq1 : Mem), Fr [] [] m0 mq1 → k9_1 mq1 = some (v, m') → Fr [] [] m0 m' := by
    intro mq1 hf hF
    rw [ek9_1] at hF
    cases hF
    exact hf
  rcases if_ex hF with hF | hF
  · exact Jk9_1 m0 hf hF
  · rcases if_ex hF with hF | hF
    · cases hF
      exact hf
    · exact Jk9_1 m0 hf hF
set_option maxHeartbeats 4000000 in
theorem fr_Ma_isOn (m0 : Mem) (v : Bool) (m' : Mem) (hF : F_Ma_isOn m0 = some (v, m')) : Fr [] [] m0 m' := by
  unfold F_Ma_isOn at hF
  have hf : Fr [] [] m0 m0 := Fr_rf
  rcases if_ex hF with hF | hF
  · cases hF
    exact hf
  · rcases if_ex hF with hF | hF
    · cases hF
      exact hf
    · cases hF
      exact hf
set_option maxHeartbeats 4000000 in
theorem fr_T_mustBeOn (m0 : Mem) (v : (Nat ⊕ Unit)) (m' : Mem) (hF : F_T_mustBeOn m0 = some (v, m')) : Fr [] [] m0 m' := by
  unfold F_T_mustBeOn at hF
  have hf : Fr [] [] m0 m0 := Fr_rf
  obtain ⟨zq3, mq1, hz, hF⟩ := bnd_ex hF
  have hf := Fr_tr hf (fr_Ma_isOn m0 _ _ hz) (by decide) (by decide)
  rcases if_ex hF with hF | hF
  · cases hF
    exact hf
  · cases hF
    exact hf
set_option maxHeartbeats 4000000 in
theorem fr_Od_ready (a1 : Int32) (a2 : Int32) (a3 : Bool) (m0 : Mem) (v : Unit) (m' : Mem) (hF : F_Od_ready a1 a2 a3 m0 = some (v, m')) : Fr [] [(2, 2), (2, 3), (2, 4), (2, 5), (2, 6)] m0 m' := by
  unfold F_Od_ready at hF
  have hf : Fr [] [(2, 2), (2, 3), (2, 4), (2, 5), (2, 6)] m0 m0 := Fr_rf
  obtain ⟨k31_1, ek31_1, hF⟩ := lt_ex hF
  have Jk31_1 : ∀ (mq1 : Mem), Fr [] [(2, 2), (2, 3), (2, 4), (2, 5), (2, 6)] m0 mq1 → k31_1 mq1 = some (v, m') → Fr [] [(2, 2), (2, 3), (2, 4), (2, 5), (2, 6)] m0 m' := by
    intro mq1 hf hF
    rw [ek31_1] at hF
    obtain ⟨mq2, emq2, hF⟩ := lt_ex hF
    have hf := Fr_sL emq2 hf (Or.inr (by decide))
    obtain ⟨mq3, emq3, hF⟩ := lt_ex hF
    have hf := Fr_sZ emq3 hf (Or.inr (by decide))
    obtain ⟨mq4, emq4, hF⟩ := lt_ex hF
    have hf := Fr_sI emq4 hf (Or.inr (by decide))
    obtain ⟨mq5, emq5, hF⟩ := lt_ex hF
    have hf := Fr_sI emq5 hf (Or.inr (by decide))
    obtain ⟨mq6, emq6, hF⟩ := lt_ex hF
    have hf := Fr_sZ emq6 hf (Or.inr (by decide))
    cases hF
    exact hf
  rcases if_ex hF with hF | hF
  · exact Jk31_1 m0 hf hF
  · rcases if_ex hF with hF | hF
    · rcases if_ex hF with hF | hF
      · rcases if_ex hF with hF | hF
        · cases hF
          exact hf
        · exact Jk31_1 m0 hf hF
      · exact Jk31_1 m0 hf hF
    · exact Jk31_1 m0 hf hF
set_option maxHeartbeats 4000000 in
theorem fr_Od_kindOf (a0 : Int32) (a1 : Bool) (m0 : Mem) (v : Int32) (m' : Mem) (hF : F_Od_kindOf a0 a1 m0 = some (v, m')) : Fr [] [] m0 m' := by
  unfold F_Od_kindOf at hF
  have hf : Fr [] [] m0 m0 := Fr_rf
  rcases if_ex hF with hF | hF
  · rcases if_ex hF with hF | hF
    · cases hF
      exact hf
    · cases hF
      exact hf
  · cases hF
    exact hf
set_option maxHeartbeats 4000000 in
theorem fr_Ma_kind (m0 : Mem) (v : Int32) (m' : Mem) (hF : F_Ma_kind m0 = some (v, m')) : Fr [] [] m0 m' := by
  unfold F_Ma_kind at hF
  have hf : Fr [] [] m0 m0 := Fr_rf
  obtain ⟨xq3, mq1, hz, hF⟩ := bnd_ex hF
  have hf := Fr_tr hf (fr_Od_kindOf (gI m0 16 1) (gZ m0 16 5) m0 _ _ hz) (by decide) (by decide)
  cases hF
  exact hf
set_option maxHeartbeats 4000000 in
theorem fr_Ma_leadOf (a1 : Int32) (m0 : Mem) (v : Int32) (m' : Mem) (hF : F_Ma_leadOf a1 m0 = some (v, m')) : Fr [] [] m0 m' := by
  unfold F_Ma_leadOf at hF
  have hf : Fr [] [] m0 m0 := Fr_rf
  rcases if_ex hF with hF | hF
  · cases hF
    exact hf
  · cases hF
    exact hf
set_option maxHeartbeats 4000000 in
theorem fr_Od_firstBats (a0 : Int32) (m0 : Mem) (v : Bool) (m' : Mem) (hF : F_Od_firstBats a0 m0 = some (v, m')) : Fr [] [] m0 m' := by
  unfold F_Od_firstBats at hF
  have hf : Fr [] [] m0 m0 := Fr_rf
  rcases if_ex hF with hF | hF
  · cases hF
    exact hf
  · rcases if_ex hF with hF | hF
    · cases hF
      exact hf
    · rcases if_ex hF with hF | hF
      · cases hF
        exact hf
      · cases hF
        exact hf
set_option maxHeartbeats 4000000 in
theorem fr_Od_inningsOf (a0 : Int32) (m0 : Mem) (v : Int32) (m' : Mem) (hF : F_Od_inningsOf a0 m0 = some (v, m')) : Fr [] [] m0 m' := by
  unfold F_Od_inningsOf at hF
  have hf : Fr [] [] m0 m0 := Fr_rf
  rcases if_ex hF with hF | hF
  · cases hF
    exact hf
  · cases hF
    exact hf
set_option maxHeartbeats 4000000 in
theorem fr_Lw_stand (a1 : Int32) (a2 : Int32) (a3 : Int32) (m0 : Mem) (v : Unit) (m' : Mem) (hF : F_Lw_stand a1 a2 a3 m0 = some (v, m')) : Fr [10] [] m0 m' := by
  unfold F_Lw_stand at hF
  have hf : Fr [10] [] m0 m0 := Fr_rf
  obtain ⟨mq1, emq1, hF⟩ := lt_ex hF
  have hf := Fr_sI emq1 hf (Or.inl (by decide))
  obtain ⟨mq2, emq2, hF⟩ := lt_ex hF
  have hf := Fr_sI emq2 hf (Or.inl (by decide))
  obtain ⟨mq3, emq3, hF⟩ := lt_ex hF
  have hf := Fr_sI emq3 hf (Or.inl (by decide))
  obtain ⟨mq4, emq4, hF⟩ := lt_ex hF
  have hf := Fr_sI emq4 hf (Or.inl (by decide))
  cases hF
  exact hf
set_option maxHeartbeats 4000000 in
theorem fr_Gr_batOf (a1 : Int32) (m0 : Mem) (v : Int32) (m' : Mem) (hF : F_Gr_batOf a1 m0 = some (v, m')) : Fr [] [] m0 m' := by
  unfold F_Gr_batOf at hF
  have hf : Fr [] [] m0 m0 := Fr_rf
  rcases if_ex hF with hF | hF
  · cases hF
    exact hf
  · cases hF
    exact hf
set_option maxHeartbeats 4000000 in
theorem fr_Gr_bowlOf (a1 : Int32) (m0 : Mem) (v : Int32) (m' : Mem) (hF : F_Gr_bowlOf a1 m0 = some (v, m')) : Fr [] [] m0 m' := by
  unfold F_Gr_bowlOf at hF
  have hf : Fr [] [] m0 m0 := Fr_rf
  rcases if_ex hF with hF | hF
  · cases hF
    exact hf
  · cases hF
    exact hf
set_option maxHeartbeats 4000000 in
theorem fr_Lw_standSides (a1 : Int32) (a2 : Int32) (m0 : Mem) (v : Unit) (m' : Mem) (hF : F_Lw_standSides a1 a2 m0 = some (v, m')) : Fr [10] [] m0 m' := by
  unfold F_Lw_standSides at hF
  have hf : Fr [10] [] m0 m0 := Fr_rf
  obtain ⟨mq1, emq1, hF⟩ := lt_ex hF
  have hf := Fr_sI emq1 hf (Or.inl (by decide))
  obtain ⟨mq2, emq2, hF⟩ := lt_ex hF
  have hf := Fr_sI emq2 hf (Or.inl (by decide))
  cases hF
  exact hf
set_option maxHeartbeats 4000000 in
theorem fr_T_bitOf (a0 : Int32) (a1 : Int32) (m0 : Mem) (v : Int32) (m' : Mem) (hF : F_T_bitOf a0 a1 m0 = some (v, m')) : Fr [] [] m0 m' := by
  unfold F_T_bitOf at hF
  have hf : Fr [] [] m0 m0 := Fr_rf
  obtain ⟨xq1, exq1, hF⟩ := lt_ex hF
  cases hF
  exact hf
set_option maxHeartbeats 4000000 in
theorem fr_Lw_standSky (a1 : Int32) (a2 : Int32) (m0 : Mem) (v : Unit) (m' : Mem) (hF : F_Lw_standSky a1 a2 m0 = some (v, m')) : Fr [10] [] m0 m' := by
  unfold F_Lw_standSky at hF
  have hf : Fr [10] [] m0 m0 := Fr_rf
  obtain ⟨mq1, emq1, hF⟩ := lt_ex hF
  have hf := Fr_sI emq1 hf (Or.inl (by decide))
  obtain ⟨mq2, emq2, hF⟩ := lt_ex hF
  have hf := Fr_sI emq2 hf (Or.inl (by decide))
  cases hF
  exact hf
set_option maxHeartbeats 4000000 in
theorem fr_Lw_stackAt (a1 : Int32) (m0 : Mem) (v : Int32) (m' : Mem) (hF : F_Lw_stackAt a1 m0 = some (v, m')) : Fr [] [] m0 m' := by
  unfold F_Lw_stackAt at hF
  have hf : Fr [] [] m0 m0 := Fr_rf
  rcases if_ex hF with hF | hF
  · cases hF
    exact hf
  · rcases if_ex hF with hF | hF
    · obtain ⟨-, hF⟩ := ckB_ex hF
      obtain ⟨xq2, exq2, hF⟩ := lt_ex hF
      cases hF
      exact hf
    · cases hF
      exact hf
set_option maxHeartbeats 4000000 in
theorem fr_Lw_joined (a1 : Int32) (a2 : Int32) (a3 : Int32) (m0 : Mem) (v : Int32) (m' : Mem) (hF : F_Lw_joined a1 a2 a3 m0 = some (v, m')) : Fr [] [] m0 m' := by
  unfold F_Lw_joined at hF
  have hf : Fr [] [] m0 m0 := Fr_rf
  rcases if_ex hF with hF | hF
  · cases hF
    exact hf
  · rcases if_ex hF with hF | hF
    · cases hF
      exact hf
    · rcases if_ex hF with hF | hF
      · rcases if_ex hF with hF | hF
        · cases hF
          exact hf
        · cases hF
          exact hf
      · rcases if_ex hF with hF | hF
        · rcases if_ex hF with hF | hF
          · cases hF
            exact hf
          · cases hF
            exact hf
        · cases hF
          exact hf
set_option maxHeartbeats 4000000 in
theorem fr_Lw_setStack (a1 : Int32) (a2 : Int32) (m0 : Mem) (v : Unit) (m' : Mem) (hF : F_Lw_setStack a1 a2 m0 = some (v, m')) : Fr [11] [] m0 m' := by
  unfold F_Lw_setStack at hF
  have hf : Fr [11] [] m0 m0 := Fr_rf
  rcases if_ex hF with hF | hF
  · cases hF
    exact hf
  · rcases if_ex hF with hF | hF
    · cases hF
      exact hf
    · obtain ⟨-, hF⟩ := ckB_ex hF
      obtain ⟨mq1, emq1, hF⟩ := lt_ex hF
      have hf := Fr_sI emq1 hf (Or.inl (by decide))
      cases hF
      exact hf
set_option maxHeartbeats 4000000 in
theorem fr_Lw_placeAt (a1 : Int32) (m0 : Mem) (v : Int32) (m' : Mem) (hF : F_Lw_placeAt a1 m0 = some (v, m')) : Fr [] [] m0 m' := by
  unfold F_Lw_placeAt at hF
  have hf : Fr [] [] m0 m0 := Fr_rf
  rcases if_ex hF with hF | hF
  · cases hF
    exact hf
  · rcases if_ex hF with hF | hF
    · obtain ⟨-, hF⟩ := ckB_ex hF
      obtain ⟨xq2, exq2, hF⟩ := lt_ex hF
      cases hF
      exact hf
    · cases hF
      exact hf
set_option maxHeartbeats 4000000 in
theorem fr_Lw_hardness_L6  (mB : Mem) (v : Int32) (m' : Mem) : ∀ (nf : Nat) (xq2 : Int32) (xq3 : Int32) (xq4 : Int32) (mq1 : Mem), Fr [11] [] mB mq1 → F_Lw_hardness_L6  nf xq2 xq3 xq4 mq1 = some (v, m') → Fr [11] [] mB m' := by
  intro nf
  induction nf with
  | zero =>
    intro xq2 xq3 xq4 mq1 hf hF
    rw [F_Lw_hardness_L6] at hF
    cases hF
  | succ nfq5 ih =>
    intro xq2 xq3 xq4 mq1 hf hF
    rw [F_Lw_hardness_L6] at hF
    rcases if_ex hF with hF | hF
    · cases hF
      exact hf
    · rcases if_ex hF with hF | hF
      · cases hF
        exact hf
      · obtain ⟨-, hF⟩ := ckB_ex hF
        obtain ⟨xq8, exq8, hF⟩ := lt_ex hF
        obtain ⟨k172_11, ek172_11, hF⟩ := lt_ex hF
        have Jk172_11 : ∀ (xq10 : Int32) (xq11 : Int32) (mq9 : Mem), Fr [11] [] mB mq9 → k172_11 xq10 xq11 mq9 = some (v, m') → Fr [11] [] mB m' := by
          intro xq10 xq11 mq9 hf hF
          rw [ek172_11] at hF
          obtain ⟨xq12, exq12, hF⟩ := lt_ex hF
          exact ih xq10 xq11 xq12 mq9 hf hF
        rcases if_ex hF with hF | hF
        · rcases if_ex hF with hF | hF
          · rcases if_ex hF with hF | hF
            · obtain ⟨xq28, mq26, hz, hF⟩ := bnd_ex hF
              have hf := Fr_tr hf (fr_Lw_stackAt (xq3 - (1 : Int32)) mq1 _ _ hz) (by decide) (by decide)
              obtain ⟨u_, mq29, hz, hF⟩ := bnd_ex hF
              have hf := Fr_tr hf (fr_Lw_setStack (xq3 - (1 : Int32)) ((1 : Int32) - xq28) mq26 _ _ hz) (by decide) (by decide)
              exact Jk172_11 xq2 xq3 mq29 hf hF
            · obtain ⟨xq13, exq13, hF⟩ := lt_ex hF
              obtain ⟨xq16, mq14, hz, hF⟩ := bnd_ex hF
              have hf := Fr_tr hf (fr_Lw_stackAt (xq13 - (1 : Int32)) mq1 _ _ hz) (by decide) (by decide)
              obtain ⟨xq19, mq17, hz, hF⟩ := bnd_ex hF
              have hf := Fr_tr hf (fr_Lw_stackAt xq13 mq14 _ _ hz) (by decide) (by decide)
              obtain ⟨xq22, mq20, hz, hF⟩ := bnd_ex hF
              have hf := Fr_tr hf (fr_Lw_joined xq8 xq16 xq19 mq17 _ _ hz) (by decide) (by decide)
              obtain ⟨u_, mq23, hz, hF⟩ := bnd_ex hF
              have hf := Fr_tr hf (fr_Lw_setStack (xq13 - (1 : Int32)) xq22 mq20 _ _ hz) (by decide) (by decide)
              exact Jk172_11 xq2 xq13 mq23 hf hF
          · obtain ⟨xq32, exq32, hF⟩ := lt_ex hF
            obtain ⟨xq35, mq33, hz, hF⟩ := bnd_ex hF
            have hf := Fr_tr hf (fr_Lw_stackAt xq32 mq1 _ _ hz) (by decide) (by decide)
            obtain ⟨k112_37, ek112_37, hF⟩ := lt_ex hF
            have Jk112_37 : ∀ (xq37 : Int32) (mq36 : Mem), Fr [11] [] mB mq36 → k112_37 xq37 mq36 = some (v, m') → Fr [11] [] mB m' := by
              intro xq37 mq36 hf hF
              rw [ek112_37] at hF
              obtain ⟨xq38, exq38, hF⟩ := lt_ex hF
              exact Jk172_11 xq38 xq32 mq36 hf hF
            rcases if_ex hF with hF | hF
            · exact Jk112_37 (0 : Int32) mq33 hf hF
            · exact Jk112_37 (xq8 - (2000 : Int32)) mq33 hf hF
        · obtain ⟨k76_39, ek76_39, hF⟩ := lt_ex hF
          have Jk76_39 : ∀ (mq39 : Mem), Fr [11] [] mB mq39 → k76_39 mq39 = some (v, m') → Fr [11] [] mB m' := by
            intro mq39 hf hF
            rw [ek76_39] at hF
            obtain ⟨xq40, exq40, hF⟩ := lt_ex hF
            exact Jk172_11 xq2 xq40 mq39 hf hF
          rcases if_ex hF with hF | hF
          · exact Jk76_39 mq1 hf hF
          · rcases if_ex hF with hF | hF
            · exact Jk76_39 mq1 hf hF
            · obtain ⟨k75_42, ek75_42, hF⟩ := lt_ex hF
              have Jk75_42 : ∀ (xq42 : Int32) (mq41 : Mem), Fr [11] [] mB mq41 → k75_42 xq42 mq41 = some (v, m') → Fr [11] [] mB m' := by
                intro xq42 mq41 hf hF
                rw [ek75_42] at hF
                obtain ⟨-, hF⟩ := ckB_ex hF
                obtain ⟨mq43, emq43, hF⟩ := lt_ex hF
                have hf := Fr_sI emq43 hf (Or.inl (by decide))
                exact Jk76_39 mq43 hf hF
              rcases if_ex hF with hF | hF
              · obtain ⟨xq47, mq45, hz, hF⟩ := bnd_ex hF
                have hf := Fr_tr hf (fr_Lw_placeAt (xq8 - (1000 : Int32)) mq1 _ _ hz) (by decide) (by decide)
                exact Jk75_42 xq47 mq45 hf hF
              · exact Jk75_42 xq8 mq1 hf hF
set_option maxHeartbeats 4000000 in
theorem fr_Lw_hardness (m0 : Mem) (v : Int32) (m' : Mem) (hF : F_Lw_hardness m0 = some (v, m')) : Fr [11] [] m0 m' := by
  unfold F_Lw_hardness at hF
  have hf : Fr [11] [] m0 m0 := Fr_rf
  exact fr_Lw_hardness_L6  m0 _ _  1000000 (0 : Int32) (0 : Int32) (0 : Int32) m0 hf hF
set_option maxHeartbeats 4000000 in
theorem fr_Gr_levelOf (a1 : Int32) (a2 : Int32) (a3 : Int32) (m0 : Mem) (v : Int32) (m' : Mem) (hF : F_Gr_levelOf a1 a2 a3 m0 = some (v, m')) : Fr [10, 11, 14] [] m0 m' := by
  unfold F_Gr_levelOf at hF
  have hf : Fr [10, 11, 14] [] m0 m0 := Fr_rf
  obtain ⟨xq1, exq1, hF⟩ := lt_ex hF
  rcases if_ex hF with hF | hF
  · cases hF
    exact hf
  · rcases if_ex hF with hF | hF
    · obtain ⟨-, hF⟩ := ckB_ex hF
      obtain ⟨xq3, exq3, hF⟩ := lt_ex hF
      obtain ⟨k140_4, ek140_4, hF⟩ := lt_ex hF
      have Jk140_4 : ∀ (mq4 : Mem), Fr [10, 11, 14] [] m0 mq4 → k140_4 mq4 = some (v, m') → Fr [10, 11, 14] [] m0 m' := by
        intro mq4 hf hF
        rw [ek140_4] at hF
        obtain ⟨-, hF⟩ := ckB_ex hF
        obtain ⟨xq6, exq6, hF⟩ := lt_ex hF
        cases hF
        exact hf
      obtain ⟨k59_7, ek59_7, hF⟩ := lt_ex hF
      have Jk59_7 : ∀ (mq7 : Mem), Fr [10, 11, 14] [] m0 mq7 → k59_7 mq7 = some (v, m') → Fr [10, 11, 14] [] m0 m' := by
        intro mq7 hf hF
        rw [ek59_7] at hF
        obtain ⟨-, hF⟩ := ckB_ex hF
        obtain ⟨xq9, exq9, hF⟩ := lt_ex hF
        rcases if_ex hF with hF | hF
        · obtain ⟨u_, mq10, hz, hF⟩ := bnd_ex hF
          have hf := Fr_tr hf (fr_Lw_stand a1 a2 a3 mq7 _ _ hz) (by decide) (by decide)
          obtain ⟨xq15, mq13, hz, hF⟩ := bnd_ex hF
          have hf := Fr_tr hf (fr_Gr_batOf a3 mq10 _ _ hz) (by decide) (by decide)
          obtain ⟨xq18, mq16, hz, hF⟩ := bnd_ex hF
          have hf := Fr_tr hf (fr_Gr_bowlOf ((1 : Int32) - a3) mq13 _ _ hz) (by decide) (by decide)
          obtain ⟨u_, mq19, hz, hF⟩ := bnd_ex hF
          have hf := Fr_tr hf (fr_Lw_standSides xq15 xq18 mq16 _ _ hz) (by decide) (by decide)
          obtain ⟨xq24, mq22, hz, hF⟩ := bnd_ex hF
          have hf := Fr_tr hf (fr_T_bitOf (gI mq19 3 1) a1 mq19 _ _ hz) (by decide) (by decide)
          obtain ⟨xq27, mq25, hz, hF⟩ := bnd_ex hF
          have hf := Fr_tr hf (fr_T_bitOf (gI mq22 3 2) a1 mq22 _ _ hz) (by decide) (by decide)
          obtain ⟨u_, mq28, hz, hF⟩ := bnd_ex hF
          have hf := Fr_tr hf (fr_Lw_standSky xq24 xq27 mq25 _ _ hz) (by decide) (by decide)
          obtain ⟨xq33, mq31, hz, hF⟩ := bnd_ex hF
          have hf := Fr_tr hf (fr_Lw_hardness mq28 _ _ hz) (by decide) (by decide)
          obtain ⟨-, hF⟩ := ckB_ex hF
          obtain ⟨mq34, emq34, hF⟩ := lt_ex hF
          have hf := Fr_sI emq34 hf (Or.inl (by decide))
          exact Jk140_4 mq34 hf hF
        · exact Jk140_4 mq7 hf hF
      rcases if_ex hF with hF | hF
      · rcases if_ex hF with hF | hF
        · obtain ⟨-, hF⟩ := ckB_ex hF
          obtain ⟨mq36, emq36, hF⟩ := lt_ex hF
          have hf := Fr_sI emq36 hf (Or.inl (by decide))
          exact Jk140_4 mq36 hf hF
        · exact Jk59_7 m0 hf hF
      · exact Jk59_7 m0 hf hF
    · cases hF
      exact hf
set_option maxHeartbeats 4000000 in
theorem fr_Gr_outsOf (a1 : Int32) (a2 : Int32) (m0 : Mem) (v : Int32) (m' : Mem) (hF : F_Gr_outsOf a1 a2 m0 = some (v, m')) : Fr [] [] m0 m' := by
  unfold F_Gr_outsOf at hF
  have hf : Fr [] [] m0 m0 := Fr_rf
  obtain ⟨xq1, exq1, hF⟩ := lt_ex hF
  rcases if_ex hF with hF | hF
  · cases hF
    exact hf
  · rcases if_ex hF with hF | hF
    · obtain ⟨-, hF⟩ := ckB_ex hF
      obtain ⟨xq3, exq3, hF⟩ := lt_ex hF
      cases hF
      exact hf
    · cases hF
      exact hf
set_option maxHeartbeats 4000000 in
theorem fr_Gr_outsIn (a1 : Int32) (a2 : Int32) (a3 : Int32) (m0 : Mem) (v : Int32) (m' : Mem) (hF : F_Gr_outsIn a1 a2 a3 m0 = some (v, m')) : Fr [] [] m0 m' := by
  unfold F_Gr_outsIn at hF
  have hf : Fr [] [] m0 m0 := Fr_rf
  obtain ⟨xq3, mq1, hz, hF⟩ := bnd_ex hF
  have hf := Fr_tr hf (fr_T_bitOf (gI m0 3 3) a1 m0 _ _ hz) (by decide) (by decide)
  rcases if_ex hF with hF | hF
  · cases hF
    exact hf
  · obtain ⟨xq6, mq4, hz, hF⟩ := bnd_ex hF
    have hf := Fr_tr hf (fr_Gr_outsOf a2 a3 mq1 _ _ hz) (by decide) (by decide)
    cases hF
    exact hf
set_option maxHeartbeats 4000000 in
theorem fr_Od_all (a1 : Int32) (m0 : Mem) (v : Int64) (m' : Mem) (hF : F_Od_all a1 m0 = some (v, m')) : Fr [] [] m0 m' := by
  unfold F_Od_all at hF
  have hf : Fr [] [] m0 m0 := Fr_rf
  obtain ⟨xq1, exq1, hF⟩ := lt_ex hF
  rcases if_ex hF with hF | hF
  · obtain ⟨yq2, eyq2, hF⟩ := lt_ex hF
    cases hF
    exact hf
  · cases hF
    exact hf
set_option maxHeartbeats 4000000 in
theorem fr_Od_allTo (a1 : Bool) (a2 : Int32) (m0 : Mem) (v : Int64) (m' : Mem) (hF : F_Od_allTo a1 a2 m0 = some (v, m')) : Fr [] [] m0 m' := by
  unfold F_Od_allTo at hF
  have hf : Fr [] [] m0 m0 := Fr_rf
  rcases if_ex hF with hF | hF
  · obtain ⟨yq6, mq4, hz, hF⟩ := bnd_ex hF
    have hf := Fr_tr hf (fr_Od_all a2 m0 _ _ hz) (by decide) (by decide)
    cases hF
    exact hf
  · obtain ⟨yq3, mq1, hz, hF⟩ := bnd_ex hF
    have hf := Fr_tr hf (fr_Od_all a2 m0 _ _ hz) (by decide) (by decide)
    cases hF
    exact hf
set_option maxHeartbeats 4000000 in
theorem fr_Od_waysOfNext (rc : Int32 → Int32 → Int32 → Int32 → Mem → Option (Int64 × Mem)) (hrc : ∀ (b0 : Int32) (b1 : Int32) (b2 : Int32) (b3 : Int32) (m : Mem) (v : Int64) (m' : Mem), rc b0 b1 b2 b3 m = some (v, m') → Fr [10, 11, 14, 15] [] m m') (a1 : Int32) (a2 : Int32) (a3 : Int32) (m0 : Mem) (v : Int64) (m' : Mem) (hF : F_Od_waysOfNext rc a1 a2 a3 m0 = some (v, m')) : Fr [10, 11, 14, 15] [] m0 m' := by
  unfold F_Od_waysOfNext at hF
  have hf : Fr [10, 11, 14, 15] [] m0 m0 := Fr_rf
  obtain ⟨xq1, exq1, hF⟩ := lt_ex hF
  obtain ⟨zq4, mq2, hz, hF⟩ := bnd_ex hF
  have hf := Fr_tr hf (fr_Od_firstBats xq1 m0 _ _ hz) (by decide) (by decide)
  obtain ⟨xq7, mq5, hz, hF⟩ := bnd_ex hF
  have hf := Fr_tr hf (fr_Od_inningsOf xq1 mq2 _ _ hz) (by decide) (by decide)
  obtain ⟨k45_8, ek45_8, hF⟩ := lt_ex hF
  have Jk45_8 : ∀ (mq8 : Mem), Fr [10, 11, 14, 15] [] m0 mq8 → k45_8 mq8 = some (v, m') → Fr [10, 11, 14, 15] [] m0 m' := by
    intro mq8 hf hF
    rw [ek45_8] at hF
    obtain ⟨yq11, mq9, hz, hF⟩ := bnd_ex hF
    have hf := Fr_tr hf (hrc a1 xq1 (10 : Int32) a3 mq8 _ _ hz) (by decide) (by decide)
    cases hF
    exact hf
  rcases if_ex hF with hF | hF
  · obtain ⟨k37_12, ek37_12, hF⟩ := lt_ex hF
    have Jk37_12 : ∀ (mq12 : Mem), Fr [10, 11, 14, 15] [] m0 mq12 → k37_12 mq12 = some (v, m') → Fr [10, 11, 14, 15] [] m0 m' := by
      intro mq12 hf hF
      rw [ek37_12] at hF
      obtain ⟨yq15, mq13, hz, hF⟩ := bnd_ex hF
      have hf := Fr_tr hf (fr_Od_allTo zq4 a1 mq12 _ _ hz) (by decide) (by decide)
      cases hF
      exact hf
    rcases if_ex hF with hF | hF
    · rcases if_ex hF with hF | hF
      · exact Jk45_8 mq5 hf hF
      · exact Jk37_12 mq5 hf hF
    · rcases if_ex hF with hF | hF
      · exact Jk45_8 mq5 hf hF
      · exact Jk37_12 mq5 hf hF
  · exact Jk45_8 mq5 hf hF
set_option maxHeartbeats 4000000 in
theorem fr_Od_waysBehind (rc : Int32 → Int32 → Int32 → Int32 → Mem → Option (Int64 × Mem)) (hrc : ∀ (b0 : Int32) (b1 : Int32) (b2 : Int32) (b3 : Int32) (m : Mem) (v : Int64) (m' : Mem), rc b0 b1 b2 b3 m = some (v, m') → Fr [10, 11, 14, 15] [] m m') (a1 : Int32) (a2 : Int32) (a3 : Int32) (a4 : Int32) (m0 : Mem) (v : Int64) (m' : Mem) (hF : F_Od_waysBehind rc a1 a2 a3 a4 m0 = some (v, m')) : Fr [10, 11, 14, 15] [] m0 m' := by
  unfold F_Od_waysBehind at hF
  have hf : Fr [10, 11, 14, 15] [] m0 m0 := Fr_rf
  obtain ⟨xq3, mq1, hz, hF⟩ := bnd_ex hF
  have hf := Fr_tr hf (fr_Od_inningsOf a2 m0 _ _ hz) (by decide) (by decide)
  rcases if_ex hF with hF | hF
  · obtain ⟨zq6, mq4, hz, hF⟩ := bnd_ex hF
    have hf := Fr_tr hf (fr_Od_firstBats a2 mq1 _ _ hz) (by decide) (by decide)
    obtain ⟨k54_8, ek54_8, hF⟩ := lt_ex hF
    have Jk54_8 : ∀ (xq8 : Int32) (mq7 : Mem), Fr [10, 11, 14, 15] [] m0 mq7 → k54_8 xq8 mq7 = some (v, m') → Fr [10, 11, 14, 15] [] m0 m' := by
      intro xq8 mq7 hf hF
      rw [ek54_8] at hF
      rcases if_ex hF with hF | hF
      · rcases if_ex hF with hF | hF
        · rcases if_ex hF with hF | hF
          · cases hF
            exact hf
          · obtain ⟨k95_13, ek95_13, hF⟩ := lt_ex hF
            have Jk95_13 : ∀ (zq13 : Bool) (mq12 : Mem), Fr [10, 11, 14, 15] [] m0 mq12 → k95_13 zq13 mq12 = some (v, m') → Fr [10, 11, 14, 15] [] m0 m' := by
              intro zq13 mq12 hf hF
              rw [ek95_13] at hF
              obtain ⟨yq16, mq14, hz, hF⟩ := bnd_ex hF
              have hf := Fr_tr hf (fr_Od_allTo zq13 a1 mq12 _ _ hz) (by decide) (by decide)
              cases hF
              exact hf
            rcases if_ex hF with hF | hF
            · exact Jk95_13 false mq7 hf hF
            · exact Jk95_13 true mq7 hf hF
        · obtain ⟨yq11, mq9, hz, hF⟩ := bnd_ex hF
          have hf := Fr_tr hf (hrc a1 a2 a3 a4 mq7 _ _ hz) (by decide) (by decide)
          cases hF
          exact hf
      · obtain ⟨yq19, mq17, hz, hF⟩ := bnd_ex hF
        have hf := Fr_tr hf (fr_Od_allTo zq6 a1 mq7 _ _ hz) (by decide) (by decide)
        cases hF
        exact hf
    rcases if_ex hF with hF | hF
    · exact Jk54_8 a4 mq4 hf hF
    · exact Jk54_8 (-a4) mq4 hf hF
  · rcases if_ex hF with hF | hF
    · obtain ⟨yq25, mq23, hz, hF⟩ := bnd_ex hF
      have hf := Fr_tr hf (fr_Od_waysOfNext rc hrc a1 a2 a4 mq1 _ _ hz) (by decide) (by decide)
      cases hF
      exact hf
    · obtain ⟨yq22, mq20, hz, hF⟩ := bnd_ex hF
      have hf := Fr_tr hf (hrc a1 a2 a3 a4 mq1 _ _ hz) (by decide) (by decide)
      cases hF
      exact hf
set_option maxHeartbeats 4000000 in
theorem fr_Gr_runsOf (a1 : Int32) (a2 : Int32) (m0 : Mem) (v : Int32) (m' : Mem) (hF : F_Gr_runsOf a1 a2 m0 = some (v, m')) : Fr [] [] m0 m' := by
  unfold F_Gr_runsOf at hF
  have hf : Fr [] [] m0 m0 := Fr_rf
  obtain ⟨xq1, exq1, hF⟩ := lt_ex hF
  rcases if_ex hF with hF | hF
  · cases hF
    exact hf
  · rcases if_ex hF with hF | hF
    · obtain ⟨-, hF⟩ := ckB_ex hF
      obtain ⟨xq3, exq3, hF⟩ := lt_ex hF
      cases hF
      exact hf
    · cases hF
      exact hf
set_option maxHeartbeats 4000000 in
theorem fr_Gr_runsIn (a1 : Int32) (a2 : Int32) (a3 : Int32) (m0 : Mem) (v : Int32) (m' : Mem) (hF : F_Gr_runsIn a1 a2 a3 m0 = some (v, m')) : Fr [] [] m0 m' := by
  unfold F_Gr_runsIn at hF
  have hf : Fr [] [] m0 m0 := Fr_rf
  obtain ⟨xq3, mq1, hz, hF⟩ := bnd_ex hF
  have hf := Fr_tr hf (fr_T_bitOf (gI m0 3 3) a1 m0 _ _ hz) (by decide) (by decide)
  rcases if_ex hF with hF | hF
  · cases hF
    exact hf
  · obtain ⟨xq6, mq4, hz, hF⟩ := bnd_ex hF
    have hf := Fr_tr hf (fr_Gr_runsOf a2 a3 mq1 _ _ hz) (by decide) (by decide)
    cases hF
    exact hf
set_option maxHeartbeats 4000000 in
theorem fr_Od_waysOfSlot (rc : Int32 → Int32 → Int32 → Int32 → Mem → Option (Int64 × Mem)) (hrc : ∀ (b0 : Int32) (b1 : Int32) (b2 : Int32) (b3 : Int32) (m : Mem) (v : Int64) (m' : Mem), rc b0 b1 b2 b3 m = some (v, m') → Fr [10, 11, 14, 15] [] m m') (a1 : Int32) (a2 : Int32) (a3 : Int32) (a4 : Int32) (a5 : Int32) (a6 : Bool) (m0 : Mem) (v : Int64) (m' : Mem) (hF : F_Od_waysOfSlot rc a1 a2 a3 a4 a5 a6 m0 = some (v, m')) : Fr [10, 11, 14, 15] [] m0 m' := by
  unfold F_Od_waysOfSlot at hF
  have hf : Fr [10, 11, 14, 15] [] m0 m0 := Fr_rf
  obtain ⟨zq3, mq1, hz, hF⟩ := bnd_ex hF
  have hf := Fr_tr hf (fr_Od_firstBats a2 m0 _ _ hz) (by decide) (by decide)
  obtain ⟨xq6, mq4, hz, hF⟩ := bnd_ex hF
  have hf := Fr_tr hf (fr_Od_inningsOf a2 mq1 _ _ hz) (by decide) (by decide)
  obtain ⟨k33_8, ek33_8, hF⟩ := lt_ex hF
  have Jk33_8 : ∀ (xq8 : Int32) (mq7 : Mem), Fr [10, 11, 14, 15] [] m0 mq7 → k33_8 xq8 mq7 = some (v, m') → Fr [10, 11, 14, 15] [] m0 m' := by
    intro xq8 mq7 hf hF
    rw [ek33_8] at hF
    obtain ⟨xq11, mq9, hz, hF⟩ := bnd_ex hF
    have hf := Fr_tr hf (fr_Gr_levelOf a1 xq6 xq8 mq7 _ _ hz) (by decide) (by decide)
    obtain ⟨k59_13, ek59_13, hF⟩ := lt_ex hF
    have Jk59_13 : ∀ (xq13 : Int32) (mq12 : Mem), Fr [10, 11, 14, 15] [] m0 mq12 → k59_13 xq13 mq12 = some (v, m') → Fr [10, 11, 14, 15] [] m0 m' := by
      intro xq13 mq12 hf hF
      rw [ek59_13] at hF
      obtain ⟨xq16, mq14, hz, hF⟩ := bnd_ex hF
      have hf := Fr_tr hf (fr_Gr_outsIn a1 xq11 a5 mq12 _ _ hz) (by decide) (by decide)
      obtain ⟨k90_18, ek90_18, hF⟩ := lt_ex hF
      have Jk90_18 : ∀ (xq18 : Int32) (mq17 : Mem), Fr [10, 11, 14, 15] [] m0 mq17 → k90_18 xq18 mq17 = some (v, m') → Fr [10, 11, 14, 15] [] m0 m' := by
        intro xq18 mq17 hf hF
        rw [ek90_18] at hF
        obtain ⟨k122_20, ek122_20, hF⟩ := lt_ex hF
        have Jk122_20 : ∀ (xq20 : Int32) (mq19 : Mem), Fr [10, 11, 14, 15] [] m0 mq19 → k122_20 xq20 mq19 = some (v, m') → Fr [10, 11, 14, 15] [] m0 m' := by
          intro xq20 mq19 hf hF
          rw [ek122_20] at hF
          obtain ⟨yq23, mq21, hz, hF⟩ := bnd_ex hF
          have hf := Fr_tr hf (fr_Od_waysBehind rc hrc (a1 + (1 : Int32)) a2 (mnI (10 : Int32) (a3 + xq18)) xq20 mq19 _ _ hz) (by decide) (by decide)
          cases hF
          exact hf
        rcases if_ex hF with hF | hF
        · exact Jk122_20 (a4 + xq13) mq17 hf hF
        · exact Jk122_20 (a4 - xq13) mq17 hf hF
      rcases if_ex hF with hF | hF
      · obtain ⟨xq24, exq24, hF⟩ := lt_ex hF
        exact Jk90_18 xq24 mq14 hf hF
      · exact Jk90_18 xq16 mq14 hf hF
    rcases if_ex hF with hF | hF
    · exact Jk59_13 (0 : Int32) mq9 hf hF
    · obtain ⟨xq27, mq25, hz, hF⟩ := bnd_ex hF
      have hf := Fr_tr hf (fr_Gr_runsIn a1 xq11 a5 mq9 _ _ hz) (by decide) (by decide)
      exact Jk59_13 xq27 mq25 hf hF
  rcases if_ex hF with hF | hF
  · exact Jk33_8 (gI mq4 2 4) mq4 hf hF
  · exact Jk33_8 ((1 : Int32) - (gI mq4 2 4)) mq4 hf hF
set_option maxHeartbeats 4000000 in
theorem fr_Od_placeOf (a1 : Int32) (a2 : Int32) (a3 : Int32) (a4 : Int32) (m0 : Mem) (v : Int32) (m' : Mem) (hF : F_Od_placeOf a1 a2 a3 a4 m0 = some (v, m')) : Fr [] [] m0 m' := by
  unfold F_Od_placeOf at hF
  have hf : Fr [] [] m0 m0 := Fr_rf
  rcases if_ex hF with hF | hF
  · cases hF
    exact hf
  · rcases if_ex hF with hF | hF
    · cases hF
      exact hf
    · rcases if_ex hF with hF | hF
      · cases hF
        exact hf
      · rcases if_ex hF with hF | hF
        · cases hF
          exact hf
        · rcases if_ex hF with hF | hF
          · cases hF
            exact hf
          · rcases if_ex hF with hF | hF
            · cases hF
              exact hf
            · rcases if_ex hF with hF | hF
              · obtain ⟨xq1, exq1, hF⟩ := lt_ex hF
                obtain ⟨xq2, exq2, hF⟩ := lt_ex hF
                rcases if_ex hF with hF | hF
                · cases hF
                  exact hf
                · rcases if_ex hF with hF | hF
                  · cases hF
                    exact hf
                  · cases hF
                    exact hf
              · cases hF
                exact hf
set_option maxHeartbeats 4000000 in
theorem fr_Od_waysOfSession_L6 (rc : Int32 → Int32 → Int32 → Int32 → Mem → Option (Int64 × Mem)) (a1 : Int32) (a2 : Int32) (a3 : Int32) (a4 : Int32) (a5 : Bool) (mB : Mem) (v : Int64) (m' : Mem) (hrc : ∀ (b0 : Int32) (b1 : Int32) (b2 : Int32) (b3 : Int32) (m : Mem) (v : Int64) (m' : Mem), rc b0 b1 b2 b3 m = some (v, m') → Fr [10, 11, 14, 15] [] m m') : ∀ (nf : Nat) (yq2 : Int64) (xq3 : Int32) (mq1 : Mem), Fr [10, 11, 14, 15] [] mB mq1 → F_Od_waysOfSession_L6 rc a1 a2 a3 a4 a5 nf yq2 xq3 mq1 = some (v, m') → Fr [10, 11, 14, 15] [] mB m' := by
  intro nf
  induction nf with
  | zero =>
    intro yq2 xq3 mq1 hf hF
    rw [F_Od_waysOfSession_L6] at hF
    cases hF
  | succ nfq4 ih =>
    intro yq2 xq3 mq1 hf hF
    rw [F_Od_waysOfSession_L6] at hF
    rcases if_ex hF with hF | hF
    · cases hF
      exact hf
    · obtain ⟨yq8, mq6, hz, hF⟩ := bnd_ex hF
      have hf := Fr_tr hf (fr_Od_waysOfSlot rc hrc a1 a2 a3 a4 xq3 a5 mq1 _ _ hz) (by decide) (by decide)
      obtain ⟨yq9, eyq9, hF⟩ := lt_ex hF
      obtain ⟨xq10, exq10, hF⟩ := lt_ex hF
      exact ih yq9 xq10 mq6 hf hF
set_option maxHeartbeats 4000000 in
theorem fr_Od_waysOfSession (rc : Int32 → Int32 → Int32 → Int32 → Mem → Option (Int64 × Mem)) (hrc : ∀ (b0 : Int32) (b1 : Int32) (b2 : Int32) (b3 : Int32) (m : Mem) (v : Int64) (m' : Mem), rc b0 b1 b2 b3 m = some (v, m') → Fr [10, 11, 14, 15] [] m m') (a1 : Int32) (a2 : Int32) (a3 : Int32) (a4 : Int32) (a5 : Bool) (m0 : Mem) (v : Int64) (m' : Mem) (hF : F_Od_waysOfSession rc a1 a2 a3 a4 a5 m0 = some (v, m')) : Fr [10, 11, 14, 15] [] m0 m' := by
  unfold F_Od_waysOfSession at hF
  have hf : Fr [10, 11, 14, 15] [] m0 m0 := Fr_rf
  exact fr_Od_waysOfSession_L6 rc a1 a2 a3 a4 a5 m0 _ _ hrc  1000000 (0 : Int64) (0 : Int32) m0 hf hF
set_option maxHeartbeats 4000000 in
theorem fr_Od_waysGoingOn (rc : Int32 → Int32 → Int32 → Int32 → Mem → Option (Int64 × Mem)) (hrc : ∀ (b0 : Int32) (b1 : Int32) (b2 : Int32) (b3 : Int32) (m : Mem) (v : Int64) (m' : Mem), rc b0 b1 b2 b3 m = some (v, m') → Fr [10, 11, 14, 15] [] m m') (a1 : Int32) (a2 : Int32) (a3 : Int32) (a4 : Int32) (m0 : Mem) (v : Int64) (m' : Mem) (hF : F_Od_waysGoingOn rc a1 a2 a3 a4 m0 = some (v, m')) : Fr [10, 11, 14, 15] [] m0 m' := by
  unfold F_Od_waysGoingOn at hF
  have hf : Fr [10, 11, 14, 15] [] m0 m0 := Fr_rf
  obtain ⟨k14_2, ek14_2, hF⟩ := lt_ex hF
  have Jk14_2 : ∀ (xq2 : Int32) (mq1 : Mem), Fr [10, 11, 14, 15] [] m0 mq1 → k14_2 xq2 mq1 = some (v, m') → Fr [10, 11, 14, 15] [] m0 m' := by
    intro xq2 mq1 hf hF
    rw [ek14_2] at hF
    obtain ⟨yq5, mq3, hz, hF⟩ := bnd_ex hF
    have hf := Fr_tr hf (fr_Od_waysOfSession rc hrc a1 a2 xq2 a4 false mq1 _ _ hz) (by decide) (by decide)
    cases hF
    exact hf
  rcases if_ex hF with hF | hF
  · exact Jk14_2 (0 : Int32) m0 hf hF
  · exact Jk14_2 a3 m0 hf hF
set_option maxHeartbeats 4000000 in
theorem fr_Od_otherChoice (a1 : Int32) (a2 : Int32) (a3 : Int32) (m0 : Mem) (v : Int32) (m' : Mem) (hF : F_Od_otherChoice a1 a2 a3 m0 = some (v, m')) : Fr [] [] m0 m' := by
  unfold F_Od_otherChoice at hF
  have hf : Fr [] [] m0 m0 := Fr_rf
  obtain ⟨xq3, mq1, hz, hF⟩ := bnd_ex hF
  have hf := Fr_tr hf (fr_Od_inningsOf a1 m0 _ _ hz) (by decide) (by decide)
  rcases if_ex hF with hF | hF
  · cases hF
    exact hf
  · rcases if_ex hF with hF | hF
    · rcases if_ex hF with hF | hF
      · rcases if_ex hF with hF | hF
        · cases hF
          exact hf
        · cases hF
          exact hf
      · cases hF
        exact hf
    · cases hF
      exact hf
set_option maxHeartbeats 4000000 in
theorem fr_Od_waysOtherwise (rc : Int32 → Int32 → Int32 → Int32 → Mem → Option (Int64 × Mem)) (hrc : ∀ (b0 : Int32) (b1 : Int32) (b2 : Int32) (b3 : Int32) (m : Mem) (v : Int64) (m' : Mem), rc b0 b1 b2 b3 m = some (v, m') → Fr [10, 11, 14, 15] [] m m') (a1 : Int32) (a2 : Int32) (a3 : Int32) (a4 : Int32) (m0 : Mem) (v : Int64) (m' : Mem) (hF : F_Od_waysOtherwise rc a1 a2 a3 a4 m0 = some (v, m')) : Fr [10, 11, 14, 15] [] m0 m' := by
  unfold F_Od_waysOtherwise at hF
  have hf : Fr [10, 11, 14, 15] [] m0 m0 := Fr_rf
  obtain ⟨xq3, mq1, hz, hF⟩ := bnd_ex hF
  have hf := Fr_tr hf (fr_Od_otherChoice a2 a3 a4 m0 _ _ hz) (by decide) (by decide)
  rcases if_ex hF with hF | hF
  · obtain ⟨yq6, mq4, hz, hF⟩ := bnd_ex hF
    have hf := Fr_tr hf (fr_Od_waysOfNext rc hrc a1 a2 a4 mq1 _ _ hz) (by decide) (by decide)
    cases hF
    exact hf
  · rcases if_ex hF with hF | hF
    · obtain ⟨yq9, mq7, hz, hF⟩ := bnd_ex hF
      have hf := Fr_tr hf (fr_Od_waysOfSession rc hrc a1 (a2 + (2 : Int32)) (0 : Int32) a4 false mq1 _ _ hz) (by decide) (by decide)
      cases hF
      exact hf
    · obtain ⟨k72_11, ek72_11, hF⟩ := lt_ex hF
      have Jk72_11 : ∀ (xq11 : Int32) (mq10 : Mem), Fr [10, 11, 14, 15] [] m0 mq10 → k72_11 xq11 mq10 = some (v, m') → Fr [10, 11, 14, 15] [] m0 m' := by
        intro xq11 mq10 hf hF
        rw [ek72_11] at hF
        obtain ⟨yq14, mq12, hz, hF⟩ := bnd_ex hF
        have hf := Fr_tr hf (fr_Od_waysOfSession rc hrc a1 a2 xq11 a4 true mq10 _ _ hz) (by decide) (by decide)
        cases hF
        exact hf
      rcases if_ex hF with hF | hF
      · exact Jk72_11 (0 : Int32) mq1 hf hF
      · exact Jk72_11 a3 mq1 hf hF
set_option maxHeartbeats 4000000 in
theorem fr_Od_waysOf (a0 : Int64) (a1 : Bool) (m0 : Mem) (v : Int64) (m' : Mem) (hF : F_Od_waysOf a0 a1 m0 = some (v, m')) : Fr [] [] m0 m' := by
  unfold F_Od_waysOf at hF
  have hf : Fr [] [] m0 m0 := Fr_rf
  rcases if_ex hF with hF | hF
  · cases hF
    exact hf
  · obtain ⟨yq1, eyq1, hF⟩ := lt_ex hF
    cases hF
    exact hf
set_option maxHeartbeats 4000000 in
theorem fr_Od_draws (a1 : Int64) (a2 : Int32) (m0 : Mem) (v : Int64) (m' : Mem) (hF : F_Od_draws a1 a2 m0 = some (v, m')) : Fr [] [] m0 m' := by
  unfold F_Od_draws at hF
  have hf : Fr [] [] m0 m0 := Fr_rf
  obtain ⟨yq3, mq1, hz, hF⟩ := bnd_ex hF
  have hf := Fr_tr hf (fr_Od_all a2 m0 _ _ hz) (by decide) (by decide)
  obtain ⟨yq6, mq4, hz, hF⟩ := bnd_ex hF
  have hf := Fr_tr hf (fr_Od_waysOf a1 true mq1 _ _ hz) (by decide) (by decide)
  obtain ⟨yq9, mq7, hz, hF⟩ := bnd_ex hF
  have hf := Fr_tr hf (fr_Od_waysOf a1 false mq4 _ _ hz) (by decide) (by decide)
  cases hF
  exact hf
set_option maxHeartbeats 4000000 in
theorem fr_Od_valueOf (a1 : Int64) (a2 : Int32) (a3 : Bool) (a4 : Int32) (m0 : Mem) (v : Int64) (m' : Mem) (hF : F_Od_valueOf a1 a2 a3 a4 m0 = some (v, m')) : Fr [] [] m0 m' := by
  unfold F_Od_valueOf at hF
  have hf : Fr [] [] m0 m0 := Fr_rf
  obtain ⟨yq3, mq1, hz, hF⟩ := bnd_ex hF
  have hf := Fr_tr hf (fr_Od_waysOf a1 a3 m0 _ _ hz) (by decide) (by decide)
  obtain ⟨yq6, mq4, hz, hF⟩ := bnd_ex hF
  have hf := Fr_tr hf (fr_Od_draws a1 a2 mq1 _ _ hz) (by decide) (by decide)
  cases hF
  exact hf
set_option maxHeartbeats 4000000 in
theorem fr_Od_waysChosen (rc : Int32 → Int32 → Int32 → Int32 → Mem → Option (Int64 × Mem)) (hrc : ∀ (b0 : Int32) (b1 : Int32) (b2 : Int32) (b3 : Int32) (m : Mem) (v : Int64) (m' : Mem), rc b0 b1 b2 b3 m = some (v, m') → Fr [10, 11, 14, 15] [] m m') (a1 : Int32) (a2 : Int32) (a3 : Int32) (a4 : Int32) (m0 : Mem) (v : Int64) (m' : Mem) (hF : F_Od_waysChosen rc a1 a2 a3 a4 m0 = some (v, m')) : Fr [10, 11, 14, 15] [] m0 m' := by
  unfold F_Od_waysChosen at hF
  have hf : Fr [10, 11, 14, 15] [] m0 m0 := Fr_rf
  obtain ⟨yq3, mq1, hz, hF⟩ := bnd_ex hF
  have hf := Fr_tr hf (fr_Od_waysGoingOn rc hrc a1 a2 a3 a4 m0 _ _ hz) (by decide) (by decide)
  rcases if_ex hF with hF | hF
  · cases hF
    exact hf
  · obtain ⟨xq6, mq4, hz, hF⟩ := bnd_ex hF
    have hf := Fr_tr hf (fr_Od_otherChoice a2 a3 a4 mq1 _ _ hz) (by decide) (by decide)
    rcases if_ex hF with hF | hF
    · cases hF
      exact hf
    · obtain ⟨yq9, mq7, hz, hF⟩ := bnd_ex hF
      have hf := Fr_tr hf (fr_Od_waysOtherwise rc hrc a1 a2 a3 a4 mq4 _ _ hz) (by decide) (by decide)
      obtain ⟨zq12, mq10, hz, hF⟩ := bnd_ex hF
      have hf := Fr_tr hf (fr_Od_firstBats a2 mq7 _ _ hz) (by decide) (by decide)
      obtain ⟨yq15, mq13, hz, hF⟩ := bnd_ex hF
      have hf := Fr_tr hf (fr_Od_valueOf yq9 a1 zq12 (gI mq10 2 5) mq10 _ _ hz) (by decide) (by decide)
      obtain ⟨yq18, mq16, hz, hF⟩ := bnd_ex hF
      have hf := Fr_tr hf (fr_Od_valueOf yq3 a1 zq12 (gI mq13 2 5) mq13 _ _ hz) (by decide) (by decide)
      obtain ⟨yq19, eyq19, hF⟩ := lt_ex hF
      rcases if_ex hF with hF | hF
      · cases hF
        exact hf
      · cases hF
        exact hf
set_option maxHeartbeats 4000000 in
theorem fr_Od_waysAt_b (rc : Int32 → Int32 → Int32 → Int32 → Mem → Option (Int64 × Mem)) (hrc : ∀ (b0 : Int32) (b1 : Int32) (b2 : Int32) (b3 : Int32) (m : Mem) (v : Int64) (m' : Mem), rc b0 b1 b2 b3 m = some (v, m') → Fr [10, 11, 14, 15] [] m m') (a1 : Int32) (a2 : Int32) (a3 : Int32) (a4 : Int32) (m0 : Mem) (v : Int64) (m' : Mem) (hF : F_Od_waysAt_b rc a1 a2 a3 a4 m0 = some (v, m')) : Fr [10, 11, 14, 15] [] m0 m' := by
  unfold F_Od_waysAt_b at hF
  have hf : Fr [10, 11, 14, 15] [] m0 m0 := Fr_rf
  rcases if_ex hF with hF | hF
  · cases hF
    exact hf
  · rcases if_ex hF with hF | hF
    · obtain ⟨xq3, mq1, hz, hF⟩ := bnd_ex hF
      have hf := Fr_tr hf (fr_Od_placeOf a1 a2 a3 a4 m0 _ _ hz) (by decide) (by decide)
      obtain ⟨k64_4, ek64_4, hF⟩ := lt_ex hF
      have Jk64_4 : ∀ (mq4 : Mem), Fr [10, 11, 14, 15] [] m0 mq4 → k64_4 mq4 = some (v, m') → Fr [10, 11, 14, 15] [] m0 m' := by
        intro mq4 hf hF
        rw [ek64_4] at hF
        obtain ⟨yq7, mq5, hz, hF⟩ := bnd_ex hF
        have hf := Fr_tr hf (fr_Od_waysChosen rc hrc a1 a2 a3 a4 mq4 _ _ hz) (by decide) (by decide)
        rcases if_ex hF with hF | hF
        · cases hF
          exact hf
        · obtain ⟨yq8, eyq8, hF⟩ := lt_ex hF
          obtain ⟨-, hF⟩ := ckB_ex hF
          obtain ⟨mq9, emq9, hF⟩ := lt_ex hF
          have hf := Fr_sL emq9 hf (Or.inl (by decide))
          cases hF
          exact hf
      rcases if_ex hF with hF | hF
      · exact Jk64_4 mq1 hf hF
      · obtain ⟨-, hF⟩ := ckB_ex hF
        obtain ⟨yq12, eyq12, hF⟩ := lt_ex hF
        obtain ⟨yq13, eyq13, hF⟩ := lt_ex hF
        rcases if_ex hF with hF | hF
        · obtain ⟨-, hF⟩ := ckB_ex hF
          obtain ⟨yq15, eyq15, hF⟩ := lt_ex hF
          cases hF
          exact hf
        · exact Jk64_4 mq1 hf hF
    · cases hF
      exact hf
set_option maxHeartbeats 4000000 in
theorem fr_Od_waysAt : ∀ (k : Nat) (b0 : Int32) (b1 : Int32) (b2 : Int32) (b3 : Int32) (b4 : Mem) (v : Int64) (m' : Mem), F_Od_waysAt k b0 b1 b2 b3 b4 = some (v, m') → Fr [10, 11, 14, 15] [] b4 m' := by
  intro k
  induction k with
  | zero =>
    intro b0 b1 b2 b3 b4 v m' h
    rw [F_Od_waysAt] at h
    cases h
  | succ k ih =>
    intro b0 b1 b2 b3 b4 v m' h
    rw [F_Od_waysAt] at h
    exact fr_Od_waysAt_b (F_Od_waysAt k) ih b0 b1 b2 b3 b4 v m' h
set_option maxHeartbeats 4000000 in
theorem fr_Od_waysBySlot (a1 : Int32) (a2 : Int32) (a3 : Int32) (a4 : Int32) (a5 : Int32) (m0 : Mem) (v : Int64) (m' : Mem) (hF : F_Od_waysBySlot a1 a2 a3 a4 a5 m0 = some (v, m')) : Fr [10, 11, 14, 15] [] m0 m' := by
  unfold F_Od_waysBySlot at hF
  have hf : Fr [10, 11, 14, 15] [] m0 m0 := Fr_rf
  obtain ⟨yq3, mq1, hz, hF⟩ := bnd_ex hF
  have hf := Fr_tr hf (fr_Od_waysOfSlot (F_Od_waysAt 40) (fr_Od_waysAt 40) a1 a2 a3 a4 a5 false m0 _ _ hz) (by decide) (by decide)
  cases hF
  exact hf
set_option maxHeartbeats 4000000 in
theorem fr_T_waysAfter (a1 : Int32) (m0 : Mem) (v : Int64) (m' : Mem) (hF : F_T_waysAfter a1 m0 = some (v, m')) : Fr [10, 11, 14, 15] [(2, 2), (2, 3), (2, 4), (2, 5), (2, 6)] m0 m' := by
  unfold F_T_waysAfter at hF
  have hf : Fr [10, 11, 14, 15] [(2, 2), (2, 3), (2, 4), (2, 5), (2, 6)] m0 m0 := Fr_rf
  obtain ⟨u_, mq1, hz, hF⟩ := bnd_ex hF
  have hf := Fr_tr hf (fr_Od_ready (gI m0 16 0) (gI m0 3 5) false m0 _ _ hz) (by decide) (by decide)
  obtain ⟨xq6, mq4, hz, hF⟩ := bnd_ex hF
  have hf := Fr_tr hf (fr_Ma_kind mq1 _ _ hz) (by decide) (by decide)
  obtain ⟨xq9, mq7, hz, hF⟩ := bnd_ex hF
  have hf := Fr_tr hf (fr_Ma_leadOf (gI mq4 16 0) mq4 _ _ hz) (by decide) (by decide)
  obtain ⟨yq12, mq10, hz, hF⟩ := bnd_ex hF
  have hf := Fr_tr hf (fr_Od_waysBySlot (gI mq1 16 3) xq6 (gI mq4 16 2) xq9 a1 mq7 _ _ hz) (by decide) (by decide)
  cases hF
  exact hf
set_option maxHeartbeats 4000000 in
theorem fr_Od_part (a1 : Int64) (a2 : Int32) (a3 : Int32) (m0 : Mem) (v : Int64) (m' : Mem) (hF : F_Od_part a1 a2 a3 m0 = some (v, m')) : Fr [] [] m0 m' := by
  unfold F_Od_part at hF
  have hf : Fr [] [] m0 m0 := Fr_rf
  rcases if_ex hF with hF | hF
  · obtain ⟨yq11, mq9, hz, hF⟩ := bnd_ex hF
    have hf := Fr_tr hf (fr_Od_all a2 m0 _ _ hz) (by decide) (by decide)
    cases hF
    exact hf
  · rcases if_ex hF with hF | hF
    · obtain ⟨yq8, mq6, hz, hF⟩ := bnd_ex hF
      have hf := Fr_tr hf (fr_Od_draws a1 a2 m0 _ _ hz) (by decide) (by decide)
      cases hF
      exact hf
    · obtain ⟨k42_2, ek42_2, hF⟩ := lt_ex hF
      have Jk42_2 : ∀ (zq2 : Bool) (mq1 : Mem), Fr [] [] m0 mq1 → k42_2 zq2 mq1 = some (v, m') → Fr [] [] m0 m' := by
        intro zq2 mq1 hf hF
        rw [ek42_2] at hF
        obtain ⟨yq5, mq3, hz, hF⟩ := bnd_ex hF
        have hf := Fr_tr hf (fr_Od_waysOf a1 zq2 mq1 _ _ hz) (by decide) (by decide)
        cases hF
        exact hf
      rcases if_ex hF with hF | hF
      · exact Jk42_2 true m0 hf hF
      · exact Jk42_2 false m0 hf hF
set_option maxHeartbeats 4000000 in
theorem fr_T_after (a1 : Int32) (a2 : Int32) (m0 : Mem) (v : (Nat ⊕ Int64)) (m' : Mem) (hF : F_T_after a1 a2 m0 = some (v, m')) : Fr [10, 11, 14, 15] [(2, 2), (2, 3), (2, 4), (2, 5), (2, 6)] m0 m' := by
  unfold F_T_after at hF
  have hf : Fr [10, 11, 14, 15] [(2, 2), (2, 3), (2, 4), (2, 5), (2, 6)] m0 m0 := Fr_rf
  rcases bndX_ex hF with ⟨ke, mq1, hz, hF⟩ | ⟨u_, mq1, hz, hF⟩
  · cases hF
    exact Fr_tr hf (fr_T_mustBeBelow a1 (4 : Int32) m0 _ _ hz) (by decide) (by decide)
  · have hf := Fr_tr hf (fr_T_mustBeBelow a1 (4 : Int32) m0 _ _ hz) (by decide) (by decide)
    rcases bndX_ex hF with ⟨ke, mq4, hz, hF⟩ | ⟨u_, mq4, hz, hF⟩
    · cases hF
      exact Fr_tr hf (fr_T_mustBeOn mq1 _ _ hz) (by decide) (by decide)
    · have hf := Fr_tr hf (fr_T_mustBeOn mq1 _ _ hz) (by decide) (by decide)
      obtain ⟨k19_7, ek19_7, hF⟩ := lt_ex hF
      have Jk19_7 : ∀ (mq7 : Mem), Fr [10, 11, 14, 15] [(2, 2), (2, 3), (2, 4), (2, 5), (2, 6)] m0 mq7 → k19_7 mq7 = some (v, m') → Fr [10, 11, 14, 15] [(2, 2), (2, 3), (2, 4), (2, 5), (2, 6)] m0 m' := by
        intro mq7 hf hF
        rw [ek19_7] at hF
        cases hF
        exact hf
      rcases if_ex hF with hF | hF
      · exact Jk19_7 mq4 hf hF
      · rcases if_ex hF with hF | hF
        · obtain ⟨yq10, mq8, hz, hF⟩ := bnd_ex hF
          have hf := Fr_tr hf (fr_T_waysAfter a1 mq4 _ _ hz) (by decide) (by decide)
          obtain ⟨yq13, mq11, hz, hF⟩ := bnd_ex hF
          have hf := Fr_tr hf (fr_Od_part yq10 ((gI mq8 16 3) + (1 : Int32)) a2 mq8 _ _ hz) (by decide) (by decide)
          cases hF
          exact hf
        · exact Jk19_7 mq4 hf hF
set_option maxHeartbeats 4000000 in
theorem fr_Pa_roomAt (a1 : Int32) (m0 : Mem) (v : Option Nat) (m' : Mem) (hF : F_Pa_roomAt a1 m0 = some (v, m')) : Fr [] [] m0 m' := by
  unfold F_Pa_roomAt at hF
  have hf : Fr [] [] m0 m0 := Fr_rf
  obtain ⟨k10_1, ek10_1, hF⟩ := lt_ex hF
  have Jk10_1 : ∀ (mq1 : Mem), Fr [] [] m0 mq1 → k10_1 mq1 = some (v, m') → Fr [] [] m0 m' := by
    intro mq1 hf hF
    rw [ek10_1] at hF
    cases hF
    exact hf
  rcases if_ex hF with hF | hF
  · exact Jk10_1 m0 hf hF
  · rcases if_ex hF with hF | hF
    · obtain ⟨-, hF⟩ := ckB_ex hF
      cases hF
      exact hf
    · exact Jk10_1 m0 hf hF
set_option maxHeartbeats 4000000 in
theorem fr_Ma_clearMatch (m0 : Mem) (v : Unit) (m' : Mem) (hF : F_Ma_clearMatch m0 = some (v, m')) : Fr [] [(16, 0), (16, 1), (16, 2), (16, 3), (16, 4), (16, 5), (16, 6), (16, 8), (16, 9)] m0 m' := by
  unfold F_Ma_clearMatch at hF
  have hf : Fr [] [(16, 0), (16, 1), (16, 2), (16, 3), (16, 4), (16, 5), (16, 6), (16, 8), (16, 9)] m0 m0 := Fr_rf
  obtain ⟨mq1, emq1, hF⟩ := lt_ex hF
  have hf := Fr_sI emq1 hf (Or.inr (by decide))
  obtain ⟨mq2, emq2, hF⟩ := lt_ex hF
  have hf := Fr_sI emq2 hf (Or.inr (by decide))
  obtain ⟨mq3, emq3, hF⟩ := lt_ex hF
  have hf := Fr_sI emq3 hf (Or.inr (by decide))
  obtain ⟨mq4, emq4, hF⟩ := lt_ex hF
  have hf := Fr_sI emq4 hf (Or.inr (by decide))
  obtain ⟨mq5, emq5, hF⟩ := lt_ex hF
  have hf := Fr_sI emq5 hf (Or.inr (by decide))
  obtain ⟨mq6, emq6, hF⟩ := lt_ex hF
  have hf := Fr_sZ emq6 hf (Or.inr (by decide))
  obtain ⟨mq7, emq7, hF⟩ := lt_ex hF
  have hf := Fr_sZ emq7 hf (Or.inr (by decide))
  obtain ⟨mq8, emq8, hF⟩ := lt_ex hF
  have hf := Fr_sI emq8 hf (Or.inr (by decide))
  obtain ⟨mq9, emq9, hF⟩ := lt_ex hF
  have hf := Fr_sI emq9 hf (Or.inr (by decide))
  cases hF
  exact hf
set_option maxHeartbeats 4000000 in
theorem fr_Lw_copyFrom_L18  (mB : Mem) (v : Unit) (m' : Mem) : ∀ (nf : Nat) (xq4 : Int32) (mq3 : Mem), Fr [9] [(8, 0), (8, 1)] mB mq3 → F_Lw_copyFrom_L18  nf xq4 mq3 = some (v, m') → Fr [9] [(8, 0), (8, 1)] mB m' := by
  intro nf
  induction nf with
  | zero =>
    intro xq4 mq3 hf hF
    rw [F_Lw_copyFrom_L18] at hF
    cases hF
  | succ nfq5 ih =>
    intro xq4 mq3 hf hF
    rw [F_Lw_copyFrom_L18] at hF
    rcases if_ex hF with hF | hF
    · cases hF
      exact hf
    · obtain ⟨-, hF⟩ := ckB_ex hF
      obtain ⟨xq8, exq8, hF⟩ := lt_ex hF
      obtain ⟨-, hF⟩ := ckB_ex hF
      obtain ⟨mq9, emq9, hF⟩ := lt_ex hF
      have hf := Fr_sI emq9 hf (Or.inl (by decide))
      obtain ⟨xq11, exq11, hF⟩ := lt_ex hF
      exact ih xq11 mq9 hf hF
set_option maxHeartbeats 4000000 in
theorem fr_Lw_copyFrom (m0 : Mem) (v : Unit) (m' : Mem) (hF : F_Lw_copyFrom m0 = some (v, m')) : Fr [9] [(8, 0), (8, 1)] m0 m' := by
  unfold F_Lw_copyFrom at hF
  have hf : Fr [9] [(8, 0), (8, 1)] m0 m0 := Fr_rf
  obtain ⟨mq1, emq1, hF⟩ := lt_ex hF
  have hf := Fr_sI emq1 hf (Or.inr (by decide))
  obtain ⟨mq2, emq2, hF⟩ := lt_ex hF
  have hf := Fr_sI emq2 hf (Or.inr (by decide))
  exact fr_Lw_copyFrom_L18  m0 _ _  1000000 (0 : Int32) mq2 hf hF
set_option maxHeartbeats 4000000 in
theorem fr_Bk_copyFrom_L10  (mB : Mem) (v : Unit) (m' : Mem) : ∀ (nf : Nat) (xq3 : Int32) (mq2 : Mem), Fr [13] [(12, 0)] mB mq2 → F_Bk_copyFrom_L10  nf xq3 mq2 = some (v, m') → Fr [13] [(12, 0)] mB m' := by
  intro nf
  induction nf with
  | zero =>
    intro xq3 mq2 hf hF
    rw [F_Bk_copyFrom_L10] at hF
    cases hF
  | succ nfq4 ih =>
    intro xq3 mq2 hf hF
    rw [F_Bk_copyFrom_L10] at hF
    rcases if_ex hF with hF | hF
    · cases hF
      exact hf
    · obtain ⟨-, hF⟩ := ckB_ex hF
      obtain ⟨xq7, exq7, hF⟩ := lt_ex hF
      obtain ⟨-, hF⟩ := ckB_ex hF
      obtain ⟨mq8, emq8, hF⟩ := lt_ex hF
      have hf := Fr_sI emq8 hf (Or.inl (by decide))
      obtain ⟨xq10, exq10, hF⟩ := lt_ex hF
      exact ih xq10 mq8 hf hF
set_option maxHeartbeats 4000000 in
theorem fr_Bk_copyFrom (m0 : Mem) (v : Unit) (m' : Mem) (hF : F_Bk_copyFrom m0 = some (v, m')) : Fr [13] [(12, 0)] m0 m' := by
  unfold F_Bk_copyFrom at hF
  have hf : Fr [13] [(12, 0)] m0 m0 := Fr_rf
  obtain ⟨mq1, emq1, hF⟩ := lt_ex hF
  have hf := Fr_sI emq1 hf (Or.inr (by decide))
  exact fr_Bk_copyFrom_L10  m0 _ _  1000000 (0 : Int32) mq1 hf hF
set_option maxHeartbeats 4000000 in
theorem fr_Gr_copyFrom_L95 (k131_9 : Mem → Option (Unit × Mem)) (mB : Mem) (v : Unit) (m' : Mem) (Jk131_9 : ∀ (b0 : Mem), Fr [4, 5, 6, 7, 9, 13] [(3, 0), (3, 1), (3, 2), (3, 3), (3, 4), (3, 5), (3, 6), (8, 0), (8, 1), (12, 0)] mB b0 → k131_9 b0 = some (v, m') → Fr [4, 5, 6, 7, 9, 13] [(3, 0), (3, 1), (3, 2), (3, 3), (3, 4), (3, 5), (3, 6), (8, 0), (8, 1), (12, 0)] mB m') : ∀ (nf : Nat) (xq17 : Int32) (mq16 : Mem), Fr [4, 5, 6, 7, 9, 13] [(3, 0), (3, 1), (3, 2), (3, 3), (3, 4), (3, 5), (3, 6), (8, 0), (8, 1), (12, 0)] mB mq16 → F_Gr_copyFrom_L95 k131_9 nf xq17 mq16 = some (v, m') → Fr [4, 5, 6, 7, 9, 13] [(3, 0), (3, 1), (3, 2), (3, 3), (3, 4), (3, 5), (3, 6), (8, 0), (8, 1), (12, 0)] mB m' := by
  intro nf
  induction nf with
  | zero =>
    intro xq17 mq16 hf hF
    rw [F_Gr_copyFrom_L95] at hF
    cases hF
  | succ nfq18 ih =>
    intro xq17 mq16 hf hF
    rw [F_Gr_copyFrom_L95] at hF
    rcases if_ex hF with hF | hF
    · exact Jk131_9 mq16 hf hF
    · obtain ⟨-, hF⟩ := ckB_ex hF
      obtain ⟨xq21, exq21, hF⟩ := lt_ex hF
      obtain ⟨-, hF⟩ := ckB_ex hF
      obtain ⟨mq22, emq22, hF⟩ := lt_ex hF
      have hf := Fr_sI emq22 hf (Or.inl (by decide))
      obtain ⟨-, hF⟩ := ckB_ex hF
      obtain ⟨xq25, exq25, hF⟩ := lt_ex hF
      obtain ⟨-, hF⟩ := ckB_ex hF
      obtain ⟨mq26, emq26, hF⟩ := lt_ex hF
      have hf := Fr_sI emq26 hf (Or.inl (by decide))
      obtain ⟨xq28, exq28, hF⟩ := lt_ex hF
      exact ih xq28 mq26 hf hF
set_option maxHeartbeats 4000000 in
theorem fr_Gr_copyFrom_L58 (k93_8 : Mem → Option (Unit × Mem)) (mB : Mem) (v : Unit) (m' : Mem) (Jk93_8 : ∀ (b0 : Mem), Fr [4, 5, 6, 7, 9, 13] [(3, 0), (3, 1), (3, 2), (3, 3), (3, 4), (3, 5), (3, 6), (8, 0), (8, 1), (12, 0)] mB b0 → k93_8 b0 = some (v, m') → Fr [4, 5, 6, 7, 9, 13] [(3, 0), (3, 1), (3, 2), (3, 3), (3, 4), (3, 5), (3, 6), (8, 0), (8, 1), (12, 0)] mB m') : ∀ (nf : Nat) (xq30 : Int32) (mq29 : Mem), Fr [4, 5, 6, 7, 9, 13] [(3, 0), (3, 1), (3, 2), (3, 3), (3, 4), (3, 5), (3, 6), (8, 0), (8, 1), (12, 0)] mB mq29 → F_Gr_copyFrom_L58 k93_8 nf xq30 mq29 = some (v, m') → Fr [4, 5, 6, 7, 9, 13] [(3, 0), (3, 1), (3, 2), (3, 3), (3, 4), (3, 5), (3, 6), (8, 0), (8, 1), (12, 0)] mB m' := by
  intro nf
  induction nf with
  | zero =>
    intro xq30 mq29 hf hF
    rw [F_Gr_copyFrom_L58] at hF
    cases hF
  | succ nfq31 ih =>
    intro xq30 mq29 hf hF
    rw [F_Gr_copyFrom_L58] at hF
    rcases if_ex hF with hF | hF
    · exact Jk93_8 mq29 hf hF
    · obtain ⟨-, hF⟩ := ckB_ex hF
      obtain ⟨xq34, exq34, hF⟩ := lt_ex hF
      obtain ⟨-, hF⟩ := ckB_ex hF
      obtain ⟨mq35, emq35, hF⟩ := lt_ex hF
      have hf := Fr_sI emq35 hf (Or.inl (by decide))
      obtain ⟨-, hF⟩ := ckB_ex hF
      obtain ⟨xq38, exq38, hF⟩ := lt_ex hF
      obtain ⟨-, hF⟩ := ckB_ex hF
      obtain ⟨mq39, emq39, hF⟩ := lt_ex hF
      have hf := Fr_sI emq39 hf (Or.inl (by decide))
      obtain ⟨xq41, exq41, hF⟩ := lt_ex hF
      exact ih xq41 mq39 hf hF
set_option maxHeartbeats 4000000 in
theorem fr_Gr_copyFrom (m0 : Mem) (v : Unit) (m' : Mem) (hF : F_Gr_copyFrom m0 = some (v, m')) : Fr [4, 5, 6, 7, 9, 13] [(3, 0), (3, 1), (3, 2), (3, 3), (3, 4), (3, 5), (3, 6), (8, 0), (8, 1), (12, 0)] m0 m' := by
  unfold F_Gr_copyFrom at hF
  have hf : Fr [4, 5, 6, 7, 9, 13] [(3, 0), (3, 1), (3, 2), (3, 3), (3, 4), (3, 5), (3, 6), (8, 0), (8, 1), (12, 0)] m0 m0 := Fr_rf
  obtain ⟨mq1, emq1, hF⟩ := lt_ex hF
  have hf := Fr_sI emq1 hf (Or.inr (by decide))
  obtain ⟨mq2, emq2, hF⟩ := lt_ex hF
  have hf := Fr_sI emq2 hf (Or.inr (by decide))
  obtain ⟨mq3, emq3, hF⟩ := lt_ex hF
  have hf := Fr_sI emq3 hf (Or.inr (by decide))
  obtain ⟨mq4, emq4, hF⟩ := lt_ex hF
  have hf := Fr_sI emq4 hf (Or.inr (by decide))
  obtain ⟨mq5, emq5, hF⟩ := lt_ex hF
  have hf := Fr_sI emq5 hf (Or.inr (by decide))
  obtain ⟨mq6, emq6, hF⟩ := lt_ex hF
  have hf := Fr_sI emq6 hf (Or.inr (by decide))
  obtain ⟨mq7, emq7, hF⟩ := lt_ex hF
  have hf := Fr_sI emq7 hf (Or.inr (by decide))
  obtain ⟨k93_8, ek93_8, hF⟩ := lt_ex hF
  have Jk93_8 : ∀ (mq8 : Mem), Fr [4, 5, 6, 7, 9, 13] [(3, 0), (3, 1), (3, 2), (3, 3), (3, 4), (3, 5), (3, 6), (8, 0), (8, 1), (12, 0)] m0 mq8 → k93_8 mq8 = some (v, m') → Fr [4, 5, 6, 7, 9, 13] [(3, 0), (3, 1), (3, 2), (3, 3), (3, 4), (3, 5), (3, 6), (8, 0), (8, 1), (12, 0)] m0 m' := by
    intro mq8 hf hF
    rw [ek93_8] at hF
    obtain ⟨k131_9, ek131_9, hF⟩ := lt_ex hF
    have Jk131_9 : ∀ (mq9 : Mem), Fr [4, 5, 6, 7, 9, 13] [(3, 0), (3, 1), (3, 2), (3, 3), (3, 4), (3, 5), (3, 6), (8, 0), (8, 1), (12, 0)] m0 mq9 → k131_9 mq9 = some (v, m') → Fr [4, 5, 6, 7, 9, 13] [(3, 0), (3, 1), (3, 2), (3, 3), (3, 4), (3, 5), (3, 6), (8, 0), (8, 1), (12, 0)] m0 m' := by
      intro mq9 hf hF
      rw [ek131_9] at hF
      obtain ⟨u_, mq10, hz, hF⟩ := bnd_ex hF
      have hf := Fr_tr hf (fr_Lw_copyFrom mq9 _ _ hz) (by decide) (by decide)
      obtain ⟨u_, mq13, hz, hF⟩ := bnd_ex hF
      have hf := Fr_tr hf (fr_Bk_copyFrom mq10 _ _ hz) (by decide) (by decide)
      cases hF
      exact hf
    exact fr_Gr_copyFrom_L95 k131_9 m0 _ _ Jk131_9 1000000 (0 : Int32) mq8 hf hF
  exact fr_Gr_copyFrom_L58 k93_8 m0 _ _ Jk93_8 1000000 (0 : Int32) mq7 hf hF
set_option maxHeartbeats 4000000 in
theorem fr_Ma_copyFrom_2_L82  (mB : Mem) (v : Unit) (m' : Mem) : ∀ (nf : Nat) (xq12 : Int32) (mq11 : Mem), Fr [17] [(16, 0), (16, 1), (16, 2), (16, 3), (16, 4), (16, 5), (16, 6), (16, 7), (16, 8), (16, 9)] mB mq11 → F_Ma_copyFrom_2_L82  nf xq12 mq11 = some (v, m') → Fr [17] [(16, 0), (16, 1), (16, 2), (16, 3), (16, 4), (16, 5), (16, 6), (16, 7), (16, 8), (16, 9)] mB m' := by
  intro nf
  induction nf with
  | zero =>
    intro xq12 mq11 hf hF
    rw [F_Ma_copyFrom_2_L82] at hF
    cases hF
  | succ nfq13 ih =>
    intro xq12 mq11 hf hF
    rw [F_Ma_copyFrom_2_L82] at hF
    rcases if_ex hF with hF | hF
    · cases hF
      exact hf
    · obtain ⟨-, hF⟩ := ckB_ex hF
      obtain ⟨xq16, exq16, hF⟩ := lt_ex hF
      obtain ⟨-, hF⟩ := ckB_ex hF
      obtain ⟨mq17, emq17, hF⟩ := lt_ex hF
      have hf := Fr_sI emq17 hf (Or.inl (by decide))
      obtain ⟨xq19, exq19, hF⟩ := lt_ex hF
      exact ih xq19 mq17 hf hF
set_option maxHeartbeats 4000000 in
theorem fr_Ma_copyFrom_2 (m0 : Mem) (v : Unit) (m' : Mem) (hF : F_Ma_copyFrom_2 m0 = some (v, m')) : Fr [17] [(16, 0), (16, 1), (16, 2), (16, 3), (16, 4), (16, 5), (16, 6), (16, 7), (16, 8), (16, 9)] m0 m' := by
  unfold F_Ma_copyFrom_2 at hF
  have hf : Fr [17] [(16, 0), (16, 1), (16, 2), (16, 3), (16, 4), (16, 5), (16, 6), (16, 7), (16, 8), (16, 9)] m0 m0 := Fr_rf
  obtain ⟨mq1, emq1, hF⟩ := lt_ex hF
  have hf := Fr_sI emq1 hf (Or.inr (by decide))
  obtain ⟨mq2, emq2, hF⟩ := lt_ex hF
  have hf := Fr_sI emq2 hf (Or.inr (by decide))
  obtain ⟨mq3, emq3, hF⟩ := lt_ex hF
  have hf := Fr_sI emq3 hf (Or.inr (by decide))
  obtain ⟨mq4, emq4, hF⟩ := lt_ex hF
  have hf := Fr_sI emq4 hf (Or.inr (by decide))
  obtain ⟨mq5, emq5, hF⟩ := lt_ex hF
  have hf := Fr_sI emq5 hf (Or.inr (by decide))
  obtain ⟨mq6, emq6, hF⟩ := lt_ex hF
  have hf := Fr_sZ emq6 hf (Or.inr (by decide))
  obtain ⟨mq7, emq7, hF⟩ := lt_ex hF
  have hf := Fr_sZ emq7 hf (Or.inr (by decide))
  obtain ⟨mq8, emq8, hF⟩ := lt_ex hF
  have hf := Fr_sI emq8 hf (Or.inr (by decide))
  obtain ⟨mq9, emq9, hF⟩ := lt_ex hF
  have hf := Fr_sI emq9 hf (Or.inr (by decide))
  obtain ⟨mq10, emq10, hF⟩ := lt_ex hF
  have hf := Fr_sI emq10 hf (Or.inr (by decide))
  exact fr_Ma_copyFrom_2_L82  m0 _ _  1000000 (0 : Int32) mq10 hf hF
set_option maxHeartbeats 4000000 in
theorem fr_Gr_forgetLevels_L2  (mB : Mem) (v : Unit) (m' : Mem) : ∀ (nf : Nat) (xq2 : Int32) (mq1 : Mem), Fr [14] [] mB mq1 → F_Gr_forgetLevels_L2  nf xq2 mq1 = some (v, m') → Fr [14] [] mB m' := by
  intro nf
  induction nf with
  | zero =>
    intro xq2 mq1 hf hF
    rw [F_Gr_forgetLevels_L2] at hF
    cases hF
  | succ nfq3 ih =>
    intro xq2 mq1 hf hF
    rw [F_Gr_forgetLevels_L2] at hF
    rcases if_ex hF with hF | hF
    · cases hF
      exact hf
    · obtain ⟨-, hF⟩ := ckB_ex hF
      obtain ⟨mq5, emq5, hF⟩ := lt_ex hF
      have hf := Fr_sI emq5 hf (Or.inl (by decide))
      obtain ⟨xq7, exq7, hF⟩ := lt_ex hF
      exact ih xq7 mq5 hf hF
set_option maxHeartbeats 4000000 in
theorem fr_Gr_forgetLevels (m0 : Mem) (v : Unit) (m' : Mem) (hF : F_Gr_forgetLevels m0 = some (v, m')) : Fr [14] [] m0 m' := by
  unfold F_Gr_forgetLevels at hF
  have hf : Fr [14] [] m0 m0 := Fr_rf
  exact fr_Gr_forgetLevels_L2  m0 _ _  1000000 (0 : Int32) m0 hf hF
set_option maxHeartbeats 4000000 in
theorem fr_Od_forget (m0 : Mem) (v : Unit) (m' : Mem) (hF : F_Od_forget m0 = some (v, m')) : Fr [] [(2, 3), (2, 7), (2, 8)] m0 m' := by
  unfold F_Od_forget at hF
  have hf : Fr [] [(2, 3), (2, 7), (2, 8)] m0 m0 := Fr_rf
  obtain ⟨mq1, emq1, hF⟩ := lt_ex hF
  have hf := Fr_sZ emq1 hf (Or.inr (by decide))
  obtain ⟨mq2, emq2, hF⟩ := lt_ex hF
  have hf := Fr_sL emq2 hf (Or.inr (by decide))
  obtain ⟨mq3, emq3, hF⟩ := lt_ex hF
  have hf := Fr_sL emq3 hf (Or.inr (by decide))
  cases hF
  exact hf
set_option maxHeartbeats 4000000 in
theorem fr_Pa_clearAll (m0 : Mem) (v : Unit) (m' : Mem) (hF : F_Pa_clearAll m0 = some (v, m')) : Fr [] [(20, 0)] m0 m' := by
  unfold F_Pa_clearAll at hF
  have hf : Fr [] [(20, 0)] m0 m0 := Fr_rf
  obtain ⟨mq1, emq1, hF⟩ := lt_ex hF
  have hf := Fr_sI emq1 hf (Or.inr (by decide))
  cases hF
  exact hf
set_option maxHeartbeats 4000000 in
theorem fr_T_startAfresh (m0 : Mem) (v : Unit) (m' : Mem) (hF : F_T_startAfresh m0 = some (v, m')) : Fr [14] [(2, 3), (2, 7), (2, 8), (20, 0)] m0 m' := by
  unfold F_T_startAfresh at hF
  have hf : Fr [14] [(2, 3), (2, 7), (2, 8), (20, 0)] m0 m0 := Fr_rf
  obtain ⟨u_, mq1, hz, hF⟩ := bnd_ex hF
  have hf := Fr_tr hf (fr_Gr_forgetLevels m0 _ _ hz) (by decide) (by decide)
  obtain ⟨u_, mq4, hz, hF⟩ := bnd_ex hF
  have hf := Fr_tr hf (fr_Od_forget mq1 _ _ hz) (by decide) (by decide)
  obtain ⟨u_, mq7, hz, hF⟩ := bnd_ex hF
  have hf := Fr_tr hf (fr_Pa_clearAll mq4 _ _ hz) (by decide) (by decide)
  cases hF
  exact hf
set_option maxHeartbeats 4000000 in
theorem fr_T_back (m0 : Mem) (v : Bool) (m' : Mem) (hF : F_T_back m0 = some (v, m')) : Fr [4, 5, 6, 7, 9, 13, 14, 17] [(2, 3), (2, 7), (2, 8), (3, 0), (3, 1), (3, 2), (3, 3), (3, 4), (3, 5), (3, 6), (8, 0), (8, 1), (12, 0), (16, 0), (16, 1), (16, 2), (16, 3), (16, 4), (16, 5), (16, 6), (16, 7), (16, 8), (16, 9), (20, 0)] m0 m' := by
  unfold F_T_back at hF
  have hf : Fr [4, 5, 6, 7, 9, 13, 14, 17] [(2, 3), (2, 7), (2, 8), (3, 0), (3, 1), (3, 2), (3, 3), (3, 4), (3, 5), (3, 6), (8, 0), (8, 1), (12, 0), (16, 0), (16, 1), (16, 2), (16, 3), (16, 4), (16, 5), (16, 6), (16, 7), (16, 8), (16, 9), (20, 0)] m0 m0 := Fr_rf
  rcases if_ex hF with hF | hF
  · obtain ⟨u_, mq1, hz, hF⟩ := bnd_ex hF
    have hf := Fr_tr hf (fr_Gr_copyFrom m0 _ _ hz) (by decide) (by decide)
    obtain ⟨u_, mq4, hz, hF⟩ := bnd_ex hF
    have hf := Fr_tr hf (fr_Ma_copyFrom_2 mq1 _ _ hz) (by decide) (by decide)
    obtain ⟨u_, mq7, hz, hF⟩ := bnd_ex hF
    have hf := Fr_tr hf (fr_T_startAfresh mq4 _ _ hz) (by decide) (by decide)
    cases hF
    exact hf
  · cases hF
    exact hf
set_option maxHeartbeats 4000000 in
theorem fr_T_useTape (m0 : Mem) (v : Int32) (m' : Mem) (hF : F_T_useTape m0 = some (v, m')) : Fr [] [(0, 1)] m0 m' := by
  unfold F_T_useTape at hF
  have hf : Fr [] [(0, 1)] m0 m0 := Fr_rf
  obtain ⟨xq1, exq1, hF⟩ := lt_ex hF
  obtain ⟨mq2, emq2, hF⟩ := lt_ex hF
  have hf := Fr_sI emq2 hf (Or.inr (by decide))
  cases hF
  exact hf
set_option maxHeartbeats 4000000 in
theorem fr_T_tapeIsBelow_L2 (a1 : Int32) (a2 : Int32) (mB : Mem) (v : Bool) (m' : Mem) : ∀ (nf : Nat) (xq2 : Int32) (mq1 : Mem), Fr [] [] mB mq1 → F_T_tapeIsBelow_L2 a1 a2 nf xq2 mq1 = some (v, m') → Fr [] [] mB m' := by
  intro nf
  induction nf with
  | zero =>
    intro xq2 mq1 hf hF
    rw [F_T_tapeIsBelow_L2] at hF
    cases hF
  | succ nfq3 ih =>
    intro xq2 mq1 hf hF
    rw [F_T_tapeIsBelow_L2] at hF
    rcases if_ex hF with hF | hF
    · cases hF
      exact hf
    · rcases if_ex hF with hF | hF
      · cases hF
        exact hf
      · obtain ⟨-, hF⟩ := ckB_ex hF
        obtain ⟨xq6, exq6, hF⟩ := lt_ex hF
        rcases if_ex hF with hF | hF
        · obtain ⟨xq7, exq7, hF⟩ := lt_ex hF
          exact ih xq7 mq1 hf hF
        · cases hF
          exact hf
set_option maxHeartbeats 4000000 in
theorem fr_T_tapeIsBelow (a1 : Int32) (a2 : Int32) (m0 : Mem) (v : Bool) (m' : Mem) (hF : F_T_tapeIsBelow a1 a2 m0 = some (v, m')) : Fr [] [] m0 m' := by
  unfold F_T_tapeIsBelow at hF
  have hf : Fr [] [] m0 m0 := Fr_rf
  exact fr_T_tapeIsBelow_L2 a1 a2 m0 _ _  1000000 (0 : Int32) m0 hf hF
set_option maxHeartbeats 4000000 in
theorem fr_T_tapeIsMornings_L19 (a1 : Int32) (mB : Mem) (v : Bool) (m' : Mem) : ∀ (nf : Nat) (xq5 : Int32) (mq4 : Mem), Fr [] [] mB mq4 → F_T_tapeIsMornings_L19 a1 nf xq5 mq4 = some (v, m') → Fr [] [] mB m' := by
  intro nf
  induction nf with
  | zero =>
    intro xq5 mq4 hf hF
    rw [F_T_tapeIsMornings_L19] at hF
    cases hF
  | succ nfq6 ih =>
    intro xq5 mq4 hf hF
    rw [F_T_tapeIsMornings_L19] at hF
    rcases if_ex hF with hF | hF
    · cases hF
      exact hf
    · rcases if_ex hF with hF | hF
      · cases hF
        exact hf
      · obtain ⟨-, hF⟩ := ckB_ex hF
        obtain ⟨xq9, exq9, hF⟩ := lt_ex hF
        rcases if_ex hF with hF | hF
        · obtain ⟨xq10, exq10, hF⟩ := lt_ex hF
          exact ih xq10 mq4 hf hF
        · cases hF
          exact hf
set_option maxHeartbeats 4000000 in
theorem fr_T_tapeIsMornings (a1 : Int32) (m0 : Mem) (v : Bool) (m' : Mem) (hF : F_T_tapeIsMornings a1 m0 = some (v, m')) : Fr [] [] m0 m' := by
  unfold F_T_tapeIsMornings at hF
  have hf : Fr [] [] m0 m0 := Fr_rf
  rcases if_ex hF with hF | hF
  · obtain ⟨zq3, mq1, hz, hF⟩ := bnd_ex hF
    have hf := Fr_tr hf (fr_T_tapeIsBelow a1 (4 : Int32) m0 _ _ hz) (by decide) (by decide)
    rcases if_ex hF with hF | hF
    · exact fr_T_tapeIsMornings_L19 a1 m0 _ _  1000000 (3 : Int32) mq1 hf hF
    · cases hF
      exact hf
  · cases hF
    exact hf
set_option maxHeartbeats 4000000 in
theorem fr_Mo_signAt (a1 : Int32) (a2 : Int32) (m0 : Mem) (v : Int32) (m' : Mem) (hF : F_Mo_signAt a1 a2 m0 = some (v, m')) : Fr [] [] m0 m' := by
  unfold F_Mo_signAt at hF
  have hf : Fr [] [] m0 m0 := Fr_rf
  obtain ⟨xq1, exq1, hF⟩ := lt_ex hF
  rcases if_ex hF with hF | hF
  · cases hF
    exact hf
  · rcases if_ex hF with hF | hF
    · obtain ⟨-, hF⟩ := ckB_ex hF
      obtain ⟨xq3, exq3, hF⟩ := lt_ex hF
      cases hF
      exact hf
    · cases hF
      exact hf
set_option maxHeartbeats 4000000 in
theorem fr_Mo_sort_L35 (a2 : Int32) (a3 : Int32) (a4 : Int32) (mB : Mem) (v : Unit) (m' : Mem) : ∀ (nf : Nat) (xq3 : Int32) (mq2 : Mem), Fr [62, 63] [] mB mq2 → F_Mo_sort_L35 a2 a3 a4 nf xq3 mq2 = some (v, m') → Fr [62, 63] [] mB m' := by
  intro nf
  induction nf with
  | zero =>
    intro xq3 mq2 hf hF
    rw [F_Mo_sort_L35] at hF
    cases hF
  | succ nfq4 ih =>
    intro xq3 mq2 hf hF
    rw [F_Mo_sort_L35] at hF
    rcases if_ex hF with hF | hF
    · cases hF
      exact hf
    · rcases if_ex hF with hF | hF
      · cases hF
        exact hf
      · obtain ⟨xq8, mq6, hz, hF⟩ := bnd_ex hF
        have hf := Fr_tr hf (fr_Mo_signAt xq3 a3 mq2 _ _ hz) (by decide) (by decide)
        obtain ⟨k79_10, ek79_10, hF⟩ := lt_ex hF
        have Jk79_10 : ∀ (xq10 : Int32) (mq9 : Mem), Fr [62, 63] [] mB mq9 → k79_10 xq10 mq9 = some (v, m') → Fr [62, 63] [] mB m' := by
          intro xq10 mq9 hf hF
          rw [ek79_10] at hF
          obtain ⟨xq11, exq11, hF⟩ := lt_ex hF
          obtain ⟨k144_12, ek144_12, hF⟩ := lt_ex hF
          have Jk144_12 : ∀ (mq12 : Mem), Fr [62, 63] [] mB mq12 → k144_12 mq12 = some (v, m') → Fr [62, 63] [] mB m' := by
            intro mq12 hf hF
            rw [ek144_12] at hF
            obtain ⟨xq13, exq13, hF⟩ := lt_ex hF
            exact ih xq13 mq12 hf hF
          rcases if_ex hF with hF | hF
          · exact Jk144_12 mq9 hf hF
          · rcases if_ex hF with hF | hF
            · exact Jk144_12 mq9 hf hF
            · obtain ⟨-, hF⟩ := ckB_ex hF
              obtain ⟨xq15, exq15, hF⟩ := lt_ex hF
              obtain ⟨-, hF⟩ := ckB_ex hF
              obtain ⟨xq17, exq17, hF⟩ := lt_ex hF
              obtain ⟨k117_19, ek117_19, hF⟩ := lt_ex hF
              have Jk117_19 : ∀ (zq19 : Bool) (mq18 : Mem), Fr [62, 63] [] mB mq18 → k117_19 zq19 mq18 = some (v, m') → Fr [62, 63] [] mB m' := by
                intro zq19 mq18 hf hF
                rw [ek117_19] at hF
                obtain ⟨-, hF⟩ := ckB_ex hF
                obtain ⟨mq20, emq20, hF⟩ := lt_ex hF
                have hf := Fr_sI emq20 hf (Or.inl (by decide))
                obtain ⟨-, hF⟩ := ckB_ex hF
                obtain ⟨xq23, exq23, hF⟩ := lt_ex hF
                obtain ⟨-, hF⟩ := ckB_ex hF
                obtain ⟨xq25, exq25, hF⟩ := lt_ex hF
                obtain ⟨k142_27, ek142_27, hF⟩ := lt_ex hF
                have Jk142_27 : ∀ (zq27 : Bool) (mq26 : Mem), Fr [62, 63] [] mB mq26 → k142_27 zq27 mq26 = some (v, m') → Fr [62, 63] [] mB m' := by
                  intro zq27 mq26 hf hF
                  rw [ek142_27] at hF
                  obtain ⟨-, hF⟩ := ckB_ex hF
                  obtain ⟨mq28, emq28, hF⟩ := lt_ex hF
                  have hf := Fr_sI emq28 hf (Or.inl (by decide))
                  exact Jk144_12 mq28 hf hF
                rcases if_ex hF with hF | hF
                · exact Jk142_27 false mq20 hf hF
                · exact Jk142_27 true mq20 hf hF
              rcases if_ex hF with hF | hF
              · exact Jk117_19 true mq9 hf hF
              · exact Jk117_19 false mq9 hf hF
        rcases if_ex hF with hF | hF
        · exact Jk79_10 (0 : Int32) mq6 hf hF
        · obtain ⟨xq32, mq30, hz, hF⟩ := bnd_ex hF
          have hf := Fr_tr hf (fr_Mo_signAt xq3 a4 mq6 _ _ hz) (by decide) (by decide)
          exact Jk79_10 ((4 : Int32) * xq32) mq30 hf hF
set_option maxHeartbeats 4000000 in
theorem fr_Mo_sort_L3 (k32_1 : Mem → Option (Unit × Mem)) (mB : Mem) (v : Unit) (m' : Mem) (Jk32_1 : ∀ (b0 : Mem), Fr [62, 63] [] mB b0 → k32_1 b0 = some (v, m') → Fr [62, 63] [] mB m') : ∀ (nf : Nat) (xq34 : Int32) (mq33 : Mem), Fr [62, 63] [] mB mq33 → F_Mo_sort_L3 k32_1 nf xq34 mq33 = some (v, m') → Fr [62, 63] [] mB m' := by
  intro nf
  induction nf with
  | zero =>
    intro xq34 mq33 hf hF
    rw [F_Mo_sort_L3] at hF
    cases hF
  | succ nfq35 ih =>
    intro xq34 mq33 hf hF
    rw [F_Mo_sort_L3] at hF
    rcases if_ex hF with hF | hF
    · exact Jk32_1 mq33 hf hF
    · obtain ⟨-, hF⟩ := ckB_ex hF
      obtain ⟨mq37, emq37, hF⟩ := lt_ex hF
      have hf := Fr_sI emq37 hf (Or.inl (by decide))
      obtain ⟨-, hF⟩ := ckB_ex hF
      obtain ⟨mq39, emq39, hF⟩ := lt_ex hF
      have hf := Fr_sI emq39 hf (Or.inl (by decide))
      obtain ⟨xq41, exq41, hF⟩ := lt_ex hF
      exact ih xq41 mq39 hf hF
set_option maxHeartbeats 4000000 in
theorem fr_Mo_sort (a2 : Int32) (a3 : Int32) (a4 : Int32) (m0 : Mem) (v : Unit) (m' : Mem) (hF : F_Mo_sort a2 a3 a4 m0 = some (v, m')) : Fr [62, 63] [] m0 m' := by
  unfold F_Mo_sort at hF
  have hf : Fr [62, 63] [] m0 m0 := Fr_rf
  obtain ⟨k32_1, ek32_1, hF⟩ := lt_ex hF
  have Jk32_1 : ∀ (mq1 : Mem), Fr [62, 63] [] m0 mq1 → k32_1 mq1 = some (v, m') → Fr [62, 63] [] m0 m' := by
    intro mq1 hf hF
    rw [ek32_1] at hF
    exact fr_Mo_sort_L35 a2 a3 a4 m0 _ _  1000000 (0 : Int32) mq1 hf hF
  exact fr_Mo_sort_L3 k32_1 m0 _ _ Jk32_1 1000000 (0 : Int32) m0 hf hF
set_option maxHeartbeats 4000000 in
theorem fr_Mo_toldRight_L4  (mB : Mem) (v : Int32) (m' : Mem) : ∀ (nf : Nat) (xq2 : Int32) (xq3 : Int32) (mq1 : Mem), Fr [] [] mB mq1 → F_Mo_toldRight_L4  nf xq2 xq3 mq1 = some (v, m') → Fr [] [] mB m' := by
  intro nf
  induction nf with
  | zero =>
    intro xq2 xq3 mq1 hf hF
    rw [F_Mo_toldRight_L4] at hF
    cases hF
  | succ nfq4 ih =>
    intro xq2 xq3 mq1 hf hF
    rw [F_Mo_toldRight_L4] at hF
    rcases if_ex hF with hF | hF
    · cases hF
      exact hf
    · obtain ⟨-, hF⟩ := ckB_ex hF
      obtain ⟨xq7, exq7, hF⟩ := lt_ex hF
      obtain ⟨-, hF⟩ := ckB_ex hF
      obtain ⟨xq9, exq9, hF⟩ := lt_ex hF
      obtain ⟨xq10, exq10, hF⟩ := lt_ex hF
      obtain ⟨xq11, exq11, hF⟩ := lt_ex hF
      exact ih xq10 xq11 mq1 hf hF
set_option maxHeartbeats 4000000 in
theorem fr_Mo_toldRight (m0 : Mem) (v : Int32) (m' : Mem) (hF : F_Mo_toldRight m0 = some (v, m')) : Fr [] [] m0 m' := by
  unfold F_Mo_toldRight at hF
  have hf : Fr [] [] m0 m0 := Fr_rf
  exact fr_Mo_toldRight_L4  m0 _ _  1000000 (0 : Int32) (0 : Int32) m0 hf hF
set_option maxHeartbeats 4000000 in
theorem fr_T_best_L33 (a1 : Bool) (xq3 : Int32) (k128_9 : Int32 → Int32 → Mem → Option ((Nat ⊕ Int32) × Mem)) (mB : Mem) (v : (Nat ⊕ Int32)) (m' : Mem) (Jk128_9 : ∀ (b0 : Int32) (b1 : Int32) (b2 : Mem), Fr [62, 63] [(0, 1)] mB b2 → k128_9 b0 b1 b2 = some (v, m') → Fr [62, 63] [(0, 1)] mB m') : ∀ (nf : Nat) (xq11 : Int32) (xq12 : Int32) (xq13 : Int32) (mq10 : Mem), Fr [62, 63] [(0, 1)] mB mq10 → F_T_best_L33 a1 xq3 k128_9 nf xq11 xq12 xq13 mq10 = some (v, m') → Fr [62, 63] [(0, 1)] mB m' := by
  intro nf
  induction nf with
  | zero =>
    intro xq11 xq12 xq13 mq10 hf hF
    rw [F_T_best_L33] at hF
    cases hF
  | succ nfq14 ih =>
    intro xq11 xq12 xq13 mq10 hf hF
    rw [F_T_best_L33] at hF
    rcases if_ex hF with hF | hF
    · exact Jk128_9 xq11 xq12 mq10 hf hF
    · obtain ⟨k59_17, ek59_17, hF⟩ := lt_ex hF
      have Jk59_17 : ∀ (xq17 : Int32) (mq16 : Mem), Fr [62, 63] [(0, 1)] mB mq16 → k59_17 xq17 mq16 = some (v, m') → Fr [62, 63] [(0, 1)] mB m' := by
        intro xq17 mq16 hf hF
        rw [ek59_17] at hF
        obtain ⟨k80_19, ek80_19, hF⟩ := lt_ex hF
        have Jk80_19 : ∀ (xq19 : Int32) (mq18 : Mem), Fr [62, 63] [(0, 1)] mB mq18 → k80_19 xq19 mq18 = some (v, m') → Fr [62, 63] [(0, 1)] mB m' := by
          intro xq19 mq18 hf hF
          rw [ek80_19] at hF
          obtain ⟨u_, mq20, hz, hF⟩ := bnd_ex hF
          have hf := Fr_tr hf (fr_Mo_sort xq3 xq17 xq19 mq18 _ _ hz) (by decide) (by decide)
          obtain ⟨xq25, mq23, hz, hF⟩ := bnd_ex hF
          have hf := Fr_tr hf (fr_Mo_toldRight mq20 _ _ hz) (by decide) (by decide)
          obtain ⟨k122_28, ek122_28, hF⟩ := lt_ex hF
          have Jk122_28 : ∀ (xq27 : Int32) (xq28 : Int32) (mq26 : Mem), Fr [62, 63] [(0, 1)] mB mq26 → k122_28 xq27 xq28 mq26 = some (v, m') → Fr [62, 63] [(0, 1)] mB m' := by
            intro xq27 xq28 mq26 hf hF
            rw [ek122_28] at hF
            obtain ⟨xq29, exq29, hF⟩ := lt_ex hF
            exact ih xq27 xq28 xq29 mq26 hf hF
          rcases if_ex hF with hF | hF
          · exact Jk122_28 xq11 xq12 mq23 hf hF
          · exact Jk122_28 xq13 xq25 mq23 hf hF
        rcases if_ex hF with hF | hF
        · rcases if_ex hF with hF | hF
          · exact Jk80_19 (1 : Int32) mq16 hf hF
          · exact Jk80_19 (2 : Int32) mq16 hf hF
        · exact Jk80_19 xq13 mq16 hf hF
      rcases if_ex hF with hF | hF
      · rcases if_ex hF with hF | hF
        · exact Jk59_17 (1 : Int32) mq10 hf hF
        · exact Jk59_17 (0 : Int32) mq10 hf hF
      · exact Jk59_17 xq13 mq10 hf hF
set_option maxHeartbeats 4000000 in
theorem fr_T_best (a1 : Bool) (a2 : Bool) (m0 : Mem) (v : (Nat ⊕ Int32)) (m' : Mem) (hF : F_T_best a1 a2 m0 = some (v, m')) : Fr [62, 63] [(0, 1)] m0 m' := by
  unfold F_T_best at hF
  have hf : Fr [62, 63] [(0, 1)] m0 m0 := Fr_rf
  obtain ⟨xq3, mq1, hz, hF⟩ := bnd_ex hF
  have hf := Fr_tr hf (fr_T_useTape m0 _ _ hz) (by decide) (by decide)
  obtain ⟨zq6, mq4, hz, hF⟩ := bnd_ex hF
  have hf := Fr_tr hf (fr_T_tapeIsMornings xq3 mq1 _ _ hz) (by decide) (by decide)
  rcases if_ex hF with hF | hF
  · obtain ⟨k128_9, ek128_9, hF⟩ := lt_ex hF
    have Jk128_9 : ∀ (xq8 : Int32) (xq9 : Int32) (mq7 : Mem), Fr [62, 63] [(0, 1)] m0 mq7 → k128_9 xq8 xq9 mq7 = some (v, m') → Fr [62, 63] [(0, 1)] m0 m' := by
      intro xq8 xq9 mq7 hf hF
      rw [ek128_9] at hF
      rcases if_ex hF with hF | hF
      · cases hF
        exact hf
      · cases hF
        exact hf
    exact fr_T_best_L33 a1 xq3 k128_9 m0 _ _ Jk128_9 1000000 (0 : Int32) (-1 : Int32) (0 : Int32) mq4 hf hF
  · cases hF
    exact hf
set_option maxHeartbeats 4000000 in
theorem fr_Ma_spot (m0 : Mem) (v : Int32) (m' : Mem) (hF : F_Ma_spot m0 = some (v, m')) : Fr [] [] m0 m' := by
  unfold F_Ma_spot at hF
  have hf : Fr [] [] m0 m0 := Fr_rf
  rcases if_ex hF with hF | hF
  · cases hF
    exact hf
  · cases hF
    exact hf
set_option maxHeartbeats 4000000 in
theorem fr_Od_waysFrom (a1 : Int32) (a2 : Int32) (a3 : Int32) (a4 : Int32) (m0 : Mem) (v : Int64) (m' : Mem) (hF : F_Od_waysFrom a1 a2 a3 a4 m0 = some (v, m')) : Fr [10, 11, 14, 15] [] m0 m' := by
  unfold F_Od_waysFrom at hF
  have hf : Fr [10, 11, 14, 15] [] m0 m0 := Fr_rf
  obtain ⟨yq3, mq1, hz, hF⟩ := bnd_ex hF
  have hf := Fr_tr hf (fr_Od_waysAt 40 a1 a2 a3 a4 m0 _ _ hz) (by decide) (by decide)
  cases hF
  exact hf
set_option maxHeartbeats 4000000 in
theorem fr_T_oddsFromHere (a1 : Int32) (a2 : Bool) (m0 : Mem) (v : (Nat ⊕ Int64)) (m' : Mem) (hF : F_T_oddsFromHere a1 a2 m0 = some (v, m')) : Fr [10, 11, 14, 15] [(2, 2), (2, 3), (2, 4), (2, 5), (2, 6)] m0 m' := by
  unfold F_T_oddsFromHere at hF
  have hf : Fr [10, 11, 14, 15] [(2, 2), (2, 3), (2, 4), (2, 5), (2, 6)] m0 m0 := Fr_rf
  rcases if_ex hF with hF | hF
  · cases hF
    exact hf
  · obtain ⟨k31_1, ek31_1, hF⟩ := lt_ex hF
    have Jk31_1 : ∀ (mq1 : Mem), Fr [10, 11, 14, 15] [(2, 2), (2, 3), (2, 4), (2, 5), (2, 6)] m0 mq1 → k31_1 mq1 = some (v, m') → Fr [10, 11, 14, 15] [(2, 2), (2, 3), (2, 4), (2, 5), (2, 6)] m0 m' := by
      intro mq1 hf hF
      rw [ek31_1] at hF
      cases hF
      exact hf
    rcases if_ex hF with hF | hF
    · exact Jk31_1 m0 hf hF
    · rcases if_ex hF with hF | hF
      · obtain ⟨u_, mq2, hz, hF⟩ := bnd_ex hF
        have hf := Fr_tr hf (fr_Od_ready (gI m0 16 0) (gI m0 3 5) a2 m0 _ _ hz) (by decide) (by decide)
        obtain ⟨k172_6, ek172_6, hF⟩ := lt_ex hF
        have Jk172_6 : ∀ (yq6 : Int64) (mq5 : Mem), Fr [10, 11, 14, 15] [(2, 2), (2, 3), (2, 4), (2, 5), (2, 6)] m0 mq5 → k172_6 yq6 mq5 = some (v, m') → Fr [10, 11, 14, 15] [(2, 2), (2, 3), (2, 4), (2, 5), (2, 6)] m0 m' := by
          intro yq6 mq5 hf hF
          rw [ek172_6] at hF
          obtain ⟨yq9, mq7, hz, hF⟩ := bnd_ex hF
          have hf := Fr_tr hf (fr_Od_part yq6 (gI mq5 16 3) a1 mq5 _ _ hz) (by decide) (by decide)
          cases hF
          exact hf
        rcases if_ex hF with hF | hF
        · obtain ⟨xq12, mq10, hz, hF⟩ := bnd_ex hF
          have hf := Fr_tr hf (fr_Ma_kind mq2 _ _ hz) (by decide) (by decide)
          obtain ⟨xq15, mq13, hz, hF⟩ := bnd_ex hF
          have hf := Fr_tr hf (fr_Ma_spot mq10 _ _ hz) (by decide) (by decide)
          obtain ⟨xq18, mq16, hz, hF⟩ := bnd_ex hF
          have hf := Fr_tr hf (fr_Ma_leadOf (gI mq13 16 0) mq13 _ _ hz) (by decide) (by decide)
          obtain ⟨yq21, mq19, hz, hF⟩ := bnd_ex hF
          have hf := Fr_tr hf (fr_Od_waysFrom (gI mq2 16 3) xq12 xq15 xq18 mq16 _ _ hz) (by decide) (by decide)
          exact Jk172_6 yq21 mq19 hf hF
        · obtain ⟨k125_23, ek125_23, hF⟩ := lt_ex hF
          have Jk125_23 : ∀ (yq23 : Int64) (mq22 : Mem), Fr [10, 11, 14, 15] [(2, 2), (2, 3), (2, 4), (2, 5), (2, 6)] m0 mq22 → k125_23 yq23 mq22 = some (v, m') → Fr [10, 11, 14, 15] [(2, 2), (2, 3), (2, 4), (2, 5), (2, 6)] m0 m' := by
            intro yq23 mq22 hf hF
            rw [ek125_23] at hF
            exact Jk172_6 yq23 mq22 hf hF
          rcases if_ex hF with hF | hF
          · exact Jk125_23 (0 : Int64) mq2 hf hF
          · obtain ⟨k115_25, ek115_25, hF⟩ := lt_ex hF
            have Jk115_25 : ∀ (zq25 : Bool) (mq24 : Mem), Fr [10, 11, 14, 15] [(2, 2), (2, 3), (2, 4), (2, 5), (2, 6)] m0 mq24 → k115_25 zq25 mq24 = some (v, m') → Fr [10, 11, 14, 15] [(2, 2), (2, 3), (2, 4), (2, 5), (2, 6)] m0 m' := by
              intro zq25 mq24 hf hF
              rw [ek115_25] at hF
              obtain ⟨yq28, mq26, hz, hF⟩ := bnd_ex hF
              have hf := Fr_tr hf (fr_Od_allTo zq25 (gI mq24 16 3) mq24 _ _ hz) (by decide) (by decide)
              exact Jk125_23 yq28 mq26 hf hF
            rcases if_ex hF with hF | hF
            · exact Jk115_25 true mq2 hf hF
            · exact Jk115_25 false mq2 hf hF
      · exact Jk31_1 m0 hf hF
set_option maxHeartbeats 4000000 in
theorem fr_T_blind (a1 : Int32) (m0 : Mem) (v : (Nat ⊕ Int64)) (m' : Mem) (hF : F_T_blind a1 m0 = some (v, m')) : Fr [10, 11, 14, 15] [(2, 2), (2, 3), (2, 4), (2, 5), (2, 6)] m0 m' := by
  unfold F_T_blind at hF
  have hf : Fr [10, 11, 14, 15] [(2, 2), (2, 3), (2, 4), (2, 5), (2, 6)] m0 m0 := Fr_rf
  rcases bndX_ex hF with ⟨ke, mq1, hz, hF⟩ | ⟨yq3, mq1, hz, hF⟩
  · cases hF
    exact Fr_tr hf (fr_T_oddsFromHere a1 true m0 _ _ hz) (by decide) (by decide)
  · have hf := Fr_tr hf (fr_T_oddsFromHere a1 true m0 _ _ hz) (by decide) (by decide)
    cases hF
    exact hf
set_option maxHeartbeats 4000000 in
theorem fr_Bk_cell (a1 : Int32) (a2 : Int32) (m0 : Mem) (v : Int32) (m' : Mem) (hF : F_Bk_cell a1 a2 m0 = some (v, m')) : Fr [] [] m0 m' := by
  unfold F_Bk_cell at hF
  have hf : Fr [] [] m0 m0 := Fr_rf
  obtain ⟨xq1, exq1, hF⟩ := lt_ex hF
  rcases if_ex hF with hF | hF
  · cases hF
    exact hf
  · rcases if_ex hF with hF | hF
    · obtain ⟨-, hF⟩ := ckB_ex hF
      obtain ⟨xq3, exq3, hF⟩ := lt_ex hF
      cases hF
      exact hf
    · cases hF
      exact hf
set_option maxHeartbeats 4000000 in
theorem fr_Bk_isSo (a1 : Int32) (a2 : Int32) (m0 : Mem) (v : Bool) (m' : Mem) (hF : F_Bk_isSo a1 a2 m0 = some (v, m')) : Fr [] [] m0 m' := by
  unfold F_Bk_isSo at hF
  have hf : Fr [] [] m0 m0 := Fr_rf
  obtain ⟨xq3, mq1, hz, hF⟩ := bnd_ex hF
  have hf := Fr_tr hf (fr_Bk_cell a1 (0 : Int32) m0 _ _ hz) (by decide) (by decide)
  obtain ⟨xq6, mq4, hz, hF⟩ := bnd_ex hF
  have hf := Fr_tr hf (fr_Bk_cell a1 (1 : Int32) mq1 _ _ hz) (by decide) (by decide)
  obtain ⟨xq9, mq7, hz, hF⟩ := bnd_ex hF
  have hf := Fr_tr hf (fr_Bk_cell a1 (2 : Int32) mq4 _ _ hz) (by decide) (by decide)
  rcases if_ex hF with hF | hF
  · rcases if_ex hF with hF | hF
    · cases hF
      exact hf
    · cases hF
      exact hf
  · rcases if_ex hF with hF | hF
    · rcases if_ex hF with hF | hF
      · rcases if_ex hF with hF | hF
        · cases hF
          exact hf
        · cases hF
          exact hf
      · cases hF
        exact hf
    · rcases if_ex hF with hF | hF
      · rcases if_ex hF with hF | hF
        · cases hF
          exact hf
        · cases hF
          exact hf
      · rcases if_ex hF with hF | hF
        · rcases if_ex hF with hF | hF
          · cases hF
            exact hf
          · cases hF
            exact hf
        · rcases if_ex hF with hF | hF
          · rcases if_ex hF with hF | hF
            · cases hF
              exact hf
            · cases hF
              exact hf
          · cases hF
            exact hf
set_option maxHeartbeats 4000000 in
theorem fr_Bk_tally_L4 (a1 : Int32) (mB : Mem) (v : Int32) (m' : Mem) : ∀ (nf : Nat) (xq2 : Int32) (xq3 : Int32) (mq1 : Mem), Fr [] [] mB mq1 → F_Bk_tally_L4 a1 nf xq2 xq3 mq1 = some (v, m') → Fr [] [] mB m' := by
  intro nf
  induction nf with
  | zero =>
    intro xq2 xq3 mq1 hf hF
    rw [F_Bk_tally_L4] at hF
    cases hF
  | succ nfq4 ih =>
    intro xq2 xq3 mq1 hf hF
    rw [F_Bk_tally_L4] at hF
    rcases if_ex hF with hF | hF
    · cases hF
      exact hf
    · obtain ⟨zq8, mq6, hz, hF⟩ := bnd_ex hF
      have hf := Fr_tr hf (fr_Bk_isSo xq3 a1 mq1 _ _ hz) (by decide) (by decide)
      obtain ⟨k27_10, ek27_10, hF⟩ := lt_ex hF
      have Jk27_10 : ∀ (zq10 : Bool) (mq9 : Mem), Fr [] [] mB mq9 → k27_10 zq10 mq9 = some (v, m') → Fr [] [] mB m' := by
        intro zq10 mq9 hf hF
        rw [ek27_10] at hF
        obtain ⟨xq11, exq11, hF⟩ := lt_ex hF
        obtain ⟨xq12, exq12, hF⟩ := lt_ex hF
        exact ih xq11 xq12 mq9 hf hF
      rcases if_ex hF with hF | hF
      · exact Jk27_10 true mq6 hf hF
      · exact Jk27_10 false mq6 hf hF
set_option maxHeartbeats 4000000 in
theorem fr_Bk_tally (a1 : Int32) (m0 : Mem) (v : Int32) (m' : Mem) (hF : F_Bk_tally a1 m0 = some (v, m')) : Fr [] [] m0 m' := by
  unfold F_Bk_tally at hF
  have hf : Fr [] [] m0 m0 := Fr_rf
  exact fr_Bk_tally_L4 a1 m0 _ _  1000000 (0 : Int32) (0 : Int32) m0 hf hF
set_option maxHeartbeats 4000000 in
theorem fr_T_book (a1 : Int32) (m0 : Mem) (v : (Nat ⊕ Int32)) (m' : Mem) (hF : F_T_book a1 m0 = some (v, m')) : Fr [] [] m0 m' := by
  unfold F_T_book at hF
  have hf : Fr [] [] m0 m0 := Fr_rf
  obtain ⟨k9_1, ek9_1, hF⟩ := lt_ex hF
  have Jk9_1 : ∀ (mq1 : Mem), Fr [] [] m0 mq1 → k9_1 mq1 = some (v, m') → Fr [] [] m0 m' := by
    intro mq1 hf hF
    rw [ek9_1] at hF
    cases hF
    exact hf
  rcases if_ex hF with hF | hF
  · exact Jk9_1 m0 hf hF
  · rcases if_ex hF with hF | hF
    · obtain ⟨xq4, mq2, hz, hF⟩ := bnd_ex hF
      have hf := Fr_tr hf (fr_Bk_tally a1 m0 _ _ hz) (by decide) (by decide)
      cases hF
      exact hf
    · exact Jk9_1 m0 hf hF
set_option maxHeartbeats 4000000 in
theorem fr_Ma_batting (m0 : Mem) (v : Int32) (m' : Mem) (hF : F_Ma_batting m0 = some (v, m')) : Fr [] [] m0 m' := by
  unfold F_Ma_batting at hF
  have hf : Fr [] [] m0 m0 := Fr_rf
  obtain ⟨xq3, mq1, hz, hF⟩ := bnd_ex hF
  have hf := Fr_tr hf (fr_Ma_kind m0 _ _ hz) (by decide) (by decide)
  obtain ⟨zq6, mq4, hz, hF⟩ := bnd_ex hF
  have hf := Fr_tr hf (fr_Od_firstBats xq3 mq1 _ _ hz) (by decide) (by decide)
  rcases if_ex hF with hF | hF
  · cases hF
    exact hf
  · cases hF
    exact hf
set_option maxHeartbeats 4000000 in
theorem fr_Ma_setLog (a1 : Int32) (a2 : Int32) (m0 : Mem) (v : Unit) (m' : Mem) (hF : F_Ma_setLog a1 a2 m0 = some (v, m')) : Fr [17] [] m0 m' := by
  unfold F_Ma_setLog at hF
  have hf : Fr [17] [] m0 m0 := Fr_rf
  obtain ⟨xq1, exq1, hF⟩ := lt_ex hF
  rcases if_ex hF with hF | hF
  · cases hF
    exact hf
  · rcases if_ex hF with hF | hF
    · cases hF
      exact hf
    · obtain ⟨-, hF⟩ := ckB_ex hF
      obtain ⟨mq2, emq2, hF⟩ := lt_ex hF
      have hf := Fr_sI emq2 hf (Or.inl (by decide))
      cases hF
      exact hf
set_option maxHeartbeats 4000000 in
theorem fr_Ma_judge (a1 : Int32) (m0 : Mem) (v : Unit) (m' : Mem) (hF : F_Ma_judge a1 m0 = some (v, m')) : Fr [] [(16, 4)] m0 m' := by
  unfold F_Ma_judge at hF
  have hf : Fr [] [(16, 4)] m0 m0 := Fr_rf
  obtain ⟨xq3, mq1, hz, hF⟩ := bnd_ex hF
  have hf := Fr_tr hf (fr_Ma_batting m0 _ _ hz) (by decide) (by decide)
  obtain ⟨k29_4, ek29_4, hF⟩ := lt_ex hF
  have Jk29_4 : ∀ (mq4 : Mem), Fr [] [(16, 4)] m0 mq4 → k29_4 mq4 = some (v, m') → Fr [] [(16, 4)] m0 m' := by
    intro mq4 hf hF
    rw [ek29_4] at hF
    obtain ⟨k68_5, ek68_5, hF⟩ := lt_ex hF
    have Jk68_5 : ∀ (mq5 : Mem), Fr [] [(16, 4)] m0 mq5 → k68_5 mq5 = some (v, m') → Fr [] [(16, 4)] m0 m' := by
      intro mq5 hf hF
      rw [ek68_5] at hF
      rcases if_ex hF with hF | hF
      · cases hF
        exact hf
      · obtain ⟨mq6, emq6, hF⟩ := lt_ex hF
        have hf := Fr_sI emq6 hf (Or.inr (by decide))
        cases hF
        exact hf
    rcases if_ex hF with hF | hF
    · rcases if_ex hF with hF | hF
      · obtain ⟨xq9, mq7, hz, hF⟩ := bnd_ex hF
        have hf := Fr_tr hf (fr_Ma_leadOf xq3 mq4 _ _ hz) (by decide) (by decide)
        obtain ⟨k62_11, ek62_11, hF⟩ := lt_ex hF
        have Jk62_11 : ∀ (xq11 : Int32) (mq10 : Mem), Fr [] [(16, 4)] m0 mq10 → k62_11 xq11 mq10 = some (v, m') → Fr [] [(16, 4)] m0 m' := by
          intro xq11 mq10 hf hF
          rw [ek62_11] at hF
          obtain ⟨mq12, emq12, hF⟩ := lt_ex hF
          have hf := Fr_sI emq12 hf (Or.inr (by decide))
          cases hF
          exact hf
        rcases if_ex hF with hF | hF
        · exact Jk62_11 (2 : Int32) mq7 hf hF
        · exact Jk62_11 ((1 : Int32) - xq3) mq7 hf hF
      · exact Jk68_5 mq4 hf hF
    · exact Jk68_5 mq4 hf hF
  rcases if_ex hF with hF | hF
  · obtain ⟨xq15, mq13, hz, hF⟩ := bnd_ex hF
    have hf := Fr_tr hf (fr_Ma_leadOf xq3 mq1 _ _ hz) (by decide) (by decide)
    rcases if_ex hF with hF | hF
    · exact Jk29_4 mq13 hf hF
    · obtain ⟨mq16, emq16, hF⟩ := lt_ex hF
      have hf := Fr_sI emq16 hf (Or.inr (by decide))
      cases hF
      exact hf
  · exact Jk29_4 mq1 hf hF
set_option maxHeartbeats 4000000 in
theorem fr_Ma_beginNext (m0 : Mem) (v : Unit) (m' : Mem) (hF : F_Ma_beginNext m0 = some (v, m')) : Fr [] [(16, 1), (16, 2), (16, 6)] m0 m' := by
  unfold F_Ma_beginNext at hF
  have hf : Fr [] [(16, 1), (16, 2), (16, 6)] m0 m0 := Fr_rf
  obtain ⟨mq1, emq1, hF⟩ := lt_ex hF
  have hf := Fr_sI emq1 hf (Or.inr (by decide))
  obtain ⟨mq2, emq2, hF⟩ := lt_ex hF
  have hf := Fr_sI emq2 hf (Or.inr (by decide))
  obtain ⟨mq3, emq3, hF⟩ := lt_ex hF
  have hf := Fr_sZ emq3 hf (Or.inr (by decide))
  cases hF
  exact hf
set_option maxHeartbeats 4000000 in
theorem fr_Ma_playSession (a2 : Int32) (a3 : Bool) (m0 : Mem) (v : Unit) (m' : Mem) (hF : F_Ma_playSession a2 a3 m0 = some (v, m')) : Fr [10, 11, 14, 17] [(16, 1), (16, 2), (16, 3), (16, 4), (16, 6), (16, 8), (16, 9)] m0 m' := by
  unfold F_Ma_playSession at hF
  have hf : Fr [10, 11, 14, 17] [(16, 1), (16, 2), (16, 3), (16, 4), (16, 6), (16, 8), (16, 9)] m0 m0 := Fr_rf
  obtain ⟨xq3, mq1, hz, hF⟩ := bnd_ex hF
  have hf := Fr_tr hf (fr_Ma_batting m0 _ _ hz) (by decide) (by decide)
  obtain ⟨xq6, mq4, hz, hF⟩ := bnd_ex hF
  have hf := Fr_tr hf (fr_Gr_levelOf (gI mq1 16 3) (gI mq1 16 1) xq3 mq1 _ _ hz) (by decide) (by decide)
  obtain ⟨k41_8, ek41_8, hF⟩ := lt_ex hF
  have Jk41_8 : ∀ (xq8 : Int32) (mq7 : Mem), Fr [10, 11, 14, 17] [(16, 1), (16, 2), (16, 3), (16, 4), (16, 6), (16, 8), (16, 9)] m0 mq7 → k41_8 xq8 mq7 = some (v, m') → Fr [10, 11, 14, 17] [(16, 1), (16, 2), (16, 3), (16, 4), (16, 6), (16, 8), (16, 9)] m0 m' := by
    intro xq8 mq7 hf hF
    rw [ek41_8] at hF
    obtain ⟨xq11, mq9, hz, hF⟩ := bnd_ex hF
    have hf := Fr_tr hf (fr_Gr_outsIn (gI mq7 16 3) xq6 a2 mq7 _ _ hz) (by decide) (by decide)
    obtain ⟨k70_13, ek70_13, hF⟩ := lt_ex hF
    have Jk70_13 : ∀ (xq13 : Int32) (mq12 : Mem), Fr [10, 11, 14, 17] [(16, 1), (16, 2), (16, 3), (16, 4), (16, 6), (16, 8), (16, 9)] m0 mq12 → k70_13 xq13 mq12 = some (v, m') → Fr [10, 11, 14, 17] [(16, 1), (16, 2), (16, 3), (16, 4), (16, 6), (16, 8), (16, 9)] m0 m' := by
      intro xq13 mq12 hf hF
      rw [ek70_13] at hF
      obtain ⟨k100_14, ek100_14, hF⟩ := lt_ex hF
      have Jk100_14 : ∀ (mq14 : Mem), Fr [10, 11, 14, 17] [(16, 1), (16, 2), (16, 3), (16, 4), (16, 6), (16, 8), (16, 9)] m0 mq14 → k100_14 mq14 = some (v, m') → Fr [10, 11, 14, 17] [(16, 1), (16, 2), (16, 3), (16, 4), (16, 6), (16, 8), (16, 9)] m0 m' := by
        intro mq14 hf hF
        rw [ek100_14] at hF
        obtain ⟨mq15, emq15, hF⟩ := lt_ex hF
        have hf := Fr_sI emq15 hf (Or.inr (by decide))
        obtain ⟨mq16, emq16, hF⟩ := lt_ex hF
        have hf := Fr_sZ emq16 hf (Or.inr (by decide))
        obtain ⟨u_, mq17, hz, hF⟩ := bnd_ex hF
        have hf := Fr_tr hf (fr_Ma_setLog (0 : Int32) (gI mq16 16 1) mq16 _ _ hz) (by decide) (by decide)
        obtain ⟨u_, mq20, hz, hF⟩ := bnd_ex hF
        have hf := Fr_tr hf (fr_Ma_setLog (1 : Int32) xq3 mq17 _ _ hz) (by decide) (by decide)
        obtain ⟨u_, mq23, hz, hF⟩ := bnd_ex hF
        have hf := Fr_tr hf (fr_Ma_setLog (2 : Int32) xq6 mq20 _ _ hz) (by decide) (by decide)
        obtain ⟨u_, mq26, hz, hF⟩ := bnd_ex hF
        have hf := Fr_tr hf (fr_Ma_setLog (3 : Int32) a2 mq23 _ _ hz) (by decide) (by decide)
        obtain ⟨xq31, mq29, hz, hF⟩ := bnd_ex hF
        have hf := Fr_tr hf (fr_Ma_leadOf xq3 mq26 _ _ hz) (by decide) (by decide)
        obtain ⟨u_, mq32, hz, hF⟩ := bnd_ex hF
        have hf := Fr_tr hf (fr_Ma_setLog (4 : Int32) xq31 mq29 _ _ hz) (by decide) (by decide)
        obtain ⟨u_, mq35, hz, hF⟩ := bnd_ex hF
        have hf := Fr_tr hf (fr_Ma_setLog (5 : Int32) (gI mq32 16 2) mq32 _ _ hz) (by decide) (by decide)
        obtain ⟨u_, mq38, hz, hF⟩ := bnd_ex hF
        have hf := Fr_tr hf (fr_Ma_setLog (6 : Int32) xq8 mq35 _ _ hz) (by decide) (by decide)
        obtain ⟨mq41, emq41, hF⟩ := lt_ex hF
        have hf := Fr_sI emq41 hf (Or.inr (by decide))
        obtain ⟨k209_42, ek209_42, hF⟩ := lt_ex hF
        have Jk209_42 : ∀ (mq42 : Mem), Fr [10, 11, 14, 17] [(16, 1), (16, 2), (16, 3), (16, 4), (16, 6), (16, 8), (16, 9)] m0 mq42 → k209_42 mq42 = some (v, m') → Fr [10, 11, 14, 17] [(16, 1), (16, 2), (16, 3), (16, 4), (16, 6), (16, 8), (16, 9)] m0 m' := by
          intro mq42 hf hF
          rw [ek209_42] at hF
          obtain ⟨u_, mq43, hz, hF⟩ := bnd_ex hF
          have hf := Fr_tr hf (fr_Ma_judge (gI mq42 3 0) mq42 _ _ hz) (by decide) (by decide)
          cases hF
          exact hf
        rcases if_ex hF with hF | hF
        · rcases if_ex hF with hF | hF
          · exact Jk209_42 mq41 hf hF
          · obtain ⟨u_, mq46, hz, hF⟩ := bnd_ex hF
            have hf := Fr_tr hf (fr_Ma_beginNext mq41 _ _ hz) (by decide) (by decide)
            exact Jk209_42 mq46 hf hF
        · exact Jk209_42 mq41 hf hF
      rcases if_ex hF with hF | hF
      · obtain ⟨mq50, emq50, hF⟩ := lt_ex hF
        have hf := Fr_sI emq50 hf (Or.inr (by decide))
        exact Jk100_14 mq50 hf hF
      · obtain ⟨mq49, emq49, hF⟩ := lt_ex hF
        have hf := Fr_sI emq49 hf (Or.inr (by decide))
        exact Jk100_14 mq49 hf hF
    rcases if_ex hF with hF | hF
    · obtain ⟨xq51, exq51, hF⟩ := lt_ex hF
      exact Jk70_13 xq51 mq9 hf hF
    · exact Jk70_13 xq11 mq9 hf hF
  rcases if_ex hF with hF | hF
  · exact Jk41_8 (0 : Int32) mq4 hf hF
  · obtain ⟨xq54, mq52, hz, hF⟩ := bnd_ex hF
    have hf := Fr_tr hf (fr_Gr_runsIn (gI mq4 16 3) xq6 a2 mq4 _ _ hz) (by decide) (by decide)
    exact Jk41_8 xq54 mq52 hf hF
set_option maxHeartbeats 4000000 in
theorem fr_T_mustBeState (a1 : Int32) (a2 : Int32) (a3 : Int32) (a4 : Int32) (m0 : Mem) (v : (Nat ⊕ Unit)) (m' : Mem) (hF : F_T_mustBeState a1 a2 a3 a4 m0 = some (v, m')) : Fr [] [] m0 m' := by
  unfold F_T_mustBeState at hF
  have hf : Fr [] [] m0 m0 := Fr_rf
  rcases bndX_ex hF with ⟨ke, mq1, hz, hF⟩ | ⟨u_, mq1, hz, hF⟩
  · cases hF
    exact Fr_tr hf (fr_T_mustBeBelow a1 ((gI m0 3 0) + (1 : Int32)) m0 _ _ hz) (by decide) (by decide)
  · have hf := Fr_tr hf (fr_T_mustBeBelow a1 ((gI m0 3 0) + (1 : Int32)) m0 _ _ hz) (by decide) (by decide)
    rcases bndX_ex hF with ⟨ke, mq4, hz, hF⟩ | ⟨u_, mq4, hz, hF⟩
    · cases hF
      exact Fr_tr hf (fr_T_mustBeBelow a2 (4 : Int32) mq1 _ _ hz) (by decide) (by decide)
    · have hf := Fr_tr hf (fr_T_mustBeBelow a2 (4 : Int32) mq1 _ _ hz) (by decide) (by decide)
      obtain ⟨k44_7, ek44_7, hF⟩ := lt_ex hF
      have Jk44_7 : ∀ (mq7 : Mem), Fr [] [] m0 mq7 → k44_7 mq7 = some (v, m') → Fr [] [] m0 m' := by
        intro mq7 hf hF
        rw [ek44_7] at hF
        cases hF
        exact hf
      rcases if_ex hF with hF | hF
      · exact Jk44_7 mq4 hf hF
      · rcases if_ex hF with hF | hF
        · exact Jk44_7 mq4 hf hF
        · rcases if_ex hF with hF | hF
          · exact Jk44_7 mq4 hf hF
          · rcases if_ex hF with hF | hF
            · cases hF
              exact hf
            · exact Jk44_7 mq4 hf hF
set_option maxHeartbeats 4000000 in
theorem fr_T_winsOf (a1 : Int32) (a2 : Int32) (a3 : Int32) (a4 : Int32) (a5 : Int32) (m0 : Mem) (v : Int64) (m' : Mem) (hF : F_T_winsOf a1 a2 a3 a4 a5 m0 = some (v, m')) : Fr [10, 11, 14, 15] [] m0 m' := by
  unfold F_T_winsOf at hF
  have hf : Fr [10, 11, 14, 15] [] m0 m0 := Fr_rf
  obtain ⟨zq3, mq1, hz, hF⟩ := bnd_ex hF
  have hf := Fr_tr hf (fr_Od_firstBats a2 m0 _ _ hz) (by decide) (by decide)
  obtain ⟨k25_5, ek25_5, hF⟩ := lt_ex hF
  have Jk25_5 : ∀ (xq5 : Int32) (mq4 : Mem), Fr [10, 11, 14, 15] [] m0 mq4 → k25_5 xq5 mq4 = some (v, m') → Fr [10, 11, 14, 15] [] m0 m' := by
    intro xq5 mq4 hf hF
    rw [ek25_5] at hF
    obtain ⟨yq8, mq6, hz, hF⟩ := bnd_ex hF
    have hf := Fr_tr hf (fr_Od_waysFrom a1 a2 a4 xq5 mq4 _ _ hz) (by decide) (by decide)
    rcases if_ex hF with hF | hF
    · obtain ⟨yq18, mq16, hz, hF⟩ := bnd_ex hF
      have hf := Fr_tr hf (fr_Od_part yq8 a1 (2 : Int32) mq6 _ _ hz) (by decide) (by decide)
      cases hF
      exact hf
    · obtain ⟨k62_10, ek62_10, hF⟩ := lt_ex hF
      have Jk62_10 : ∀ (zq10 : Bool) (mq9 : Mem), Fr [10, 11, 14, 15] [] m0 mq9 → k62_10 zq10 mq9 = some (v, m') → Fr [10, 11, 14, 15] [] m0 m' := by
        intro zq10 mq9 hf hF
        rw [ek62_10] at hF
        obtain ⟨k70_12, ek70_12, hF⟩ := lt_ex hF
        have Jk70_12 : ∀ (zq12 : Bool) (mq11 : Mem), Fr [10, 11, 14, 15] [] m0 mq11 → k70_12 zq12 mq11 = some (v, m') → Fr [10, 11, 14, 15] [] m0 m' := by
          intro zq12 mq11 hf hF
          rw [ek70_12] at hF
          obtain ⟨yq15, mq13, hz, hF⟩ := bnd_ex hF
          have hf := Fr_tr hf (fr_Od_waysOf yq8 zq12 mq11 _ _ hz) (by decide) (by decide)
          cases hF
          exact hf
        rcases if_ex hF with hF | hF
        · exact Jk70_12 true mq9 hf hF
        · exact Jk70_12 false mq9 hf hF
      rcases if_ex hF with hF | hF
      · exact Jk62_10 true mq6 hf hF
      · exact Jk62_10 false mq6 hf hF
  rcases if_ex hF with hF | hF
  · exact Jk25_5 a3 mq1 hf hF
  · exact Jk25_5 (-a3) mq1 hf hF
set_option maxHeartbeats 4000000 in
theorem fr_T_chased_L33 (a1 : Int32) (xq9 : Int32) (mB : Mem) (v : (Nat ⊕ Int32)) (m' : Mem) : ∀ (nf : Nat) (xq11 : Int32) (mq10 : Mem), Fr [10, 11, 14, 15] [(2, 2), (2, 3), (2, 4), (2, 5), (2, 6)] mB mq10 → F_T_chased_L33 a1 xq9 nf xq11 mq10 = some (v, m') → Fr [10, 11, 14, 15] [(2, 2), (2, 3), (2, 4), (2, 5), (2, 6)] mB m' := by
  intro nf
  induction nf with
  | zero =>
    intro xq11 mq10 hf hF
    rw [F_T_chased_L33] at hF
    cases hF
  | succ nfq12 ih =>
    intro xq11 mq10 hf hF
    rw [F_T_chased_L33] at hF
    rcases if_ex hF with hF | hF
    · cases hF
      exact hf
    · obtain ⟨yq16, mq14, hz, hF⟩ := bnd_ex hF
      have hf := Fr_tr hf (fr_T_winsOf a1 xq9 (-xq11) (0 : Int32) (0 : Int32) mq10 _ _ hz) (by decide) (by decide)
      obtain ⟨yq19, mq17, hz, hF⟩ := bnd_ex hF
      have hf := Fr_tr hf (fr_T_winsOf a1 xq9 (-xq11) (0 : Int32) (1 : Int32) mq14 _ _ hz) (by decide) (by decide)
      rcases if_ex hF with hF | hF
      · obtain ⟨xq20, exq20, hF⟩ := lt_ex hF
        exact ih xq20 mq17 hf hF
      · cases hF
        exact hf
set_option maxHeartbeats 4000000 in
theorem fr_T_chased (a1 : Int32) (m0 : Mem) (v : (Nat ⊕ Int32)) (m' : Mem) (hF : F_T_chased a1 m0 = some (v, m')) : Fr [10, 11, 14, 15] [(2, 2), (2, 3), (2, 4), (2, 5), (2, 6)] m0 m' := by
  unfold F_T_chased at hF
  have hf : Fr [10, 11, 14, 15] [(2, 2), (2, 3), (2, 4), (2, 5), (2, 6)] m0 m0 := Fr_rf
  rcases bndX_ex hF with ⟨ke, mq1, hz, hF⟩ | ⟨u_, mq1, hz, hF⟩
  · cases hF
    exact Fr_tr hf (fr_T_mustBeState a1 (3 : Int32) (0 : Int32) (0 : Int32) m0 _ _ hz) (by decide) (by decide)
  · have hf := Fr_tr hf (fr_T_mustBeState a1 (3 : Int32) (0 : Int32) (0 : Int32) m0 _ _ hz) (by decide) (by decide)
    obtain ⟨u_, mq4, hz, hF⟩ := bnd_ex hF
    have hf := Fr_tr hf (fr_Od_ready (0 : Int32) (gI mq1 3 5) false mq1 _ _ hz) (by decide) (by decide)
    obtain ⟨xq9, mq7, hz, hF⟩ := bnd_ex hF
    have hf := Fr_tr hf (fr_Od_kindOf (3 : Int32) false mq4 _ _ hz) (by decide) (by decide)
    exact fr_T_chased_L33 a1 xq9 m0 _ _  1000000 (81 : Int32) mq7 hf hF
set_option maxHeartbeats 4000000 in
theorem fr_Od_waysByChoice (a1 : Bool) (a2 : Int32) (a3 : Int32) (a4 : Int32) (a5 : Int32) (m0 : Mem) (v : Int64) (m' : Mem) (hF : F_Od_waysByChoice a1 a2 a3 a4 a5 m0 = some (v, m')) : Fr [10, 11, 14, 15] [] m0 m' := by
  unfold F_Od_waysByChoice at hF
  have hf : Fr [10, 11, 14, 15] [] m0 m0 := Fr_rf
  rcases if_ex hF with hF | hF
  · obtain ⟨yq6, mq4, hz, hF⟩ := bnd_ex hF
    have hf := Fr_tr hf (fr_Od_waysOtherwise (F_Od_waysAt 40) (fr_Od_waysAt 40) a2 a3 a4 a5 m0 _ _ hz) (by decide) (by decide)
    cases hF
    exact hf
  · obtain ⟨yq3, mq1, hz, hF⟩ := bnd_ex hF
    have hf := Fr_tr hf (fr_Od_waysGoingOn (F_Od_waysAt 40) (fr_Od_waysAt 40) a2 a3 a4 a5 m0 _ _ hz) (by decide) (by decide)
    cases hF
    exact hf
set_option maxHeartbeats 4000000 in
theorem fr_T_cost (a1 : Int32) (m0 : Mem) (v : (Nat ⊕ Int64)) (m' : Mem) (hF : F_T_cost a1 m0 = some (v, m')) : Fr [10, 11, 14, 15] [(2, 2), (2, 3), (2, 4), (2, 5), (2, 6)] m0 m' := by
  unfold F_T_cost at hF
  have hf : Fr [10, 11, 14, 15] [(2, 2), (2, 3), (2, 4), (2, 5), (2, 6)] m0 m0 := Fr_rf
  obtain ⟨k9_1, ek9_1, hF⟩ := lt_ex hF
  have Jk9_1 : ∀ (mq1 : Mem), Fr [10, 11, 14, 15] [(2, 2), (2, 3), (2, 4), (2, 5), (2, 6)] m0 mq1 → k9_1 mq1 = some (v, m') → Fr [10, 11, 14, 15] [(2, 2), (2, 3), (2, 4), (2, 5), (2, 6)] m0 m' := by
    intro mq1 hf hF
    rw [ek9_1] at hF
    cases hF
    exact hf
  rcases if_ex hF with hF | hF
  · exact Jk9_1 m0 hf hF
  · rcases if_ex hF with hF | hF
    · rcases bndX_ex hF with ⟨ke, mq2, hz, hF⟩ | ⟨u_, mq2, hz, hF⟩
      · cases hF
        exact Fr_tr hf (fr_T_mustBeOn m0 _ _ hz) (by decide) (by decide)
      · have hf := Fr_tr hf (fr_T_mustBeOn m0 _ _ hz) (by decide) (by decide)
        obtain ⟨xq7, mq5, hz, hF⟩ := bnd_ex hF
        have hf := Fr_tr hf (fr_Ma_kind mq2 _ _ hz) (by decide) (by decide)
        obtain ⟨xq10, mq8, hz, hF⟩ := bnd_ex hF
        have hf := Fr_tr hf (fr_Ma_spot mq5 _ _ hz) (by decide) (by decide)
        obtain ⟨xq13, mq11, hz, hF⟩ := bnd_ex hF
        have hf := Fr_tr hf (fr_Ma_leadOf (gI mq8 16 0) mq8 _ _ hz) (by decide) (by decide)
        obtain ⟨xq16, mq14, hz, hF⟩ := bnd_ex hF
        have hf := Fr_tr hf (fr_Od_otherChoice xq7 xq10 xq13 mq11 _ _ hz) (by decide) (by decide)
        obtain ⟨k90_17, ek90_17, hF⟩ := lt_ex hF
        have Jk90_17 : ∀ (mq17 : Mem), Fr [10, 11, 14, 15] [(2, 2), (2, 3), (2, 4), (2, 5), (2, 6)] m0 mq17 → k90_17 mq17 = some (v, m') → Fr [10, 11, 14, 15] [(2, 2), (2, 3), (2, 4), (2, 5), (2, 6)] m0 m' := by
          intro mq17 hf hF
          rw [ek90_17] at hF
          rcases if_ex hF with hF | hF
          · cases hF
            exact hf
          · obtain ⟨u_, mq18, hz, hF⟩ := bnd_ex hF
            have hf := Fr_tr hf (fr_Od_ready (gI mq17 16 0) (gI mq17 3 5) false mq17 _ _ hz) (by decide) (by decide)
            obtain ⟨zq23, mq21, hz, hF⟩ := bnd_ex hF
            have hf := Fr_tr hf (fr_Od_firstBats xq7 mq18 _ _ hz) (by decide) (by decide)
            obtain ⟨yq26, mq24, hz, hF⟩ := bnd_ex hF
            have hf := Fr_tr hf (fr_Od_waysByChoice false (gI mq21 16 3) xq7 xq10 xq13 mq21 _ _ hz) (by decide) (by decide)
            obtain ⟨yq29, mq27, hz, hF⟩ := bnd_ex hF
            have hf := Fr_tr hf (fr_Od_waysByChoice true (gI mq24 16 3) xq7 xq10 xq13 mq24 _ _ hz) (by decide) (by decide)
            obtain ⟨yq32, mq30, hz, hF⟩ := bnd_ex hF
            have hf := Fr_tr hf (fr_Od_valueOf yq26 (gI mq27 16 3) zq23 (gI mq27 3 5) mq27 _ _ hz) (by decide) (by decide)
            obtain ⟨yq35, mq33, hz, hF⟩ := bnd_ex hF
            have hf := Fr_tr hf (fr_Od_valueOf yq29 (gI mq30 16 3) zq23 (gI mq30 3 5) mq30 _ _ hz) (by decide) (by decide)
            obtain ⟨k239_37, ek239_37, hF⟩ := lt_ex hF
            have Jk239_37 : ∀ (yq37 : Int64) (mq36 : Mem), Fr [10, 11, 14, 15] [(2, 2), (2, 3), (2, 4), (2, 5), (2, 6)] m0 mq36 → k239_37 yq37 mq36 = some (v, m') → Fr [10, 11, 14, 15] [(2, 2), (2, 3), (2, 4), (2, 5), (2, 6)] m0 m' := by
              intro yq37 mq36 hf hF
              rw [ek239_37] at hF
              cases hF
              exact hf
            rcases if_ex hF with hF | hF
            · exact Jk239_37 yq32 mq33 hf hF
            · exact Jk239_37 yq35 mq33 hf hF
        rcases if_ex hF with hF | hF
        · exact Jk90_17 mq14 hf hF
        · rcases if_ex hF with hF | hF
          · exact Jk90_17 mq14 hf hF
          · cases hF
            exact hf
    · exact Jk9_1 m0 hf hF
set_option maxHeartbeats 4000000 in
theorem fr_T_count (a1 : Int32) (m0 : Mem) (v : Int32) (m' : Mem) (hF : F_T_count a1 m0 = some (v, m')) : Fr [] [] m0 m' := by
  unfold F_T_count at hF
  have hf : Fr [] [] m0 m0 := Fr_rf
  rcases if_ex hF with hF | hF
  · cases hF
    exact hf
  · rcases if_ex hF with hF | hF
    · cases hF
      exact hf
    · rcases if_ex hF with hF | hF
      · cases hF
        exact hf
      · rcases if_ex hF with hF | hF
        · cases hF
          exact hf
        · rcases if_ex hF with hF | hF
          · cases hF
            exact hf
          · rcases if_ex hF with hF | hF
            · cases hF
              exact hf
            · rcases if_ex hF with hF | hF
              · cases hF
                exact hf
              · rcases if_ex hF with hF | hF
                · cases hF
                  exact hf
                · rcases if_ex hF with hF | hF
                  · cases hF
                    exact hf
                  · rcases if_ex hF with hF | hF
                    · cases hF
                      exact hf
                    · rcases if_ex hF with hF | hF
                      · cases hF
                        exact hf
                      · cases hF
                        exact hf
set_option maxHeartbeats 4000000 in
theorem fr_Ma_mayDeclare (m0 : Mem) (v : Bool) (m' : Mem) (hF : F_Ma_mayDeclare m0 = some (v, m')) : Fr [] [] m0 m' := by
  unfold F_Ma_mayDeclare at hF
  have hf : Fr [] [] m0 m0 := Fr_rf
  obtain ⟨zq3, mq1, hz, hF⟩ := bnd_ex hF
  have hf := Fr_tr hf (fr_Ma_isOn m0 _ _ hz) (by decide) (by decide)
  rcases if_ex hF with hF | hF
  · rcases if_ex hF with hF | hF
    · cases hF
      exact hf
    · rcases if_ex hF with hF | hF
      · cases hF
        exact hf
      · cases hF
        exact hf
  · cases hF
    exact hf
set_option maxHeartbeats 4000000 in
theorem fr_Ma_endByDeclaring (a1 : Int32) (m0 : Mem) (v : Unit) (m' : Mem) (hF : F_Ma_endByDeclaring a1 m0 = some (v, m')) : Fr [] [(16, 1), (16, 2), (16, 4), (16, 6)] m0 m' := by
  unfold F_Ma_endByDeclaring at hF
  have hf : Fr [] [(16, 1), (16, 2), (16, 4), (16, 6)] m0 m0 := Fr_rf
  obtain ⟨u_, mq1, hz, hF⟩ := bnd_ex hF
  have hf := Fr_tr hf (fr_Ma_beginNext m0 _ _ hz) (by decide) (by decide)
  obtain ⟨u_, mq4, hz, hF⟩ := bnd_ex hF
  have hf := Fr_tr hf (fr_Ma_judge a1 mq1 _ _ hz) (by decide) (by decide)
  cases hF
  exact hf
set_option maxHeartbeats 4000000 in
theorem fr_Od_chooses (a1 : Int32) (a2 : Int32) (a3 : Int32) (a4 : Int32) (m0 : Mem) (v : Bool) (m' : Mem) (hF : F_Od_chooses a1 a2 a3 a4 m0 = some (v, m')) : Fr [10, 11, 14, 15] [] m0 m' := by
  unfold F_Od_chooses at hF
  have hf : Fr [10, 11, 14, 15] [] m0 m0 := Fr_rf
  rcases if_ex hF with hF | hF
  · cases hF
    exact hf
  · obtain ⟨xq3, mq1, hz, hF⟩ := bnd_ex hF
    have hf := Fr_tr hf (fr_Od_otherChoice a2 a3 a4 m0 _ _ hz) (by decide) (by decide)
    rcases if_ex hF with hF | hF
    · cases hF
      exact hf
    · obtain ⟨zq6, mq4, hz, hF⟩ := bnd_ex hF
      have hf := Fr_tr hf (fr_Od_firstBats a2 mq1 _ _ hz) (by decide) (by decide)
      obtain ⟨yq9, mq7, hz, hF⟩ := bnd_ex hF
      have hf := Fr_tr hf (fr_Od_waysGoingOn (F_Od_waysAt 40) (fr_Od_waysAt 40) a1 a2 a3 a4 mq4 _ _ hz) (by decide) (by decide)
      obtain ⟨yq12, mq10, hz, hF⟩ := bnd_ex hF
      have hf := Fr_tr hf (fr_Od_valueOf yq9 a1 zq6 (gI mq7 2 5) mq7 _ _ hz) (by decide) (by decide)
      obtain ⟨yq15, mq13, hz, hF⟩ := bnd_ex hF
      have hf := Fr_tr hf (fr_Od_waysOtherwise (F_Od_waysAt 40) (fr_Od_waysAt 40) a1 a2 a3 a4 mq10 _ _ hz) (by decide) (by decide)
      obtain ⟨yq18, mq16, hz, hF⟩ := bnd_ex hF
      have hf := Fr_tr hf (fr_Od_valueOf yq15 a1 zq6 (gI mq13 2 5) mq13 _ _ hz) (by decide) (by decide)
      rcases if_ex hF with hF | hF
      · cases hF
        exact hf
      · cases hF
        exact hf
set_option maxHeartbeats 4000000 in
theorem fr_Od_choosesTold (a1 : Int32) (a2 : Int32) (a3 : Int32) (a4 : Int32) (m0 : Mem) (v : Bool) (m' : Mem) (hF : F_Od_choosesTold a1 a2 a3 a4 m0 = some (v, m')) : Fr [10, 11, 14, 15] [] m0 m' := by
  unfold F_Od_choosesTold at hF
  have hf : Fr [10, 11, 14, 15] [] m0 m0 := Fr_rf
  obtain ⟨zq3, mq1, hz, hF⟩ := bnd_ex hF
  have hf := Fr_tr hf (fr_Od_firstBats a2 m0 _ _ hz) (by decide) (by decide)
  obtain ⟨k18_5, ek18_5, hF⟩ := lt_ex hF
  have Jk18_5 : ∀ (xq5 : Int32) (mq4 : Mem), Fr [10, 11, 14, 15] [] m0 mq4 → k18_5 xq5 mq4 = some (v, m') → Fr [10, 11, 14, 15] [] m0 m' := by
    intro xq5 mq4 hf hF
    rw [ek18_5] at hF
    obtain ⟨zq8, mq6, hz, hF⟩ := bnd_ex hF
    have hf := Fr_tr hf (fr_Od_chooses a1 a2 a4 xq5 mq4 _ _ hz) (by decide) (by decide)
    cases hF
    exact hf
  rcases if_ex hF with hF | hF
  · exact Jk18_5 a3 mq1 hf hF
  · exact Jk18_5 (-a3) mq1 hf hF
set_option maxHeartbeats 4000000 in
theorem fr_T_declares (a1 : Int32) (a2 : Int32) (a3 : Bool) (a4 : Int32) (a5 : Int32) (m0 : Mem) (v : (Nat ⊕ Bool)) (m' : Mem) (hF : F_T_declares a1 a2 a3 a4 a5 m0 = some (v, m')) : Fr [10, 11, 14, 15] [(2, 2), (2, 3), (2, 4), (2, 5), (2, 6)] m0 m' := by
  unfold F_T_declares at hF
  have hf : Fr [10, 11, 14, 15] [(2, 2), (2, 3), (2, 4), (2, 5), (2, 6)] m0 m0 := Fr_rf
  rcases bndX_ex hF with ⟨ke, mq1, hz, hF⟩ | ⟨u_, mq1, hz, hF⟩
  · cases hF
    exact Fr_tr hf (fr_T_mustBeState a1 a2 a4 a5 m0 _ _ hz) (by decide) (by decide)
  · have hf := Fr_tr hf (fr_T_mustBeState a1 a2 a4 a5 m0 _ _ hz) (by decide) (by decide)
    obtain ⟨u_, mq4, hz, hF⟩ := bnd_ex hF
    have hf := Fr_tr hf (fr_Od_ready (0 : Int32) (gI mq1 3 5) false mq1 _ _ hz) (by decide) (by decide)
    rcases if_ex hF with hF | hF
    · cases hF
      exact hf
    · obtain ⟨xq9, mq7, hz, hF⟩ := bnd_ex hF
      have hf := Fr_tr hf (fr_Od_kindOf a2 a3 mq4 _ _ hz) (by decide) (by decide)
      obtain ⟨zq12, mq10, hz, hF⟩ := bnd_ex hF
      have hf := Fr_tr hf (fr_Od_choosesTold a1 xq9 a4 a5 mq7 _ _ hz) (by decide) (by decide)
      rcases if_ex hF with hF | hF
      · cases hF
        exact hf
      · cases hF
        exact hf
set_option maxHeartbeats 4000000 in
theorem fr_T_end (a1 : Int32) (m0 : Mem) (v : Bool) (m' : Mem) (hF : F_T_end a1 m0 = some (v, m')) : Fr [] [(0, 1)] m0 m' := by
  unfold F_T_end at hF
  have hf : Fr [] [(0, 1)] m0 m0 := Fr_rf
  rcases if_ex hF with hF | hF
  · cases hF
    exact hf
  · rcases if_ex hF with hF | hF
    · obtain ⟨mq1, emq1, hF⟩ := lt_ex hF
      have hf := Fr_sI emq1 hf (Or.inr (by decide))
      cases hF
      exact hf
    · cases hF
      exact hf
set_option maxHeartbeats 4000000 in
theorem fr_T_enforces (a1 : Int32) (a2 : Int32) (m0 : Mem) (v : (Nat ⊕ Bool)) (m' : Mem) (hF : F_T_enforces a1 a2 m0 = some (v, m')) : Fr [10, 11, 14, 15] [(2, 2), (2, 3), (2, 4), (2, 5), (2, 6)] m0 m' := by
  unfold F_T_enforces at hF
  have hf : Fr [10, 11, 14, 15] [(2, 2), (2, 3), (2, 4), (2, 5), (2, 6)] m0 m0 := Fr_rf
  rcases bndX_ex hF with ⟨ke, mq1, hz, hF⟩ | ⟨u_, mq1, hz, hF⟩
  · cases hF
    exact Fr_tr hf (fr_T_mustBeState a1 (2 : Int32) a2 (0 : Int32) m0 _ _ hz) (by decide) (by decide)
  · have hf := Fr_tr hf (fr_T_mustBeState a1 (2 : Int32) a2 (0 : Int32) m0 _ _ hz) (by decide) (by decide)
    obtain ⟨u_, mq4, hz, hF⟩ := bnd_ex hF
    have hf := Fr_tr hf (fr_Od_ready (0 : Int32) (gI mq1 3 5) false mq1 _ _ hz) (by decide) (by decide)
    obtain ⟨xq9, mq7, hz, hF⟩ := bnd_ex hF
    have hf := Fr_tr hf (fr_Od_kindOf (2 : Int32) false mq4 _ _ hz) (by decide) (by decide)
    obtain ⟨zq12, mq10, hz, hF⟩ := bnd_ex hF
    have hf := Fr_tr hf (fr_Od_chooses a1 xq9 (10 : Int32) a2 mq7 _ _ hz) (by decide) (by decide)
    cases hF
    exact hf
set_option maxHeartbeats 4000000 in
theorem fr_Od_waysOfNew (a1 : Int32) (m0 : Mem) (v : Int64) (m' : Mem) (hF : F_Od_waysOfNew a1 m0 = some (v, m')) : Fr [10, 11, 14, 15] [(2, 2), (2, 3), (2, 4), (2, 5), (2, 6), (2, 7), (2, 8)] m0 m' := by
  unfold F_Od_waysOfNew at hF
  have hf : Fr [10, 11, 14, 15] [(2, 2), (2, 3), (2, 4), (2, 5), (2, 6), (2, 7), (2, 8)] m0 m0 := Fr_rf
  obtain ⟨k15_2, ek15_2, hF⟩ := lt_ex hF
  have Jk15_2 : ∀ (yq2 : Int64) (mq1 : Mem), Fr [10, 11, 14, 15] [(2, 2), (2, 3), (2, 4), (2, 5), (2, 6), (2, 7), (2, 8)] m0 mq1 → k15_2 yq2 mq1 = some (v, m') → Fr [10, 11, 14, 15] [(2, 2), (2, 3), (2, 4), (2, 5), (2, 6), (2, 7), (2, 8)] m0 m' := by
    intro yq2 mq1 hf hF
    rw [ek15_2] at hF
    rcases if_ex hF with hF | hF
    · obtain ⟨u_, mq3, hz, hF⟩ := bnd_ex hF
      have hf := Fr_tr hf (fr_Od_ready a1 (gI mq1 3 5) false mq1 _ _ hz) (by decide) (by decide)
      obtain ⟨yq8, mq6, hz, hF⟩ := bnd_ex hF
      have hf := Fr_tr hf (fr_Od_waysAt 40 (0 : Int32) (0 : Int32) (10 : Int32) (0 : Int32) mq3 _ _ hz) (by decide) (by decide)
      rcases if_ex hF with hF | hF
      · obtain ⟨mq10, emq10, hF⟩ := lt_ex hF
        have hf := Fr_sL emq10 hf (Or.inr (by decide))
        cases hF
        exact hf
      · obtain ⟨mq9, emq9, hF⟩ := lt_ex hF
        have hf := Fr_sL emq9 hf (Or.inr (by decide))
        cases hF
        exact hf
    · cases hF
      exact hf
  rcases if_ex hF with hF | hF
  · exact Jk15_2 (gL m0 2 7) m0 hf hF
  · exact Jk15_2 (gL m0 2 8) m0 hf hF
set_option maxHeartbeats 4000000 in
theorem fr_T_tossValue (a1 : Int32) (a2 : Int32) (m0 : Mem) (v : Int64) (m' : Mem) (hF : F_T_tossValue a1 a2 m0 = some (v, m')) : Fr [10, 11, 14, 15] [(2, 2), (2, 3), (2, 4), (2, 5), (2, 6), (2, 7), (2, 8)] m0 m' := by
  unfold F_T_tossValue at hF
  have hf : Fr [10, 11, 14, 15] [(2, 2), (2, 3), (2, 4), (2, 5), (2, 6), (2, 7), (2, 8)] m0 m0 := Fr_rf
  obtain ⟨yq3, mq1, hz, hF⟩ := bnd_ex hF
  have hf := Fr_tr hf (fr_Od_waysOfNew a2 m0 _ _ hz) (by decide) (by decide)
  obtain ⟨k23_5, ek23_5, hF⟩ := lt_ex hF
  have Jk23_5 : ∀ (zq5 : Bool) (mq4 : Mem), Fr [10, 11, 14, 15] [(2, 2), (2, 3), (2, 4), (2, 5), (2, 6), (2, 7), (2, 8)] m0 mq4 → k23_5 zq5 mq4 = some (v, m') → Fr [10, 11, 14, 15] [(2, 2), (2, 3), (2, 4), (2, 5), (2, 6), (2, 7), (2, 8)] m0 m' := by
    intro zq5 mq4 hf hF
    rw [ek23_5] at hF
    obtain ⟨yq8, mq6, hz, hF⟩ := bnd_ex hF
    have hf := Fr_tr hf (fr_Od_valueOf yq3 (0 : Int32) zq5 (gI mq4 3 5) mq4 _ _ hz) (by decide) (by decide)
    cases hF
    exact hf
  rcases if_ex hF with hF | hF
  · exact Jk23_5 true mq1 hf hF
  · exact Jk23_5 false mq1 hf hF
set_option maxHeartbeats 4000000 in
theorem fr_T_leftValue (a1 : Int32) (m0 : Mem) (v : Int64) (m' : Mem) (hF : F_T_leftValue a1 m0 = some (v, m')) : Fr [10, 11, 14, 15] [(2, 2), (2, 3), (2, 4), (2, 5), (2, 6), (2, 7), (2, 8)] m0 m' := by
  unfold F_T_leftValue at hF
  have hf : Fr [10, 11, 14, 15] [(2, 2), (2, 3), (2, 4), (2, 5), (2, 6), (2, 7), (2, 8)] m0 m0 := Fr_rf
  obtain ⟨xq1, exq1, hF⟩ := lt_ex hF
  obtain ⟨yq4, mq2, hz, hF⟩ := bnd_ex hF
  have hf := Fr_tr hf (fr_T_tossValue xq1 xq1 m0 _ _ hz) (by decide) (by decide)
  obtain ⟨yq7, mq5, hz, hF⟩ := bnd_ex hF
  have hf := Fr_tr hf (fr_T_tossValue xq1 a1 mq2 _ _ hz) (by decide) (by decide)
  obtain ⟨k25_9, ek25_9, hF⟩ := lt_ex hF
  have Jk25_9 : ∀ (zq9 : Bool) (mq8 : Mem), Fr [10, 11, 14, 15] [(2, 2), (2, 3), (2, 4), (2, 5), (2, 6), (2, 7), (2, 8)] m0 mq8 → k25_9 zq9 mq8 = some (v, m') → Fr [10, 11, 14, 15] [(2, 2), (2, 3), (2, 4), (2, 5), (2, 6), (2, 7), (2, 8)] m0 m' := by
    intro zq9 mq8 hf hF
    rw [ek25_9] at hF
    obtain ⟨k37_11, ek37_11, hF⟩ := lt_ex hF
    have Jk37_11 : ∀ (xq11 : Int32) (mq10 : Mem), Fr [10, 11, 14, 15] [(2, 2), (2, 3), (2, 4), (2, 5), (2, 6), (2, 7), (2, 8)] m0 mq10 → k37_11 xq11 mq10 = some (v, m') → Fr [10, 11, 14, 15] [(2, 2), (2, 3), (2, 4), (2, 5), (2, 6), (2, 7), (2, 8)] m0 m' := by
      intro xq11 mq10 hf hF
      rw [ek37_11] at hF
      obtain ⟨yq14, mq12, hz, hF⟩ := bnd_ex hF
      have hf := Fr_tr hf (fr_T_tossValue a1 xq11 mq10 _ _ hz) (by decide) (by decide)
      cases hF
      exact hf
    rcases if_ex hF with hF | hF
    · exact Jk37_11 xq1 mq8 hf hF
    · exact Jk37_11 a1 mq8 hf hF
  rcases if_ex hF with hF | hF
  · exact Jk25_9 false mq5 hf hF
  · exact Jk25_9 true mq5 hf hF
set_option maxHeartbeats 4000000 in
theorem fr_T_evens (a1 : Int32) (m0 : Mem) (v : (Nat ⊕ Int64)) (m' : Mem) (hF : F_T_evens a1 m0 = some (v, m')) : Fr [10, 11, 14, 15] [(2, 2), (2, 3), (2, 4), (2, 5), (2, 6), (2, 7), (2, 8)] m0 m' := by
  unfold F_T_evens at hF
  have hf : Fr [10, 11, 14, 15] [(2, 2), (2, 3), (2, 4), (2, 5), (2, 6), (2, 7), (2, 8)] m0 m0 := Fr_rf
  rcases bndX_ex hF with ⟨ke, mq1, hz, hF⟩ | ⟨u_, mq1, hz, hF⟩
  · cases hF
    exact Fr_tr hf (fr_T_mustBeBelow a1 (2 : Int32) m0 _ _ hz) (by decide) (by decide)
  · have hf := Fr_tr hf (fr_T_mustBeBelow a1 (2 : Int32) m0 _ _ hz) (by decide) (by decide)
    obtain ⟨yq6, mq4, hz, hF⟩ := bnd_ex hF
    have hf := Fr_tr hf (fr_T_tossValue a1 (0 : Int32) mq1 _ _ hz) (by decide) (by decide)
    obtain ⟨yq9, mq7, hz, hF⟩ := bnd_ex hF
    have hf := Fr_tr hf (fr_T_tossValue a1 (1 : Int32) mq4 _ _ hz) (by decide) (by decide)
    obtain ⟨yq12, mq10, hz, hF⟩ := bnd_ex hF
    have hf := Fr_tr hf (fr_T_leftValue a1 mq7 _ _ hz) (by decide) (by decide)
    cases hF
    exact hf
set_option maxHeartbeats 4000000 in
theorem fr_T_fault (m0 : Mem) (v : Int32) (m' : Mem) (hF : F_T_fault m0 = some (v, m')) : Fr [] [] m0 m' := by
  unfold F_T_fault at hF
  have hf : Fr [] [] m0 m0 := Fr_rf
  cases hF
  exact hf
set_option maxHeartbeats 4000000 in
theorem fr_T_putBytes_L3 (a1 : Int32) (mB : Mem) (v : Unit) (m' : Mem) : ∀ (nf : Nat) (xq2 : Int32) (mq1 : Mem), Fr [1] [(0, 1)] mB mq1 → F_T_putBytes_L3 a1 nf xq2 mq1 = some (v, m') → Fr [1] [(0, 1)] mB m' := by
  intro nf
  induction nf with
  | zero =>
    intro xq2 mq1 hf hF
    rw [F_T_putBytes_L3] at hF
    cases hF
  | succ nfq3 ih =>
    intro xq2 mq1 hf hF
    rw [F_T_putBytes_L3] at hF
    rcases if_ex hF with hF | hF
    · cases hF
      exact hf
    · obtain ⟨k50_5, ek50_5, hF⟩ := lt_ex hF
      have Jk50_5 : ∀ (mq5 : Mem), Fr [1] [(0, 1)] mB mq5 → k50_5 mq5 = some (v, m') → Fr [1] [(0, 1)] mB m' := by
        intro mq5 hf hF
        rw [ek50_5] at hF
        obtain ⟨xq6, exq6, hF⟩ := lt_ex hF
        exact ih xq6 mq5 hf hF
      rcases if_ex hF with hF | hF
      · exact Jk50_5 mq1 hf hF
      · rcases if_ex hF with hF | hF
        · exact Jk50_5 mq1 hf hF
        · obtain ⟨xq7, exq7, hF⟩ := lt_ex hF
          obtain ⟨-, hF⟩ := ckB_ex hF
          obtain ⟨mq8, emq8, hF⟩ := lt_ex hF
          have hf := Fr_sI emq8 hf (Or.inl (by decide))
          obtain ⟨mq10, emq10, hF⟩ := lt_ex hF
          have hf := Fr_sI emq10 hf (Or.inr (by decide))
          exact Jk50_5 mq10 hf hF
set_option maxHeartbeats 4000000 in
theorem fr_T_putBytes (a1 : Int32) (m0 : Mem) (v : Unit) (m' : Mem) (hF : F_T_putBytes a1 m0 = some (v, m')) : Fr [1] [(0, 1)] m0 m' := by
  unfold F_T_putBytes at hF
  have hf : Fr [1] [(0, 1)] m0 m0 := Fr_rf
  exact fr_T_putBytes_L3 a1 m0 _ _  1000000 (24 : Int32) m0 hf hF
set_option maxHeartbeats 4000000 in
theorem fr_T_feed (a1 : Int32) (a2 : Int32) (a3 : Int32) (a4 : Int32) (a5 : Int32) (m0 : Mem) (v : Int32) (m' : Mem) (hF : F_T_feed a1 a2 a3 a4 a5 m0 = some (v, m')) : Fr [1] [(0, 1)] m0 m' := by
  unfold F_T_feed at hF
  have hf : Fr [1] [(0, 1)] m0 m0 := Fr_rf
  rcases if_ex hF with hF | hF
  · obtain ⟨u_, mq1, hz, hF⟩ := bnd_ex hF
    have hf := Fr_tr hf (fr_T_putBytes a1 m0 _ _ hz) (by decide) (by decide)
    obtain ⟨u_, mq4, hz, hF⟩ := bnd_ex hF
    have hf := Fr_tr hf (fr_T_putBytes a2 mq1 _ _ hz) (by decide) (by decide)
    obtain ⟨u_, mq7, hz, hF⟩ := bnd_ex hF
    have hf := Fr_tr hf (fr_T_putBytes a3 mq4 _ _ hz) (by decide) (by decide)
    obtain ⟨u_, mq10, hz, hF⟩ := bnd_ex hF
    have hf := Fr_tr hf (fr_T_putBytes a4 mq7 _ _ hz) (by decide) (by decide)
    obtain ⟨u_, mq13, hz, hF⟩ := bnd_ex hF
    have hf := Fr_tr hf (fr_T_putBytes a5 mq10 _ _ hz) (by decide) (by decide)
    cases hF
    exact hf
  · cases hF
    exact hf
set_option maxHeartbeats 4000000 in
theorem fr_Ma_mayFollow (a1 : Int32) (m0 : Mem) (v : Bool) (m' : Mem) (hF : F_Ma_mayFollow a1 m0 = some (v, m')) : Fr [] [] m0 m' := by
  unfold F_Ma_mayFollow at hF
  have hf : Fr [] [] m0 m0 := Fr_rf
  obtain ⟨zq3, mq1, hz, hF⟩ := bnd_ex hF
  have hf := Fr_tr hf (fr_Ma_isOn m0 _ _ hz) (by decide) (by decide)
  rcases if_ex hF with hF | hF
  · rcases if_ex hF with hF | hF
    · rcases if_ex hF with hF | hF
      · rcases if_ex hF with hF | hF
        · cases hF
          exact hf
        · obtain ⟨xq6, mq4, hz, hF⟩ := bnd_ex hF
          have hf := Fr_tr hf (fr_Ma_leadOf (gI mq1 16 0) mq1 _ _ hz) (by decide) (by decide)
          rcases if_ex hF with hF | hF
          · cases hF
            exact hf
          · cases hF
            exact hf
      · cases hF
        exact hf
    · cases hF
      exact hf
  · cases hF
    exact hf
set_option maxHeartbeats 4000000 in
theorem fr_Ma_logged (a1 : Int32) (a2 : Int32) (m0 : Mem) (v : Int32) (m' : Mem) (hF : F_Ma_logged a1 a2 m0 = some (v, m')) : Fr [] [] m0 m' := by
  unfold F_Ma_logged at hF
  have hf : Fr [] [] m0 m0 := Fr_rf
  obtain ⟨xq1, exq1, hF⟩ := lt_ex hF
  rcases if_ex hF with hF | hF
  · cases hF
    exact hf
  · rcases if_ex hF with hF | hF
    · cases hF
      exact hf
    · rcases if_ex hF with hF | hF
      · cases hF
        exact hf
      · rcases if_ex hF with hF | hF
        · obtain ⟨-, hF⟩ := ckB_ex hF
          obtain ⟨xq3, exq3, hF⟩ := lt_ex hF
          cases hF
          exact hf
        · cases hF
          exact hf
set_option maxHeartbeats 4000000 in
theorem fr_T_form_L33 (a1 : Int32) (a2 : Int32) (mB : Mem) (v : (Nat ⊕ Int32)) (m' : Mem) : ∀ (nf : Nat) (xq7 : Int32) (xq8 : Int32) (mq6 : Mem), Fr [] [] mB mq6 → F_T_form_L33 a1 a2 nf xq7 xq8 mq6 = some (v, m') → Fr [] [] mB m' := by
  intro nf
  induction nf with
  | zero =>
    intro xq7 xq8 mq6 hf hF
    rw [F_T_form_L33] at hF
    cases hF
  | succ nfq9 ih =>
    intro xq7 xq8 mq6 hf hF
    rw [F_T_form_L33] at hF
    rcases if_ex hF with hF | hF
    · cases hF
      exact hf
    · obtain ⟨k83_12, ek83_12, hF⟩ := lt_ex hF
      have Jk83_12 : ∀ (xq12 : Int32) (mq11 : Mem), Fr [] [] mB mq11 → k83_12 xq12 mq11 = some (v, m') → Fr [] [] mB m' := by
        intro xq12 mq11 hf hF
        rw [ek83_12] at hF
        obtain ⟨xq13, exq13, hF⟩ := lt_ex hF
        exact ih xq12 xq13 mq11 hf hF
      rcases if_ex hF with hF | hF
      · exact Jk83_12 xq7 mq6 hf hF
      · obtain ⟨xq16, mq14, hz, hF⟩ := bnd_ex hF
        have hf := Fr_tr hf (fr_Ma_logged xq8 (1 : Int32) mq6 _ _ hz) (by decide) (by decide)
        rcases if_ex hF with hF | hF
        · obtain ⟨xq19, mq17, hz, hF⟩ := bnd_ex hF
          have hf := Fr_tr hf (fr_Ma_logged xq8 (6 : Int32) mq14 _ _ hz) (by decide) (by decide)
          obtain ⟨xq20, exq20, hF⟩ := lt_ex hF
          exact Jk83_12 xq20 mq17 hf hF
        · exact Jk83_12 xq7 mq14 hf hF
set_option maxHeartbeats 4000000 in
theorem fr_T_form (a1 : Int32) (a2 : Int32) (m0 : Mem) (v : (Nat ⊕ Int32)) (m' : Mem) (hF : F_T_form a1 a2 m0 = some (v, m')) : Fr [] [] m0 m' := by
  unfold F_T_form at hF
  have hf : Fr [] [] m0 m0 := Fr_rf
  rcases bndX_ex hF with ⟨ke, mq1, hz, hF⟩ | ⟨u_, mq1, hz, hF⟩
  · cases hF
    exact Fr_tr hf (fr_T_mustBeBelow a1 (2 : Int32) m0 _ _ hz) (by decide) (by decide)
  · have hf := Fr_tr hf (fr_T_mustBeBelow a1 (2 : Int32) m0 _ _ hz) (by decide) (by decide)
    obtain ⟨k15_4, ek15_4, hF⟩ := lt_ex hF
    have Jk15_4 : ∀ (mq4 : Mem), Fr [] [] m0 mq4 → k15_4 mq4 = some (v, m') → Fr [] [] m0 m' := by
      intro mq4 hf hF
      rw [ek15_4] at hF
      cases hF
      exact hf
    rcases if_ex hF with hF | hF
    · exact Jk15_4 mq1 hf hF
    · rcases if_ex hF with hF | hF
      · obtain ⟨xq5, exq5, hF⟩ := lt_ex hF
        exact fr_T_form_L33 a1 a2 m0 _ _  1000000 (0 : Int32) xq5 mq1 hf hF
      · exact Jk15_4 mq1 hf hF
set_option maxHeartbeats 4000000 in
theorem fr_Tx_addThingG (a1 : Int32) (a2 : Int32) (a3 : Int32) (m0 : Mem) (v : Unit) (m' : Mem) (hF : F_Tx_addThingG a1 a2 a3 m0 = some (v, m')) : Fr [48, 49, 50] [(46, 4)] m0 m' := by
  unfold F_Tx_addThingG at hF
  have hf : Fr [48, 49, 50] [(46, 4)] m0 m0 := Fr_rf
  rcases if_ex hF with hF | hF
  · cases hF
    exact hf
  · rcases if_ex hF with hF | hF
    · cases hF
      exact hf
    · obtain ⟨-, hF⟩ := ckB_ex hF
      obtain ⟨mq1, emq1, hF⟩ := lt_ex hF
      have hf := Fr_sI emq1 hf (Or.inl (by decide))
      obtain ⟨-, hF⟩ := ckB_ex hF
      obtain ⟨mq3, emq3, hF⟩ := lt_ex hF
      have hf := Fr_sI emq3 hf (Or.inl (by decide))
      obtain ⟨-, hF⟩ := ckB_ex hF
      obtain ⟨mq5, emq5, hF⟩ := lt_ex hF
      have hf := Fr_sI emq5 hf (Or.inl (by decide))
      obtain ⟨mq7, emq7, hF⟩ := lt_ex hF
      have hf := Fr_sI emq7 hf (Or.inr (by decide))
      cases hF
      exact hf
set_option maxHeartbeats 4000000 in
theorem fr_Tx_kindOf (a0 : Int32) (m0 : Mem) (v : Int32) (m' : Mem) (hF : F_Tx_kindOf a0 m0 = some (v, m')) : Fr [] [] m0 m' := by
  unfold F_Tx_kindOf at hF
  have hf : Fr [] [] m0 m0 := Fr_rf
  obtain ⟨k14_1, ek14_1, hF⟩ := lt_ex hF
  have Jk14_1 : ∀ (mq1 : Mem), Fr [] [] m0 mq1 → k14_1 mq1 = some (v, m') → Fr [] [] m0 m' := by
    intro mq1 hf hF
    rw [ek14_1] at hF
    rcases if_ex hF with hF | hF
    · cases hF
      exact hf
    · rcases if_ex hF with hF | hF
      · cases hF
        exact hf
      · cases hF
        exact hf
  rcases if_ex hF with hF | hF
  · exact Jk14_1 m0 hf hF
  · rcases if_ex hF with hF | hF
    · exact Jk14_1 m0 hf hF
    · cases hF
      exact hf
set_option maxHeartbeats 4000000 in
theorem fr_Tx_cutG_L34 (a2 : Int32) (xq19 : Int32) (k75_21 : Int32 → Mem → Option (Unit × Mem)) (mB : Mem) (v : Unit) (m' : Mem) (Jk75_21 : ∀ (b0 : Int32) (b1 : Mem), Fr [47, 48, 49, 50] [(46, 4)] mB b1 → k75_21 b0 b1 = some (v, m') → Fr [47, 48, 49, 50] [(46, 4)] mB m') : ∀ (nf : Nat) (xq29 : Int32) (mq28 : Mem), Fr [47, 48, 49, 50] [(46, 4)] mB mq28 → F_Tx_cutG_L34 a2 xq19 k75_21 nf xq29 mq28 = some (v, m') → Fr [47, 48, 49, 50] [(46, 4)] mB m' := by
  intro nf
  induction nf with
  | zero =>
    intro xq29 mq28 hf hF
    rw [F_Tx_cutG_L34] at hF
    cases hF
  | succ nfq30 ih =>
    intro xq29 mq28 hf hF
    rw [F_Tx_cutG_L34] at hF
    rcases if_ex hF with hF | hF
    · exact Jk75_21 xq29 mq28 hf hF
    · rcases if_ex hF with hF | hF
      · exact Jk75_21 xq29 mq28 hf hF
      · obtain ⟨-, hF⟩ := ckB_ex hF
        obtain ⟨xq33, exq33, hF⟩ := lt_ex hF
        obtain ⟨xq36, mq34, hz, hF⟩ := bnd_ex hF
        have hf := Fr_tr hf (fr_Tx_kindOf xq33 mq28 _ _ hz) (by decide) (by decide)
        rcases if_ex hF with hF | hF
        · obtain ⟨-, hF⟩ := ckB_ex hF
          obtain ⟨xq38, exq38, hF⟩ := lt_ex hF
          obtain ⟨-, hF⟩ := ckB_ex hF
          obtain ⟨mq39, emq39, hF⟩ := lt_ex hF
          have hf := Fr_sI emq39 hf (Or.inl (by decide))
          obtain ⟨xq41, exq41, hF⟩ := lt_ex hF
          exact ih xq41 mq39 hf hF
        · exact Jk75_21 xq29 mq34 hf hF
set_option maxHeartbeats 4000000 in
theorem fr_Tx_cutG_L7 (a2 : Int32) (k98_2 : Mem → Option (Unit × Mem)) (mB : Mem) (v : Unit) (m' : Mem) (Jk98_2 : ∀ (b0 : Mem), Fr [47, 48, 49, 50] [(46, 4)] mB b0 → k98_2 b0 = some (v, m') → Fr [47, 48, 49, 50] [(46, 4)] mB m') : ∀ (nf : Nat) (xq7 : Int32) (mq6 : Mem), Fr [47, 48, 49, 50] [(46, 4)] mB mq6 → F_Tx_cutG_L7 a2 k98_2 nf xq7 mq6 = some (v, m') → Fr [47, 48, 49, 50] [(46, 4)] mB m' := by
  intro nf
  induction nf with
  | zero =>
    intro xq7 mq6 hf hF
    rw [F_Tx_cutG_L7] at hF
    cases hF
  | succ nfq8 ih =>
    intro xq7 mq6 hf hF
    rw [F_Tx_cutG_L7] at hF
    rcases if_ex hF with hF | hF
    · exact Jk98_2 mq6 hf hF
    · obtain ⟨-, hF⟩ := ckB_ex hF
      obtain ⟨xq11, exq11, hF⟩ := lt_ex hF
      obtain ⟨-, hF⟩ := ckB_ex hF
      obtain ⟨mq12, emq12, hF⟩ := lt_ex hF
      have hf := Fr_sI emq12 hf (Or.inl (by decide))
      obtain ⟨xq14, exq14, hF⟩ := lt_ex hF
      obtain ⟨-, hF⟩ := ckB_ex hF
      obtain ⟨xq16, exq16, hF⟩ := lt_ex hF
      obtain ⟨xq19, mq17, hz, hF⟩ := bnd_ex hF
      have hf := Fr_tr hf (fr_Tx_kindOf xq16 mq12 _ _ hz) (by decide) (by decide)
      obtain ⟨k75_21, ek75_21, hF⟩ := lt_ex hF
      have Jk75_21 : ∀ (xq21 : Int32) (mq20 : Mem), Fr [47, 48, 49, 50] [(46, 4)] mB mq20 → k75_21 xq21 mq20 = some (v, m') → Fr [47, 48, 49, 50] [(46, 4)] mB m' := by
        intro xq21 mq20 hf hF
        rw [ek75_21] at hF
        obtain ⟨-, hF⟩ := ckB_ex hF
        obtain ⟨xq23, exq23, hF⟩ := lt_ex hF
        obtain ⟨k92_24, ek92_24, hF⟩ := lt_ex hF
        have Jk92_24 : ∀ (mq24 : Mem), Fr [47, 48, 49, 50] [(46, 4)] mB mq24 → k92_24 mq24 = some (v, m') → Fr [47, 48, 49, 50] [(46, 4)] mB m' := by
          intro mq24 hf hF
          rw [ek92_24] at hF
          exact ih xq21 mq24 hf hF
        rcases if_ex hF with hF | hF
        · exact Jk92_24 mq20 hf hF
        · obtain ⟨u_, mq25, hz, hF⟩ := bnd_ex hF
          have hf := Fr_tr hf (fr_Tx_addThingG xq19 xq7 xq21 mq20 _ _ hz) (by decide) (by decide)
          exact Jk92_24 mq25 hf hF
      exact fr_Tx_cutG_L34 a2 xq19 k75_21 mB _ _ Jk75_21 1000000 xq14 mq17 hf hF
set_option maxHeartbeats 4000000 in
theorem fr_Tx_cutG (a2 : Int32) (m0 : Mem) (v : Unit) (m' : Mem) (hF : F_Tx_cutG a2 m0 = some (v, m')) : Fr [47, 48, 49, 50] [(46, 4)] m0 m' := by
  unfold F_Tx_cutG at hF
  have hf : Fr [47, 48, 49, 50] [(46, 4)] m0 m0 := Fr_rf
  obtain ⟨mq1, emq1, hF⟩ := lt_ex hF
  have hf := Fr_sI emq1 hf (Or.inr (by decide))
  obtain ⟨k98_2, ek98_2, hF⟩ := lt_ex hF
  have Jk98_2 : ∀ (mq2 : Mem), Fr [47, 48, 49, 50] [(46, 4)] m0 mq2 → k98_2 mq2 = some (v, m') → Fr [47, 48, 49, 50] [(46, 4)] m0 m' := by
    intro mq2 hf hF
    rw [ek98_2] at hF
    obtain ⟨u_, mq3, hz, hF⟩ := bnd_ex hF
    have hf := Fr_tr hf (fr_Tx_addThingG (3 : Int32) (mxI (0 : Int32) a2) (mxI (0 : Int32) a2) mq2 _ _ hz) (by decide) (by decide)
    cases hF
    exact hf
  exact fr_Tx_cutG_L7 a2 k98_2 m0 _ _ Jk98_2 1000000 (0 : Int32) mq1 hf hF
set_option maxHeartbeats 4000000 in
theorem fr_Tx_isAtG (a1 : Int32) (m0 : Mem) (v : Bool) (m' : Mem) (hF : F_Tx_isAtG a1 m0 = some (v, m')) : Fr [] [] m0 m' := by
  unfold F_Tx_isAtG at hF
  have hf : Fr [] [] m0 m0 := Fr_rf
  rcases if_ex hF with hF | hF
  · rcases if_ex hF with hF | hF
    · cases hF
      exact hf
    · rcases if_ex hF with hF | hF
      · cases hF
        exact hf
      · rcases if_ex hF with hF | hF
        · cases hF
          exact hf
        · obtain ⟨-, hF⟩ := ckB_ex hF
          obtain ⟨xq2, exq2, hF⟩ := lt_ex hF
          rcases if_ex hF with hF | hF
          · cases hF
            exact hf
          · cases hF
            exact hf
  · cases hF
    exact hf
set_option maxHeartbeats 4000000 in
theorem fr_Tx_setWrongG (m0 : Mem) (v : Unit) (m' : Mem) (hF : F_Tx_setWrongG m0 = some (v, m')) : Fr [] [(46, 6)] m0 m' := by
  unfold F_Tx_setWrongG at hF
  have hf : Fr [] [(46, 6)] m0 m0 := Fr_rf
  rcases if_ex hF with hF | hF
  · rcases if_ex hF with hF | hF
    · cases hF
      exact hf
    · rcases if_ex hF with hF | hF
      · cases hF
        exact hf
      · obtain ⟨-, hF⟩ := ckB_ex hF
        obtain ⟨xq2, exq2, hF⟩ := lt_ex hF
        obtain ⟨mq3, emq3, hF⟩ := lt_ex hF
        have hf := Fr_sI emq3 hf (Or.inr (by decide))
        cases hF
        exact hf
  · cases hF
    exact hf
set_option maxHeartbeats 4000000 in
theorem fr_Tx_byteAtG (a1 : Int32) (m0 : Mem) (v : Int32) (m' : Mem) (hF : F_Tx_byteAtG a1 m0 = some (v, m')) : Fr [] [] m0 m' := by
  unfold F_Tx_byteAtG at hF
  have hf : Fr [] [] m0 m0 := Fr_rf
  rcases if_ex hF with hF | hF
  · cases hF
    exact hf
  · rcases if_ex hF with hF | hF
    · obtain ⟨-, hF⟩ := ckB_ex hF
      obtain ⟨xq2, exq2, hF⟩ := lt_ex hF
      cases hF
      exact hf
    · cases hF
      exact hf
set_option maxHeartbeats 4000000 in
theorem fr_Tx_takesWordG_L38 (tx1 : String) (k77_8 : Mem → Option (Bool × Mem)) (mB : Mem) (v : Bool) (m' : Mem) (Jk77_8 : ∀ (b0 : Mem), Fr [] [(46, 5)] mB b0 → k77_8 b0 = some (v, m') → Fr [] [(46, 5)] mB m') : ∀ (nf : Nat) (xq11 : Int32) (mq10 : Mem), Fr [] [(46, 5)] mB mq10 → F_Tx_takesWordG_L38 tx1 k77_8 nf xq11 mq10 = some (v, m') → Fr [] [(46, 5)] mB m' := by
  intro nf
  induction nf with
  | zero =>
    intro xq11 mq10 hf hF
    rw [F_Tx_takesWordG_L38] at hF
    cases hF
  | succ nfq12 ih =>
    intro xq11 mq10 hf hF
    rw [F_Tx_takesWordG_L38] at hF
    rcases if_ex hF with hF | hF
    · exact Jk77_8 mq10 hf hF
    · obtain ⟨-, hF⟩ := ckB_ex hF
      obtain ⟨xq15, exq15, hF⟩ := lt_ex hF
      obtain ⟨xq18, mq16, hz, hF⟩ := bnd_ex hF
      have hf := Fr_tr hf (fr_Tx_byteAtG (xq15 + xq11) mq10 _ _ hz) (by decide) (by decide)
      obtain ⟨-, hF⟩ := ckB_ex hF
      rcases if_ex hF with hF | hF
      · obtain ⟨xq20, exq20, hF⟩ := lt_ex hF
        exact ih xq20 mq16 hf hF
      · cases hF
        exact hf
set_option maxHeartbeats 4000000 in
theorem fr_Tx_takesWordG (tx1 : String) (m0 : Mem) (v : Bool) (m' : Mem) (hF : F_Tx_takesWordG tx1 m0 = some (v, m')) : Fr [] [(46, 5)] m0 m' := by
  unfold F_Tx_takesWordG at hF
  have hf : Fr [] [(46, 5)] m0 m0 := Fr_rf
  obtain ⟨zq3, mq1, hz, hF⟩ := bnd_ex hF
  have hf := Fr_tr hf (fr_Tx_isAtG (0 : Int32) m0 _ _ hz) (by decide) (by decide)
  rcases if_ex hF with hF | hF
  · obtain ⟨-, hF⟩ := ckB_ex hF
    obtain ⟨xq5, exq5, hF⟩ := lt_ex hF
    obtain ⟨-, hF⟩ := ckB_ex hF
    obtain ⟨xq7, exq7, hF⟩ := lt_ex hF
    rcases if_ex hF with hF | hF
    · obtain ⟨k77_8, ek77_8, hF⟩ := lt_ex hF
      have Jk77_8 : ∀ (mq8 : Mem), Fr [] [(46, 5)] m0 mq8 → k77_8 mq8 = some (v, m') → Fr [] [(46, 5)] m0 m' := by
        intro mq8 hf hF
        rw [ek77_8] at hF
        obtain ⟨mq9, emq9, hF⟩ := lt_ex hF
        have hf := Fr_sI emq9 hf (Or.inr (by decide))
        cases hF
        exact hf
      exact fr_Tx_takesWordG_L38 tx1 k77_8 m0 _ _ Jk77_8 1000000 (0 : Int32) mq1 hf hF
    · cases hF
      exact hf
  · cases hF
    exact hf
set_option maxHeartbeats 4000000 in
theorem fr_Tx_numberG_L27 (k78_7 : Int32 → Mem → Option (Int32 × Mem)) (mB : Mem) (v : Int32) (m' : Mem) (Jk78_7 : ∀ (b0 : Int32) (b1 : Mem), Fr [] [(46, 5), (46, 6)] mB b1 → k78_7 b0 b1 = some (v, m') → Fr [] [(46, 5), (46, 6)] mB m') : ∀ (nf : Nat) (xq18 : Int32) (xq19 : Int32) (mq17 : Mem), Fr [] [(46, 5), (46, 6)] mB mq17 → F_Tx_numberG_L27 k78_7 nf xq18 xq19 mq17 = some (v, m') → Fr [] [(46, 5), (46, 6)] mB m' := by
  intro nf
  induction nf with
  | zero =>
    intro xq18 xq19 mq17 hf hF
    rw [F_Tx_numberG_L27] at hF
    cases hF
  | succ nfq20 ih =>
    intro xq18 xq19 mq17 hf hF
    rw [F_Tx_numberG_L27] at hF
    obtain ⟨-, hF⟩ := ckB_ex hF
    obtain ⟨xq23, exq23, hF⟩ := lt_ex hF
    rcases if_ex hF with hF | hF
    · exact Jk78_7 xq18 mq17 hf hF
    · obtain ⟨-, hF⟩ := ckB_ex hF
      obtain ⟨xq25, exq25, hF⟩ := lt_ex hF
      rcases if_ex hF with hF | hF
      · exact Jk78_7 xq18 mq17 hf hF
      · obtain ⟨xq28, mq26, hz, hF⟩ := bnd_ex hF
        have hf := Fr_tr hf (fr_Tx_byteAtG xq19 mq17 _ _ hz) (by decide) (by decide)
        obtain ⟨xq29, exq29, hF⟩ := lt_ex hF
        obtain ⟨xq30, exq30, hF⟩ := lt_ex hF
        exact ih xq29 xq30 mq26 hf hF
set_option maxHeartbeats 4000000 in
theorem fr_Tx_numberG (a1 : Int32) (a2 : Int32) (m0 : Mem) (v : Int32) (m' : Mem) (hF : F_Tx_numberG a1 a2 m0 = some (v, m')) : Fr [] [(46, 5), (46, 6)] m0 m' := by
  unfold F_Tx_numberG at hF
  have hf : Fr [] [(46, 5), (46, 6)] m0 m0 := Fr_rf
  obtain ⟨zq3, mq1, hz, hF⟩ := bnd_ex hF
  have hf := Fr_tr hf (fr_Tx_isAtG (1 : Int32) m0 _ _ hz) (by decide) (by decide)
  rcases if_ex hF with hF | hF
  · obtain ⟨-, hF⟩ := ckB_ex hF
    obtain ⟨xq5, exq5, hF⟩ := lt_ex hF
    obtain ⟨k78_7, ek78_7, hF⟩ := lt_ex hF
    have Jk78_7 : ∀ (xq7 : Int32) (mq6 : Mem), Fr [] [(46, 5), (46, 6)] m0 mq6 → k78_7 xq7 mq6 = some (v, m') → Fr [] [(46, 5), (46, 6)] m0 m' := by
      intro xq7 mq6 hf hF
      rw [ek78_7] at hF
      obtain ⟨-, hF⟩ := ckB_ex hF
      obtain ⟨xq9, exq9, hF⟩ := lt_ex hF
      obtain ⟨-, hF⟩ := ckB_ex hF
      obtain ⟨xq11, exq11, hF⟩ := lt_ex hF
      obtain ⟨k111_12, ek111_12, hF⟩ := lt_ex hF
      have Jk111_12 : ∀ (mq12 : Mem), Fr [] [(46, 5), (46, 6)] m0 mq12 → k111_12 mq12 = some (v, m') → Fr [] [(46, 5), (46, 6)] m0 m' := by
        intro mq12 hf hF
        rw [ek111_12] at hF
        obtain ⟨u_, mq13, hz, hF⟩ := bnd_ex hF
        have hf := Fr_tr hf (fr_Tx_setWrongG mq12 _ _ hz) (by decide) (by decide)
        cases hF
        exact hf
      rcases if_ex hF with hF | hF
      · exact Jk111_12 mq6 hf hF
      · rcases if_ex hF with hF | hF
        · exact Jk111_12 mq6 hf hF
        · rcases if_ex hF with hF | hF
          · obtain ⟨mq16, emq16, hF⟩ := lt_ex hF
            have hf := Fr_sI emq16 hf (Or.inr (by decide))
            cases hF
            exact hf
          · exact Jk111_12 mq6 hf hF
    exact fr_Tx_numberG_L27 k78_7 m0 _ _ Jk78_7 1000000 (0 : Int32) xq5 mq1 hf hF
  · obtain ⟨u_, mq31, hz, hF⟩ := bnd_ex hF
    have hf := Fr_tr hf (fr_Tx_setWrongG mq1 _ _ hz) (by decide) (by decide)
    cases hF
    exact hf
set_option maxHeartbeats 4000000 in
theorem fr_GT_keep (a1 : Int32) (a2 : Int32) (a3 : Int32) (a4 : Int32) (a5 : Int32) (m0 : Mem) (v : Unit) (m' : Mem) (hF : F_GT_keep a1 a2 a3 a4 a5 m0 = some (v, m')) : Fr [51] [(46, 8)] m0 m' := by
  unfold F_GT_keep at hF
  have hf : Fr [51] [(46, 8)] m0 m0 := Fr_rf
  obtain ⟨xq1, exq1, hF⟩ := lt_ex hF
  rcases if_ex hF with hF | hF
  · cases hF
    exact hf
  · rcases if_ex hF with hF | hF
    · cases hF
      exact hf
    · obtain ⟨-, hF⟩ := ckB_ex hF
      obtain ⟨mq2, emq2, hF⟩ := lt_ex hF
      have hf := Fr_sI emq2 hf (Or.inl (by decide))
      obtain ⟨-, hF⟩ := ckB_ex hF
      obtain ⟨mq4, emq4, hF⟩ := lt_ex hF
      have hf := Fr_sI emq4 hf (Or.inl (by decide))
      obtain ⟨-, hF⟩ := ckB_ex hF
      obtain ⟨mq6, emq6, hF⟩ := lt_ex hF
      have hf := Fr_sI emq6 hf (Or.inl (by decide))
      obtain ⟨-, hF⟩ := ckB_ex hF
      obtain ⟨mq8, emq8, hF⟩ := lt_ex hF
      have hf := Fr_sI emq8 hf (Or.inl (by decide))
      obtain ⟨-, hF⟩ := ckB_ex hF
      obtain ⟨mq10, emq10, hF⟩ := lt_ex hF
      have hf := Fr_sI emq10 hf (Or.inl (by decide))
      obtain ⟨mq12, emq12, hF⟩ := lt_ex hF
      have hf := Fr_sI emq12 hf (Or.inr (by decide))
      cases hF
      exact hf
set_option maxHeartbeats 4000000 in
theorem fr_GT_readBook (m0 : Mem) (v : Unit) (m' : Mem) (hF : F_GT_readBook m0 = some (v, m')) : Fr [51] [(46, 5), (46, 6), (46, 8), (46, 9)] m0 m' := by
  unfold F_GT_readBook at hF
  have hf : Fr [51] [(46, 5), (46, 6), (46, 8), (46, 9)] m0 m0 := Fr_rf
  obtain ⟨xq3, mq1, hz, hF⟩ := bnd_ex hF
  have hf := Fr_tr hf (fr_Tx_numberG (0 : Int32) (1 : Int32) m0 _ _ hz) (by decide) (by decide)
  obtain ⟨xq6, mq4, hz, hF⟩ := bnd_ex hF
  have hf := Fr_tr hf (fr_Tx_numberG (0 : Int32) (1 : Int32) mq1 _ _ hz) (by decide) (by decide)
  obtain ⟨xq9, mq7, hz, hF⟩ := bnd_ex hF
  have hf := Fr_tr hf (fr_Tx_numberG (0 : Int32) (2 : Int32) mq4 _ _ hz) (by decide) (by decide)
  obtain ⟨mq10, emq10, hF⟩ := lt_ex hF
  have hf := Fr_sI emq10 hf (Or.inr (by decide))
  obtain ⟨u_, mq11, hz, hF⟩ := bnd_ex hF
  have hf := Fr_tr hf (fr_GT_keep (8 : Int32) xq3 xq6 xq9 (0 : Int32) mq10 _ _ hz) (by decide) (by decide)
  cases hF
  exact hf
set_option maxHeartbeats 4000000 in
theorem fr_Tx_isAtNumberG (m0 : Mem) (v : Bool) (m' : Mem) (hF : F_Tx_isAtNumberG m0 = some (v, m')) : Fr [] [] m0 m' := by
  unfold F_Tx_isAtNumberG at hF
  have hf : Fr [] [] m0 m0 := Fr_rf
  obtain ⟨zq3, mq1, hz, hF⟩ := bnd_ex hF
  have hf := Fr_tr hf (fr_Tx_isAtG (1 : Int32) m0 _ _ hz) (by decide) (by decide)
  cases hF
  exact hf
set_option maxHeartbeats 4000000 in
theorem fr_GT_readBits_L12  (mB : Mem) (v : Int32) (m' : Mem) : ∀ (nf : Nat) (xq6 : Int32) (xq7 : Int32) (mq5 : Mem), Fr [] [(46, 5), (46, 6)] mB mq5 → F_GT_readBits_L12  nf xq6 xq7 mq5 = some (v, m') → Fr [] [(46, 5), (46, 6)] mB m' := by
  intro nf
  induction nf with
  | zero =>
    intro xq6 xq7 mq5 hf hF
    rw [F_GT_readBits_L12] at hF
    cases hF
  | succ nfq8 ih =>
    intro xq6 xq7 mq5 hf hF
    rw [F_GT_readBits_L12] at hF
    rcases if_ex hF with hF | hF
    · cases hF
      exact hf
    · obtain ⟨zq12, mq10, hz, hF⟩ := bnd_ex hF
      have hf := Fr_tr hf (fr_Tx_isAtNumberG mq5 _ _ hz) (by decide) (by decide)
      rcases if_ex hF with hF | hF
      · obtain ⟨xq15, mq13, hz, hF⟩ := bnd_ex hF
        have hf := Fr_tr hf (fr_Tx_numberG (0 : Int32) (8 : Int32) mq10 _ _ hz) (by decide) (by decide)
        obtain ⟨xq16, exq16, hF⟩ := lt_ex hF
        obtain ⟨xq17, exq17, hF⟩ := lt_ex hF
        exact ih xq16 xq17 mq13 hf hF
      · cases hF
        exact hf
set_option maxHeartbeats 4000000 in
theorem fr_GT_readBits (m0 : Mem) (v : Int32) (m' : Mem) (hF : F_GT_readBits m0 = some (v, m')) : Fr [] [(46, 5), (46, 6)] m0 m' := by
  unfold F_GT_readBits at hF
  have hf : Fr [] [(46, 5), (46, 6)] m0 m0 := Fr_rf
  obtain ⟨xq3, mq1, hz, hF⟩ := bnd_ex hF
  have hf := Fr_tr hf (fr_Tx_numberG (0 : Int32) (8 : Int32) m0 _ _ hz) (by decide) (by decide)
  obtain ⟨xq4, exq4, hF⟩ := lt_ex hF
  exact fr_GT_readBits_L12  m0 _ _  1000000 xq4 (0 : Int32) mq1 hf hF
set_option maxHeartbeats 4000000 in
theorem fr_Tx_mustTakeG (tx1 : String) (m0 : Mem) (v : Unit) (m' : Mem) (hF : F_Tx_mustTakeG tx1 m0 = some (v, m')) : Fr [] [(46, 5), (46, 6)] m0 m' := by
  unfold F_Tx_mustTakeG at hF
  have hf : Fr [] [(46, 5), (46, 6)] m0 m0 := Fr_rf
  obtain ⟨zq3, mq1, hz, hF⟩ := bnd_ex hF
  have hf := Fr_tr hf (fr_Tx_takesWordG tx1 m0 _ _ hz) (by decide) (by decide)
  rcases if_ex hF with hF | hF
  · cases hF
    exact hf
  · obtain ⟨u_, mq4, hz, hF⟩ := bnd_ex hF
    have hf := Fr_tr hf (fr_Tx_setWrongG mq1 _ _ hz) (by decide) (by decide)
    cases hF
    exact hf
set_option maxHeartbeats 4000000 in
theorem fr_GT_readSlot (m0 : Mem) (v : Unit) (m' : Mem) (hF : F_GT_readSlot m0 = some (v, m')) : Fr [51] [(46, 5), (46, 6), (46, 8)] m0 m' := by
  unfold F_GT_readSlot at hF
  have hf : Fr [51] [(46, 5), (46, 6), (46, 8)] m0 m0 := Fr_rf
  obtain ⟨xq3, mq1, hz, hF⟩ := bnd_ex hF
  have hf := Fr_tr hf (fr_Tx_numberG (0 : Int32) (3 : Int32) m0 _ _ hz) (by decide) (by decide)
  obtain ⟨xq6, mq4, hz, hF⟩ := bnd_ex hF
  have hf := Fr_tr hf (fr_Tx_numberG (0 : Int32) (3 : Int32) mq1 _ _ hz) (by decide) (by decide)
  obtain ⟨u_, mq7, hz, hF⟩ := bnd_ex hF
  have hf := Fr_tr hf (fr_Tx_mustTakeG ("runs") mq4 _ _ hz) (by decide) (by decide)
  obtain ⟨xq12, mq10, hz, hF⟩ := bnd_ex hF
  have hf := Fr_tr hf (fr_Tx_numberG (0 : Int32) (9 : Int32) mq7 _ _ hz) (by decide) (by decide)
  obtain ⟨u_, mq13, hz, hF⟩ := bnd_ex hF
  have hf := Fr_tr hf (fr_Tx_mustTakeG ("outs") mq10 _ _ hz) (by decide) (by decide)
  obtain ⟨xq18, mq16, hz, hF⟩ := bnd_ex hF
  have hf := Fr_tr hf (fr_Tx_numberG (0 : Int32) (9 : Int32) mq13 _ _ hz) (by decide) (by decide)
  obtain ⟨u_, mq19, hz, hF⟩ := bnd_ex hF
  have hf := Fr_tr hf (fr_GT_keep (2 : Int32) xq3 xq6 xq12 xq18 mq16 _ _ hz) (by decide) (by decide)
  cases hF
  exact hf
set_option maxHeartbeats 4000000 in
theorem fr_GT_readSide (m0 : Mem) (v : Unit) (m' : Mem) (hF : F_GT_readSide m0 = some (v, m')) : Fr [51] [(46, 5), (46, 6), (46, 8)] m0 m' := by
  unfold F_GT_readSide at hF
  have hf : Fr [51] [(46, 5), (46, 6), (46, 8)] m0 m0 := Fr_rf
  obtain ⟨xq3, mq1, hz, hF⟩ := bnd_ex hF
  have hf := Fr_tr hf (fr_Tx_numberG (0 : Int32) (1 : Int32) m0 _ _ hz) (by decide) (by decide)
  obtain ⟨u_, mq4, hz, hF⟩ := bnd_ex hF
  have hf := Fr_tr hf (fr_Tx_mustTakeG ("bat") mq1 _ _ hz) (by decide) (by decide)
  obtain ⟨xq9, mq7, hz, hF⟩ := bnd_ex hF
  have hf := Fr_tr hf (fr_Tx_numberG (0 : Int32) (9 : Int32) mq4 _ _ hz) (by decide) (by decide)
  obtain ⟨u_, mq10, hz, hF⟩ := bnd_ex hF
  have hf := Fr_tr hf (fr_Tx_mustTakeG ("bowl") mq7 _ _ hz) (by decide) (by decide)
  obtain ⟨xq15, mq13, hz, hF⟩ := bnd_ex hF
  have hf := Fr_tr hf (fr_Tx_numberG (0 : Int32) (9 : Int32) mq10 _ _ hz) (by decide) (by decide)
  obtain ⟨u_, mq16, hz, hF⟩ := bnd_ex hF
  have hf := Fr_tr hf (fr_GT_keep (1 : Int32) xq3 xq9 xq15 (0 : Int32) mq13 _ _ hz) (by decide) (by decide)
  cases hF
  exact hf
set_option maxHeartbeats 4000000 in
theorem fr_GT_readLine (m0 : Mem) (v : Unit) (m' : Mem) (hF : F_GT_readLine m0 = some (v, m')) : Fr [51] [(46, 5), (46, 6), (46, 8), (46, 9)] m0 m' := by
  unfold F_GT_readLine at hF
  have hf : Fr [51] [(46, 5), (46, 6), (46, 8), (46, 9)] m0 m0 := Fr_rf
  obtain ⟨k34_1, ek34_1, hF⟩ := lt_ex hF
  have Jk34_1 : ∀ (mq1 : Mem), Fr [51] [(46, 5), (46, 6), (46, 8), (46, 9)] m0 mq1 → k34_1 mq1 = some (v, m') → Fr [51] [(46, 5), (46, 6), (46, 8), (46, 9)] m0 m' := by
    intro mq1 hf hF
    rw [ek34_1] at hF
    obtain ⟨zq4, mq2, hz, hF⟩ := bnd_ex hF
    have hf := Fr_tr hf (fr_Tx_takesWordG ("side") mq1 _ _ hz) (by decide) (by decide)
    rcases if_ex hF with hF | hF
    · obtain ⟨u_, mq66, hz, hF⟩ := bnd_ex hF
      have hf := Fr_tr hf (fr_GT_readSide mq2 _ _ hz) (by decide) (by decide)
      cases hF
      exact hf
    · obtain ⟨zq7, mq5, hz, hF⟩ := bnd_ex hF
      have hf := Fr_tr hf (fr_Tx_takesWordG ("slot") mq2 _ _ hz) (by decide) (by decide)
      rcases if_ex hF with hF | hF
      · obtain ⟨u_, mq63, hz, hF⟩ := bnd_ex hF
        have hf := Fr_tr hf (fr_GT_readSlot mq5 _ _ hz) (by decide) (by decide)
        cases hF
        exact hf
      · obtain ⟨zq10, mq8, hz, hF⟩ := bnd_ex hF
        have hf := Fr_tr hf (fr_Tx_takesWordG ("cloud") mq5 _ _ hz) (by decide) (by decide)
        rcases if_ex hF with hF | hF
        · obtain ⟨xq59, mq57, hz, hF⟩ := bnd_ex hF
          have hf := Fr_tr hf (fr_GT_readBits mq8 _ _ hz) (by decide) (by decide)
          obtain ⟨u_, mq60, hz, hF⟩ := bnd_ex hF
          have hf := Fr_tr hf (fr_GT_keep (3 : Int32) xq59 (0 : Int32) (0 : Int32) (0 : Int32) mq57 _ _ hz) (by decide) (by decide)
          cases hF
          exact hf
        · obtain ⟨zq13, mq11, hz, hF⟩ := bnd_ex hF
          have hf := Fr_tr hf (fr_Tx_takesWordG ("tide") mq8 _ _ hz) (by decide) (by decide)
          rcases if_ex hF with hF | hF
          · obtain ⟨xq53, mq51, hz, hF⟩ := bnd_ex hF
            have hf := Fr_tr hf (fr_GT_readBits mq11 _ _ hz) (by decide) (by decide)
            obtain ⟨u_, mq54, hz, hF⟩ := bnd_ex hF
            have hf := Fr_tr hf (fr_GT_keep (4 : Int32) xq53 (0 : Int32) (0 : Int32) (0 : Int32) mq51 _ _ hz) (by decide) (by decide)
            cases hF
            exact hf
          · obtain ⟨zq16, mq14, hz, hF⟩ := bnd_ex hF
            have hf := Fr_tr hf (fr_Tx_takesWordG ("rain") mq11 _ _ hz) (by decide) (by decide)
            rcases if_ex hF with hF | hF
            · obtain ⟨xq47, mq45, hz, hF⟩ := bnd_ex hF
              have hf := Fr_tr hf (fr_GT_readBits mq14 _ _ hz) (by decide) (by decide)
              obtain ⟨u_, mq48, hz, hF⟩ := bnd_ex hF
              have hf := Fr_tr hf (fr_GT_keep (5 : Int32) xq47 (0 : Int32) (0 : Int32) (0 : Int32) mq45 _ _ hz) (by decide) (by decide)
              cases hF
              exact hf
            · obtain ⟨zq19, mq17, hz, hF⟩ := bnd_ex hF
              have hf := Fr_tr hf (fr_Tx_takesWordG ("margin") mq14 _ _ hz) (by decide) (by decide)
              rcases if_ex hF with hF | hF
              · obtain ⟨xq41, mq39, hz, hF⟩ := bnd_ex hF
                have hf := Fr_tr hf (fr_Tx_numberG (0 : Int32) (99 : Int32) mq17 _ _ hz) (by decide) (by decide)
                obtain ⟨u_, mq42, hz, hF⟩ := bnd_ex hF
                have hf := Fr_tr hf (fr_GT_keep (6 : Int32) xq41 (0 : Int32) (0 : Int32) (0 : Int32) mq39 _ _ hz) (by decide) (by decide)
                cases hF
                exact hf
              · obtain ⟨zq22, mq20, hz, hF⟩ := bnd_ex hF
                have hf := Fr_tr hf (fr_Tx_takesWordG ("drawworth") mq17 _ _ hz) (by decide) (by decide)
                rcases if_ex hF with hF | hF
                · obtain ⟨xq35, mq33, hz, hF⟩ := bnd_ex hF
                  have hf := Fr_tr hf (fr_Tx_numberG (0 : Int32) (100 : Int32) mq20 _ _ hz) (by decide) (by decide)
                  obtain ⟨u_, mq36, hz, hF⟩ := bnd_ex hF
                  have hf := Fr_tr hf (fr_GT_keep (7 : Int32) xq35 (0 : Int32) (0 : Int32) (0 : Int32) mq33 _ _ hz) (by decide) (by decide)
                  cases hF
                  exact hf
                · obtain ⟨k219_23, ek219_23, hF⟩ := lt_ex hF
                  have Jk219_23 : ∀ (mq23 : Mem), Fr [51] [(46, 5), (46, 6), (46, 8), (46, 9)] m0 mq23 → k219_23 mq23 = some (v, m') → Fr [51] [(46, 5), (46, 6), (46, 8), (46, 9)] m0 m' := by
                    intro mq23 hf hF
                    rw [ek219_23] at hF
                    obtain ⟨u_, mq24, hz, hF⟩ := bnd_ex hF
                    have hf := Fr_tr hf (fr_Tx_setWrongG mq23 _ _ hz) (by decide) (by decide)
                    cases hF
                    exact hf
                  rcases if_ex hF with hF | hF
                  · exact Jk219_23 mq20 hf hF
                  · obtain ⟨zq29, mq27, hz, hF⟩ := bnd_ex hF
                    have hf := Fr_tr hf (fr_Tx_takesWordG ("book") mq20 _ _ hz) (by decide) (by decide)
                    rcases if_ex hF with hF | hF
                    · obtain ⟨u_, mq30, hz, hF⟩ := bnd_ex hF
                      have hf := Fr_tr hf (fr_GT_readBook mq27 _ _ hz) (by decide) (by decide)
                      cases hF
                      exact hf
                    · exact Jk219_23 mq27 hf hF
  rcases if_ex hF with hF | hF
  · obtain ⟨zq71, mq69, hz, hF⟩ := bnd_ex hF
    have hf := Fr_tr hf (fr_Tx_takesWordG ("sessions") m0 _ _ hz) (by decide) (by decide)
    rcases if_ex hF with hF | hF
    · obtain ⟨xq74, mq72, hz, hF⟩ := bnd_ex hF
      have hf := Fr_tr hf (fr_Tx_numberG (1 : Int32) (9 : Int32) mq69 _ _ hz) (by decide) (by decide)
      obtain ⟨u_, mq75, hz, hF⟩ := bnd_ex hF
      have hf := Fr_tr hf (fr_GT_keep (0 : Int32) xq74 (0 : Int32) (0 : Int32) (0 : Int32) mq72 _ _ hz) (by decide) (by decide)
      cases hF
      exact hf
    · exact Jk34_1 mq69 hf hF
  · exact Jk34_1 m0 hf hF
set_option maxHeartbeats 4000000 in
theorem fr_Tx_takesSignG (a1 : Int32) (m0 : Mem) (v : Bool) (m' : Mem) (hF : F_Tx_takesSignG a1 m0 = some (v, m')) : Fr [] [(46, 5)] m0 m' := by
  unfold F_Tx_takesSignG at hF
  have hf : Fr [] [(46, 5)] m0 m0 := Fr_rf
  obtain ⟨zq3, mq1, hz, hF⟩ := bnd_ex hF
  have hf := Fr_tr hf (fr_Tx_isAtG (2 : Int32) m0 _ _ hz) (by decide) (by decide)
  rcases if_ex hF with hF | hF
  · obtain ⟨-, hF⟩ := ckB_ex hF
    obtain ⟨xq5, exq5, hF⟩ := lt_ex hF
    obtain ⟨xq8, mq6, hz, hF⟩ := bnd_ex hF
    have hf := Fr_tr hf (fr_Tx_byteAtG xq5 mq1 _ _ hz) (by decide) (by decide)
    rcases if_ex hF with hF | hF
    · obtain ⟨mq9, emq9, hF⟩ := lt_ex hF
      have hf := Fr_sI emq9 hf (Or.inr (by decide))
      cases hF
      exact hf
    · cases hF
      exact hf
  · cases hF
    exact hf
set_option maxHeartbeats 4000000 in
theorem fr_Tx_readLinesG_L40 (a3 : Int32) (k78_10 : Int32 → Mem → Option (Int32 × Mem)) (k91_14 : Mem → Option (Int32 × Mem)) (mB : Mem) (v : Int32) (m' : Mem) (Jk78_10 : ∀ (b0 : Int32) (b1 : Mem), Fr [47, 48, 49, 50, 51] [(46, 4), (46, 5), (46, 6), (46, 8), (46, 9)] mB b1 → k78_10 b0 b1 = some (v, m') → Fr [47, 48, 49, 50, 51] [(46, 4), (46, 5), (46, 6), (46, 8), (46, 9)] mB m') (Jk91_14 : ∀ (b0 : Mem), Fr [47, 48, 49, 50, 51] [(46, 4), (46, 5), (46, 6), (46, 8), (46, 9)] mB b0 → k91_14 b0 = some (v, m') → Fr [47, 48, 49, 50, 51] [(46, 4), (46, 5), (46, 6), (46, 8), (46, 9)] mB m') : ∀ (nf : Nat) (xq19 : Int32) (mq18 : Mem), Fr [47, 48, 49, 50, 51] [(46, 4), (46, 5), (46, 6), (46, 8), (46, 9)] mB mq18 → F_Tx_readLinesG_L40 a3 k78_10 k91_14 nf xq19 mq18 = some (v, m') → Fr [47, 48, 49, 50, 51] [(46, 4), (46, 5), (46, 6), (46, 8), (46, 9)] mB m' := by
  intro nf
  induction nf with
  | zero =>
    intro xq19 mq18 hf hF
    rw [F_Tx_readLinesG_L40] at hF
    cases hF
  | succ nfq20 ih =>
    intro xq19 mq18 hf hF
    rw [F_Tx_readLinesG_L40] at hF
    rcases if_ex hF with hF | hF
    · exact Jk91_14 mq18 hf hF
    · obtain ⟨u_, mq22, hz, hF⟩ := bnd_ex hF
      have hf := Fr_tr hf (fr_GT_readLine mq18 _ _ hz) (by decide) (by decide)
      rcases if_ex hF with hF | hF
      · obtain ⟨zq27, mq25, hz, hF⟩ := bnd_ex hF
        have hf := Fr_tr hf (fr_Tx_isAtG (3 : Int32) mq22 _ _ hz) (by decide) (by decide)
        rcases if_ex hF with hF | hF
        · cases hF
          exact hf
        · obtain ⟨zq30, mq28, hz, hF⟩ := bnd_ex hF
          have hf := Fr_tr hf (fr_Tx_takesSignG (59 : Int32) mq25 _ _ hz) (by decide) (by decide)
          rcases if_ex hF with hF | hF
          · obtain ⟨xq31, exq31, hF⟩ := lt_ex hF
            exact ih xq31 mq28 hf hF
          · exact Jk78_10 xq19 mq28 hf hF
      · cases hF
        exact hf
set_option maxHeartbeats 4000000 in
theorem fr_Tx_readLinesG (a2 : Int32) (a3 : Int32) (m0 : Mem) (v : Int32) (m' : Mem) (hF : F_Tx_readLinesG a2 a3 m0 = some (v, m')) : Fr [47, 48, 49, 50, 51] [(46, 4), (46, 5), (46, 6), (46, 8), (46, 9)] m0 m' := by
  unfold F_Tx_readLinesG at hF
  have hf : Fr [47, 48, 49, 50, 51] [(46, 4), (46, 5), (46, 6), (46, 8), (46, 9)] m0 m0 := Fr_rf
  obtain ⟨u_, mq1, hz, hF⟩ := bnd_ex hF
  have hf := Fr_tr hf (fr_Tx_cutG (mnI a2 (mnI (400 : Int32) (400 : Int32))) m0 _ _ hz) (by decide) (by decide)
  obtain ⟨mq4, emq4, hF⟩ := lt_ex hF
  have hf := Fr_sI emq4 hf (Or.inr (by decide))
  obtain ⟨mq5, emq5, hF⟩ := lt_ex hF
  have hf := Fr_sI emq5 hf (Or.inr (by decide))
  obtain ⟨zq8, mq6, hz, hF⟩ := bnd_ex hF
  have hf := Fr_tr hf (fr_Tx_isAtG (3 : Int32) mq5 _ _ hz) (by decide) (by decide)
  rcases if_ex hF with hF | hF
  · cases hF
    exact hf
  · obtain ⟨k78_10, ek78_10, hF⟩ := lt_ex hF
    have Jk78_10 : ∀ (xq10 : Int32) (mq9 : Mem), Fr [47, 48, 49, 50, 51] [(46, 4), (46, 5), (46, 6), (46, 8), (46, 9)] m0 mq9 → k78_10 xq10 mq9 = some (v, m') → Fr [47, 48, 49, 50, 51] [(46, 4), (46, 5), (46, 6), (46, 8), (46, 9)] m0 m' := by
      intro xq10 mq9 hf hF
      rw [ek78_10] at hF
      obtain ⟨u_, mq11, hz, hF⟩ := bnd_ex hF
      have hf := Fr_tr hf (fr_Tx_setWrongG mq9 _ _ hz) (by decide) (by decide)
      cases hF
      exact hf
    obtain ⟨k91_14, ek91_14, hF⟩ := lt_ex hF
    have Jk91_14 : ∀ (mq14 : Mem), Fr [47, 48, 49, 50, 51] [(46, 4), (46, 5), (46, 6), (46, 8), (46, 9)] m0 mq14 → k91_14 mq14 = some (v, m') → Fr [47, 48, 49, 50, 51] [(46, 4), (46, 5), (46, 6), (46, 8), (46, 9)] m0 m' := by
      intro mq14 hf hF
      rw [ek91_14] at hF
      obtain ⟨u_, mq15, hz, hF⟩ := bnd_ex hF
      have hf := Fr_tr hf (fr_Tx_setWrongG mq14 _ _ hz) (by decide) (by decide)
      cases hF
      exact hf
    exact fr_Tx_readLinesG_L40 a3 k78_10 k91_14 m0 _ _ Jk78_10 Jk91_14 1000000 (1 : Int32) mq6 hf hF
set_option maxHeartbeats 4000000 in
theorem fr_GT_readGround (a2 : Int32) (a3 : Bool) (a4 : Int32) (m0 : Mem) (v : Int32) (m' : Mem) (hF : F_GT_readGround a2 a3 a4 m0 = some (v, m')) : Fr [47, 48, 49, 50, 51] [(46, 4), (46, 5), (46, 6), (46, 8), (46, 9), (46, 10)] m0 m' := by
  unfold F_GT_readGround at hF
  have hf : Fr [47, 48, 49, 50, 51] [(46, 4), (46, 5), (46, 6), (46, 8), (46, 9), (46, 10)] m0 m0 := Fr_rf
  obtain ⟨mq1, emq1, hF⟩ := lt_ex hF
  have hf := Fr_sI emq1 hf (Or.inr (by decide))
  obtain ⟨mq2, emq2, hF⟩ := lt_ex hF
  have hf := Fr_sI emq2 hf (Or.inr (by decide))
  obtain ⟨mq3, emq3, hF⟩ := lt_ex hF
  have hf := Fr_sZ emq3 hf (Or.inr (by decide))
  obtain ⟨xq6, mq4, hz, hF⟩ := bnd_ex hF
  have hf := Fr_tr hf (fr_Tx_readLinesG a2 (14 : Int32) mq3 _ _ hz) (by decide) (by decide)
  cases hF
  exact hf
set_option maxHeartbeats 4000000 in
theorem fr_Gr_setSide (a1 : Int32) (a2 : Int32) (a3 : Int32) (m0 : Mem) (v : Unit) (m' : Mem) (hF : F_Gr_setSide a1 a2 a3 m0 = some (v, m')) : Fr [4, 5] [] m0 m' := by
  unfold F_Gr_setSide at hF
  have hf : Fr [4, 5] [] m0 m0 := Fr_rf
  rcases if_ex hF with hF | hF
  · cases hF
    exact hf
  · rcases if_ex hF with hF | hF
    · cases hF
      exact hf
    · obtain ⟨-, hF⟩ := ckB_ex hF
      obtain ⟨mq1, emq1, hF⟩ := lt_ex hF
      have hf := Fr_sI emq1 hf (Or.inl (by decide))
      obtain ⟨-, hF⟩ := ckB_ex hF
      obtain ⟨mq3, emq3, hF⟩ := lt_ex hF
      have hf := Fr_sI emq3 hf (Or.inl (by decide))
      cases hF
      exact hf
