section GET1
/-- answers alike: thrown k there is .inl e here, by the codes of the law -/
def AnsI (codes : Nat → Int) (rT : Nat ⊕ Int32) (rM : Int32) (th : Int32) : Prop := match rT with
  | .inl e => 0 < codes e ∧ th = iI (codes e)
  | .inr v => th = iI 0 ∧ v = rM
theorem b2i_t : b2i true = iI 1 := rfl
theorem b2i_f : b2i false = iI 0 := rfl
def cdI : Nat → Int := fun e => if e = 2 then 1 else 0
theorem side_ok (a : Int32) (w : Bool) (m : Mem) (hs : SidesRep m 4 5 79) : ∃ rT rM m2, F_T_side a w m = some (rT, m) ∧ F_M_side a w m = some (rM, m2) ∧ AnsI cdI rT rM (gI m2 78 0) := by
  obtain ⟨z, rfl, z1, z2⟩ := iI_ex a
  by_cases h : 0 ≤ z ∧ z ≤ 1
  · have h9 : decide (¬ (0 ≤ z ∧ z ≤ 1)) = false := by simpa using h
    obtain ⟨s1, s2, s3, s4⟩ := hs
    cases w with
    | true =>
      refine ⟨.inr (gI m 5 z.toNat), gI m 79 (20 + 2 * z).toNat, sI m 78 0 0, ?_, ?_, rfl, ?_⟩
      · unfold F_T_side
        rw [lt2, bndX_inr (below_ok h.1 (by omega) (by omega)), if_pos rfl, bnd_some (bowlOf_eq h.1 (by omega))]
      · unfold F_M_side
        rw [lt_def, bnd_some (noSide_eq z1 z2), h9, bnd_some throwsIf_f]
        simp (disch := omega) only [↓lt_def, ↓reduceIte, ckB_true, bnd_e, Int.reduceAdd, Int.reduceSub, Int.reduceMul, Int.reduceNeg, Int.reduceToNat, Bool.false_eq_true, eq_self, not_false_eq_true, not_true_eq_false, Int.toNat_natCast, lt0, lt1, lt2, lt3, lt4, lt5, lt6, lt7, lt8, lt9, lt10, lt11, lt12, lt13, lt14, lt15, lt16, lt17, lt18, lt19, lt20, lt21, lt22, lt23, lt24, lt25, lt26, lt27, lt28, lt29, lt30, lt31, lt32, lt40, lt41, lt43, lt48, lt55, lt57, lt59, lt60, lt62, lt63, lt64, lt70, lt72, lt81, lt97, lt99, lt100, lt122, lt162, lt180, lt235, lt255, lt298, lt299, lt325, lt335, lt400, lt837, lt999, lt1000, lt1001, lt1002, lt1003, lt1004, lt1005, lt1006, lt1007, lt1008, lt1100, lt1101, lt1102, lt1103, lt1104, lt1105, lt1135, lt1136, lt1172, lt2000, lt3278, lt3575, lt10000, lt12345, lt21450, lt32767, lt193050, lt1103515245, ltm162, ltm99, ltm81, ltm8, ltm1, iI_add, iI_sub, iI_mul, iI_neg, iI_divn, iI_lt_t, iI_lt_f, iI_le_t, iI_le_f, iI_eq_t, iI_eq_f, iI_lt, iI_le, iI_eq, iI_idx, iI_inb, gI_sI, gL_sL, gZ_sZ, gI_sL, gI_sZ, gL_sI, gL_sZ, gZ_sI, gZ_sL, b2i_t]
        rw [show 19 + 2 * z + 1 = 20 + 2 * z by omega]
        simp
      · rcases (show z = 0 ∨ z = 1 by omega) with rfl | rfl
        · exact s3
        · exact s4
    | false =>
      refine ⟨.inr (gI m 4 z.toNat), gI m 79 (19 + 2 * z).toNat, sI m 78 0 0, ?_, ?_, rfl, ?_⟩
      · unfold F_T_side
        rw [lt2, bndX_inr (below_ok h.1 (by omega) (by omega)), if_neg (by decide), bnd_some (batOf_eq h.1 (by omega))]
      · unfold F_M_side
        rw [lt_def, bnd_some (noSide_eq z1 z2), h9, bnd_some throwsIf_f]
        simp (disch := omega) only [↓lt_def, ↓reduceIte, ckB_true, bnd_e, Int.reduceAdd, Int.reduceSub, Int.reduceMul, Int.reduceNeg, Int.reduceToNat, Bool.false_eq_true, eq_self, not_false_eq_true, not_true_eq_false, Int.toNat_natCast, lt0, lt1, lt2, lt3, lt4, lt5, lt6, lt7, lt8, lt9, lt10, lt11, lt12, lt13, lt14, lt15, lt16, lt17, lt18, lt19, lt20, lt21, lt22, lt23, lt24, lt25, lt26, lt27, lt28, lt29, lt30, lt31, lt32, lt40, lt41, lt43, lt48, lt55, lt57, lt59, lt60, lt62, lt63, lt64, lt70, lt72, lt81, lt97, lt99, lt100, lt122, lt162, lt180, lt235, lt255, lt298, lt299, lt325, lt335, lt400, lt837, lt999, lt1000, lt1001, lt1002, lt1003, lt1004, lt1005, lt1006, lt1007, lt1008, lt1100, lt1101, lt1102, lt1103, lt1104, lt1105, lt1135, lt1136, lt1172, lt2000, lt3278, lt3575, lt10000, lt12345, lt21450, lt32767, lt193050, lt1103515245, ltm162, ltm99, ltm81, ltm8, ltm1, iI_add, iI_sub, iI_mul, iI_neg, iI_divn, iI_lt_t, iI_lt_f, iI_le_t, iI_le_f, iI_eq_t, iI_eq_f, iI_lt, iI_le, iI_eq, iI_idx, iI_inb, gI_sI, gL_sL, gZ_sZ, gI_sL, gI_sZ, gL_sI, gL_sZ, gZ_sI, gZ_sL, b2i_f, Int.add_zero]
        simp
      · rcases (show z = 0 ∨ z = 1 by omega) with rfl | rfl
        · exact s1
        · exact s2
  · have h9 : decide (¬ (0 ≤ z ∧ z ≤ 1)) = true := decide_eq_true h
    refine ⟨.inl 2, iI 0, sI (sI m 78 0 0) 78 0 1, ?_, ?_, by decide, rfl⟩
    · unfold F_T_side
      rw [lt2, bndX_inl (below_no z1 z2 (by omega) (by omega) (by omega))]
    · unfold F_M_side
      rw [lt_def, bnd_some (noSide_eq z1 z2), h9, bnd_some throwsIf_t, if_pos rfl]
      rfl
theorem slot_ok (a c : Int32) (w : Bool) (m : Mem) (hs : SlotRep m 6 7 79) : ∃ rT rM m2, F_T_slot a c w m = some (rT, m) ∧ F_M_slot a c w m = some (rM, m2) ∧ AnsI cdI rT rM (gI m2 78 0) := by
  obtain ⟨z, rfl, z1, z2⟩ := iI_ex a
  obtain ⟨y, rfl, y1, y2⟩ := iI_ex c
  by_cases h : 0 ≤ z ∧ z ≤ 3
  · by_cases h' : 0 ≤ y ∧ y ≤ 3
    · have h8 : decide (0 ≤ z ∧ z ≤ 3) = true := decide_eq_true h
      have h9 : decide (¬ (0 ≤ y ∧ y ≤ 3)) = false := by simpa using h'
      obtain ⟨k, hk⟩ : ∃ k : Nat, k = (z * 4 + y).toNat := ⟨_, rfl⟩
      obtain ⟨p1, p2⟩ := hs k (by omega)
      cases w with
      | true =>
        refine ⟨.inr (gI m 7 k), gI m 79 (24 + 2 * k), sI m 78 0 0, ?_, ?_, rfl, p2⟩
        · unfold F_T_slot
          rw [lt4, bndX_inr (below_ok h.1 (by omega) (by omega)), bndX_inr (below_ok h'.1 (by omega) (by omega)), if_pos rfl, bnd_some (outsOf_eq h.1 (by omega) h'.1 (by omega)), ← hk]
        · unfold F_M_slot
          rw [lt_def, lt0, lt3, bnd_some (in_eq z1 z2 (by omega) (by omega) (by omega) (by omega)), h8]
          refine lt_go (fun k27 hk27 => ?_)
          refine lt_go (fun k22 hk22 => ?_)
          rw [if_pos rfl, bnd_some (noSlot_eq y1 y2), h9, if_neg (by decide), hk27]
          dsimp only
          rw [bnd_some throwsIf_f, if_neg (by decide)]
          refine lt_go (fun k50 hk50 => ?_)
          rw [if_pos rfl, hk50]
          dsimp only
          rw [b2i_t, bnd_some (ofSlot_eq h.1 (by omega) h'.1 (by omega) (by omega) (by omega)), show (23 + 2 * (4 * z + y) + 1).toNat = 24 + 2 * k by omega]
          rfl
      | false =>
        refine ⟨.inr (gI m 6 k), gI m 79 (23 + 2 * k), sI m 78 0 0, ?_, ?_, rfl, p1⟩
        · unfold F_T_slot
          rw [lt4, bndX_inr (below_ok h.1 (by omega) (by omega)), bndX_inr (below_ok h'.1 (by omega) (by omega)), if_neg (by decide), bnd_some (runsOf_eq h.1 (by omega) h'.1 (by omega)), ← hk]
        · unfold F_M_slot
          rw [lt_def, lt0, lt3, bnd_some (in_eq z1 z2 (by omega) (by omega) (by omega) (by omega)), h8]
          refine lt_go (fun k27 hk27 => ?_)
          refine lt_go (fun k22 hk22 => ?_)
          rw [if_pos rfl, bnd_some (noSlot_eq y1 y2), h9, if_neg (by decide), hk27]
          dsimp only
          rw [bnd_some throwsIf_f, if_neg (by decide)]
          refine lt_go (fun k50 hk50 => ?_)
          rw [if_neg (by decide), hk50]
          dsimp only
          rw [b2i_f, bnd_some (ofSlot_eq h.1 (by omega) h'.1 (by omega) (by omega) (by omega)), show (23 + 2 * (4 * z + y) + 0).toNat = 23 + 2 * k by omega]
          rfl
    · have h8 : decide (0 ≤ z ∧ z ≤ 3) = true := decide_eq_true h
      have h9 : decide (¬ (0 ≤ y ∧ y ≤ 3)) = true := decide_eq_true h'
      refine ⟨.inl 2, iI 0, sI (sI m 78 0 0) 78 0 1, ?_, ?_, by decide, rfl⟩
      · unfold F_T_slot
        rw [lt4, bndX_inr (below_ok h.1 (by omega) (by omega)), bndX_inl (below_no y1 y2 (by omega) (by omega) (by omega))]
      · unfold F_M_slot
        rw [lt_def, lt0, lt3, bnd_some (in_eq z1 z2 (by omega) (by omega) (by omega) (by omega)), h8]
        refine lt_go (fun k27 hk27 => ?_)
        refine lt_go (fun k22 hk22 => ?_)
        rw [if_pos rfl, bnd_some (noSlot_eq y1 y2), h9, if_pos rfl, hk22]
        dsimp only
        rw [hk27]
        rfl
  · have h8 : decide (0 ≤ z ∧ z ≤ 3) = false := by
      rw [decide_eq_false_iff_not]
      exact h
    refine ⟨.inl 2, iI 0, sI (sI m 78 0 0) 78 0 1, ?_, ?_, by decide, rfl⟩
    · unfold F_T_slot
      rw [lt4, bndX_inl (below_no z1 z2 (by omega) (by omega) (by omega))]
    · unfold F_M_slot
      rw [lt_def, lt0, lt3, bnd_some (in_eq z1 z2 (by omega) (by omega) (by omega) (by omega)), h8]
      refine lt_go (fun k27 hk27 => ?_)
      refine lt_go (fun k22 hk22 => ?_)
      rw [if_neg (by decide), hk22]
      dsimp only
      rw [hk27]
      rfl
end GET1
