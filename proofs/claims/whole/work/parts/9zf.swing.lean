section SWING
/-- a byte of the reference's tape -/
def sb (z : Int) : Int := if z < 128 then z else z - 256
theorem sb_eq {z : Int} (z0 : 0 ≤ z) (z1 : z ≤ 255) : (iI z).toInt8.toInt32 = iI (sb z) := by
  apply Int32.toInt_inj.mp
  have h1 : -128 ≤ sb z ∧ sb z ≤ 127 := by unfold sb; split <;> omega
  rw [Int8.toInt_toInt32, Int32.toInt_toInt8, iI_toInt (by omega) (by omega), iI_toInt (by omega) (by omega)]
  unfold sb
  split
  · exact Int.bmod_eq_of_le (by omega) (by omega)
  · rw [Int.bmod_def]
    split <;> omega
/-- bytes that lie on the tape -/
def BT (m : Mem) (b : Nat → Int) (T : Nat) : Prop := T ≤ 400 ∧ ∀ k, k < T → gI m 1 k = iI (b k) ∧ 0 ≤ b k ∧ b k ≤ 255
def RT (m : Mem) (b : Nat → Int) (T : Nat) : Prop := T ≤ 400 ∧ ∀ k, k < T → gI m 83 k = iI (sb (b k)) ∧ 0 ≤ b k ∧ b k ≤ 255
theorem tape_b {m : Mem} (h : ITape m) : ∃ (T : Nat) (b : Nat → Int), gI m 0 1 = iI T ∧ gI m 78 8 = iI T ∧ BT m b T ∧ RT m b T := by
  obtain ⟨T, h4, h1, h2, h3⟩ := h
  refine ⟨T, fun k => (gI m 1 k).toInt, h1, h2, ⟨h4, fun k hk => ?_⟩, ⟨h4, fun k hk => ?_⟩⟩
  · obtain ⟨⟨z, e, z0, z1⟩, -⟩ := h3 k hk
    refine ⟨(iI_of _).symm, ?_⟩
    show 0 ≤ (gI m 1 k).toInt ∧ (gI m 1 k).toInt ≤ 255
    rw [e, iI_toInt (by omega) (by omega)]
    exact ⟨z0, z1⟩
  · obtain ⟨⟨z, e, z0, z1⟩, e2⟩ := h3 k hk
    show gI m 83 k = iI (sb (gI m 1 k).toInt) ∧ 0 ≤ (gI m 1 k).toInt ∧ (gI m 1 k).toInt ≤ 255
    rw [e2, e, iI_toInt (by omega) (by omega), sb_eq z0 z1]
    exact ⟨rfl, z0, z1⟩
theorem BT.cg {m m' : Mem} {b : Nat → Int} {T : Nat} (h : BT m b T) (e : ∀ j, gI m' 1 j = gI m 1 j) : BT m' b T := ⟨h.1, fun k hk => by rw [e]; exact h.2 k hk⟩
theorem RT.cg {m m' : Mem} {b : Nat → Int} {T : Nat} (h : RT m b T) (e : ∀ j, gI m' 83 j = gI m 83 j) : RT m' b T := ⟨h.1, fun k hk => by rw [e]; exact h.2 k hk⟩
theorem tapeIsBelow_eq {m : Mem} {b : Nat → Int} {T : Nat} (h : BT m b T) : F_T_tapeIsBelow (iI T) (4 : Int32) m = some (decide (∀ i, i < T → b i < 4), m) := by
  have hT := h.1
  have up : ∀ (d k nf : Nat), k + d = T → d < nf → (∀ i, i < k → b i < 4) → F_T_tapeIsBelow_L2 (iI T) (4 : Int32) nf (iI k) m = some (decide (∀ i, i < T → b i < 4), m) := by
    intro d
    induction d with
    | zero =>
      intro k nf hk hnf hb
      obtain ⟨nf, rfl⟩ : ∃ x, nf = x + 1 := ⟨nf - 1, by omega⟩
      rw [F_T_tapeIsBelow_L2, if_pos (by simp (disch := omega) only [↓lt_def, ↓reduceIte, ckB_true, bnd_e, Int.reduceAdd, Int.reduceSub, Int.reduceMul, Int.reduceNeg, Int.reduceToNat, Bool.false_eq_true, eq_self, not_false_eq_true, not_true_eq_false, Int.toNat_natCast, lt0, lt1, lt2, lt3, lt4, lt5, lt6, lt7, lt8, lt9, lt10, lt11, lt12, lt13, lt14, lt15, lt16, lt17, lt18, lt19, lt20, lt21, lt22, lt23, lt24, lt25, lt26, lt27, lt28, lt29, lt30, lt31, lt32, lt40, lt41, lt43, lt48, lt55, lt57, lt59, lt60, lt62, lt63, lt64, lt70, lt72, lt81, lt97, lt99, lt100, lt122, lt162, lt180, lt235, lt255, lt298, lt299, lt325, lt335, lt400, lt837, lt999, lt1000, lt1001, lt1002, lt1003, lt1004, lt1005, lt1006, lt1007, lt1008, lt1100, lt1101, lt1102, lt1103, lt1104, lt1105, lt1135, lt1136, lt1172, lt2000, lt3278, lt3575, lt10000, lt12345, lt21450, lt32767, lt193050, lt1103515245, ltm162, ltm99, ltm81, ltm8, ltm1, iI_add, iI_sub, iI_mul, iI_neg, iI_divn, iI_lt_t, iI_lt_f, iI_le_t, iI_le_f, iI_eq_t, iI_eq_f, iI_lt, iI_le, iI_eq, iI_idx, iI_inb, gI_sI, gL_sL, gZ_sZ, gI_sL, gI_sZ, gL_sI, gL_sZ, gZ_sI, gZ_sL]), decide_eq_true (fun i hi => hb i (by omega))]
    | succ d ih =>
      intro k nf hk hnf hb
      obtain ⟨nf, rfl⟩ : ∃ x, nf = x + 1 := ⟨nf - 1, by omega⟩
      obtain ⟨e1, e2, e3⟩ := h.2 k (by omega)
      rw [F_T_tapeIsBelow_L2, if_neg (by simp (disch := omega) only [↓lt_def, ↓reduceIte, ckB_true, bnd_e, Int.reduceAdd, Int.reduceSub, Int.reduceMul, Int.reduceNeg, Int.reduceToNat, Bool.false_eq_true, eq_self, not_false_eq_true, not_true_eq_false, Int.toNat_natCast, lt0, lt1, lt2, lt3, lt4, lt5, lt6, lt7, lt8, lt9, lt10, lt11, lt12, lt13, lt14, lt15, lt16, lt17, lt18, lt19, lt20, lt21, lt22, lt23, lt24, lt25, lt26, lt27, lt28, lt29, lt30, lt31, lt32, lt40, lt41, lt43, lt48, lt55, lt57, lt59, lt60, lt62, lt63, lt64, lt70, lt72, lt81, lt97, lt99, lt100, lt122, lt162, lt180, lt235, lt255, lt298, lt299, lt325, lt335, lt400, lt837, lt999, lt1000, lt1001, lt1002, lt1003, lt1004, lt1005, lt1006, lt1007, lt1008, lt1100, lt1101, lt1102, lt1103, lt1104, lt1105, lt1135, lt1136, lt1172, lt2000, lt3278, lt3575, lt10000, lt12345, lt21450, lt32767, lt193050, lt1103515245, ltm162, ltm99, ltm81, ltm8, ltm1, iI_add, iI_sub, iI_mul, iI_neg, iI_divn, iI_lt_t, iI_lt_f, iI_le_t, iI_le_f, iI_eq_t, iI_eq_f, iI_lt, iI_le, iI_eq, iI_idx, iI_inb, gI_sI, gL_sL, gZ_sZ, gI_sL, gI_sZ, gL_sI, gL_sZ, gZ_sI, gZ_sL]), if_neg (by simp (disch := omega) only [↓lt_def, ↓reduceIte, ckB_true, bnd_e, Int.reduceAdd, Int.reduceSub, Int.reduceMul, Int.reduceNeg, Int.reduceToNat, Bool.false_eq_true, eq_self, not_false_eq_true, not_true_eq_false, Int.toNat_natCast, lt0, lt1, lt2, lt3, lt4, lt5, lt6, lt7, lt8, lt9, lt10, lt11, lt12, lt13, lt14, lt15, lt16, lt17, lt18, lt19, lt20, lt21, lt22, lt23, lt24, lt25, lt26, lt27, lt28, lt29, lt30, lt31, lt32, lt40, lt41, lt43, lt48, lt55, lt57, lt59, lt60, lt62, lt63, lt64, lt70, lt72, lt81, lt97, lt99, lt100, lt122, lt162, lt180, lt235, lt255, lt298, lt299, lt325, lt335, lt400, lt837, lt999, lt1000, lt1001, lt1002, lt1003, lt1004, lt1005, lt1006, lt1007, lt1008, lt1100, lt1101, lt1102, lt1103, lt1104, lt1105, lt1135, lt1136, lt1172, lt2000, lt3278, lt3575, lt10000, lt12345, lt21450, lt32767, lt193050, lt1103515245, ltm162, ltm99, ltm81, ltm8, ltm1, iI_add, iI_sub, iI_mul, iI_neg, iI_divn, iI_lt_t, iI_lt_f, iI_le_t, iI_le_f, iI_eq_t, iI_eq_f, iI_lt, iI_le, iI_eq, iI_idx, iI_inb, gI_sI, gL_sL, gZ_sZ, gI_sL, gI_sZ, gL_sI, gL_sZ, gZ_sI, gZ_sL]), ckB_t (iI_inb (by omega) (by omega) (by omega)), lt_def, iI_idx (by omega) (by omega), Int.toNat_natCast, e1]
      by_cases hb4 : b k < 4
      · rw [if_pos (by simp (disch := omega) only [↓lt_def, ↓reduceIte, ckB_true, bnd_e, Int.reduceAdd, Int.reduceSub, Int.reduceMul, Int.reduceNeg, Int.reduceToNat, Bool.false_eq_true, eq_self, not_false_eq_true, not_true_eq_false, Int.toNat_natCast, lt0, lt1, lt2, lt3, lt4, lt5, lt6, lt7, lt8, lt9, lt10, lt11, lt12, lt13, lt14, lt15, lt16, lt17, lt18, lt19, lt20, lt21, lt22, lt23, lt24, lt25, lt26, lt27, lt28, lt29, lt30, lt31, lt32, lt40, lt41, lt43, lt48, lt55, lt57, lt59, lt60, lt62, lt63, lt64, lt70, lt72, lt81, lt97, lt99, lt100, lt122, lt162, lt180, lt235, lt255, lt298, lt299, lt325, lt335, lt400, lt837, lt999, lt1000, lt1001, lt1002, lt1003, lt1004, lt1005, lt1006, lt1007, lt1008, lt1100, lt1101, lt1102, lt1103, lt1104, lt1105, lt1135, lt1136, lt1172, lt2000, lt3278, lt3575, lt10000, lt12345, lt21450, lt32767, lt193050, lt1103515245, ltm162, ltm99, ltm81, ltm8, ltm1, iI_add, iI_sub, iI_mul, iI_neg, iI_divn, iI_lt_t, iI_lt_f, iI_le_t, iI_le_f, iI_eq_t, iI_eq_f, iI_lt, iI_le, iI_eq, iI_idx, iI_inb, gI_sI, gL_sL, gZ_sZ, gI_sL, gI_sZ, gL_sI, gL_sZ, gZ_sI, gZ_sL]), lt_def, lt1, iI_add]
        exact ih (k + 1) nf (by omega) (by omega) (fun i hi => by
          by_cases hik : i = k
          · rw [hik]; exact hb4
          · exact hb i (by omega))
      · rw [if_neg (by simp (disch := omega) only [↓lt_def, ↓reduceIte, ckB_true, bnd_e, Int.reduceAdd, Int.reduceSub, Int.reduceMul, Int.reduceNeg, Int.reduceToNat, Bool.false_eq_true, eq_self, not_false_eq_true, not_true_eq_false, Int.toNat_natCast, lt0, lt1, lt2, lt3, lt4, lt5, lt6, lt7, lt8, lt9, lt10, lt11, lt12, lt13, lt14, lt15, lt16, lt17, lt18, lt19, lt20, lt21, lt22, lt23, lt24, lt25, lt26, lt27, lt28, lt29, lt30, lt31, lt32, lt40, lt41, lt43, lt48, lt55, lt57, lt59, lt60, lt62, lt63, lt64, lt70, lt72, lt81, lt97, lt99, lt100, lt122, lt162, lt180, lt235, lt255, lt298, lt299, lt325, lt335, lt400, lt837, lt999, lt1000, lt1001, lt1002, lt1003, lt1004, lt1005, lt1006, lt1007, lt1008, lt1100, lt1101, lt1102, lt1103, lt1104, lt1105, lt1135, lt1136, lt1172, lt2000, lt3278, lt3575, lt10000, lt12345, lt21450, lt32767, lt193050, lt1103515245, ltm162, ltm99, ltm81, ltm8, ltm1, iI_add, iI_sub, iI_mul, iI_neg, iI_divn, iI_lt_t, iI_lt_f, iI_le_t, iI_le_f, iI_eq_t, iI_eq_f, iI_lt, iI_le, iI_eq, iI_idx, iI_inb, gI_sI, gL_sL, gZ_sZ, gI_sL, gI_sZ, gL_sI, gL_sZ, gZ_sI, gZ_sL]), decide_eq_false (fun q => hb4 (q k (by omega)))]
  unfold F_T_tapeIsBelow
  obtain ⟨N, hN⟩ : ∃ N : Nat, N = 1000000 := ⟨_, rfl⟩
  rw [← hN]
  exact up T 0 N (by omega) (by omega) (fun i hi => by omega)
theorem sb3 {z : Int} (z0 : 0 ≤ z) (z1 : z ≤ 255) : (0 ≤ sb z ∧ sb z ≤ 3) ↔ z < 4 := by unfold sb; split <;> omega
theorem sb_rng {z : Int} (z0 : 0 ≤ z) (z1 : z ≤ 255) : -128 ≤ sb z ∧ sb z ≤ 127 := by unfold sb; split <;> omega
theorem swingL50 {m : Mem} {b : Nat → Int} {T : Nat} (h : RT m b T) (h10 : gI m 78 10 = iI T) (kk : Bool → Mem → Option (Int32 × Mem)) : ∀ (d k nf : Nat) (is : Bool), k + d = T → d < nf → F_M_swing_L50 kk nf is (iI k) m = kk (is && decide (∀ i, i < T → k ≤ i → b i < 4)) m := by
  have hT := h.1
  intro d
  induction d with
  | zero =>
    intro k nf is hk hnf
    obtain ⟨nf, rfl⟩ : ∃ x, nf = x + 1 := ⟨nf - 1, by omega⟩
    rw [F_M_swing_L50, if_pos (by rw [h10]; simp (disch := omega) only [↓lt_def, ↓reduceIte, ckB_true, bnd_e, Int.reduceAdd, Int.reduceSub, Int.reduceMul, Int.reduceNeg, Int.reduceToNat, Bool.false_eq_true, eq_self, not_false_eq_true, not_true_eq_false, Int.toNat_natCast, lt0, lt1, lt2, lt3, lt4, lt5, lt6, lt7, lt8, lt9, lt10, lt11, lt12, lt13, lt14, lt15, lt16, lt17, lt18, lt19, lt20, lt21, lt22, lt23, lt24, lt25, lt26, lt27, lt28, lt29, lt30, lt31, lt32, lt40, lt41, lt43, lt48, lt55, lt57, lt59, lt60, lt62, lt63, lt64, lt70, lt72, lt81, lt97, lt99, lt100, lt122, lt162, lt180, lt235, lt255, lt298, lt299, lt325, lt335, lt400, lt837, lt999, lt1000, lt1001, lt1002, lt1003, lt1004, lt1005, lt1006, lt1007, lt1008, lt1100, lt1101, lt1102, lt1103, lt1104, lt1105, lt1135, lt1136, lt1172, lt2000, lt3278, lt3575, lt10000, lt12345, lt21450, lt32767, lt193050, lt1103515245, ltm162, ltm99, ltm81, ltm8, ltm1, iI_add, iI_sub, iI_mul, iI_neg, iI_divn, iI_lt_t, iI_lt_f, iI_le_t, iI_le_f, iI_eq_t, iI_eq_f, iI_lt, iI_le, iI_eq, iI_idx, iI_inb, gI_sI, gL_sL, gZ_sZ, gI_sL, gI_sZ, gL_sI, gL_sZ, gZ_sI, gZ_sL]), decide_eq_true (fun i hi hi2 => by omega), Bool.and_true]
  | succ d ih =>
    intro k nf is hk hnf
    obtain ⟨nf, rfl⟩ : ∃ x, nf = x + 1 := ⟨nf - 1, by omega⟩
    rw [F_M_swing_L50, if_neg (by rw [h10]; simp (disch := omega) only [↓lt_def, ↓reduceIte, ckB_true, bnd_e, Int.reduceAdd, Int.reduceSub, Int.reduceMul, Int.reduceNeg, Int.reduceToNat, Bool.false_eq_true, eq_self, not_false_eq_true, not_true_eq_false, Int.toNat_natCast, lt0, lt1, lt2, lt3, lt4, lt5, lt6, lt7, lt8, lt9, lt10, lt11, lt12, lt13, lt14, lt15, lt16, lt17, lt18, lt19, lt20, lt21, lt22, lt23, lt24, lt25, lt26, lt27, lt28, lt29, lt30, lt31, lt32, lt40, lt41, lt43, lt48, lt55, lt57, lt59, lt60, lt62, lt63, lt64, lt70, lt72, lt81, lt97, lt99, lt100, lt122, lt162, lt180, lt235, lt255, lt298, lt299, lt325, lt335, lt400, lt837, lt999, lt1000, lt1001, lt1002, lt1003, lt1004, lt1005, lt1006, lt1007, lt1008, lt1100, lt1101, lt1102, lt1103, lt1104, lt1105, lt1135, lt1136, lt1172, lt2000, lt3278, lt3575, lt10000, lt12345, lt21450, lt32767, lt193050, lt1103515245, ltm162, ltm99, ltm81, ltm8, ltm1, iI_add, iI_sub, iI_mul, iI_neg, iI_divn, iI_lt_t, iI_lt_f, iI_le_t, iI_le_f, iI_eq_t, iI_eq_f, iI_lt, iI_le, iI_eq, iI_idx, iI_inb, gI_sI, gL_sL, gZ_sZ, gI_sL, gI_sZ, gL_sI, gL_sZ, gZ_sI, gZ_sL])]
    cases is with
    | false => rw [if_neg (by decide), Bool.false_and]
    | true =>
      obtain ⟨e1, e2, e3⟩ := h.2 k (by omega)
      have hr := sb_rng e2 e3
      rw [if_pos rfl, ckB_t (iI_inb (by omega) (by omega) (by omega)), lt_def, iI_idx (by omega) (by omega), Int.toNat_natCast, e1, bnd_some (noSlot_eq (by omega) (by omega)), lt_def]
      by_cases hb4 : b k < 4
      · rw [decide_eq_false (show ¬ ¬ (0 ≤ sb (b k) ∧ sb (b k) ≤ 3) from fun q => q ((sb3 e2 e3).2 hb4)), if_neg (by decide)]
        dsimp only
        rw [lt_def, lt1, iI_add]
        refine (ih (k + 1) nf true (by omega) (by omega)).trans ?_
        congr 2
        rw [decide_eq_decide]
        constructor
        · intro q i hi hi2
          by_cases hik : i = k
          · rw [hik]; exact hb4
          · exact q i hi (by omega)
        · intro q i hi hi2
          exact q i hi (by omega)
      · rw [decide_eq_true (show ¬ (0 ≤ sb (b k) ∧ sb (b k) ≤ 3) from fun q => hb4 ((sb3 e2 e3).1 q)), if_pos rfl]
        dsimp only
        rw [lt_def, lt1, iI_add, decide_eq_false (fun q => hb4 (q k (by omega) (by omega))), Bool.and_false]
        exact ih (k + 1) nf false (by omega) (by omega)
def useL : List (Nat × Nat) := (0, 1) :: (78, 8) :: scrL
def useA : List Nat := 79 :: scrA
theorem use_ne {o : Nat} (h : useA.contains o = false) : o ∉ useA := by
  intro q
  rw [List.contains_eq_mem, decide_eq_false_iff_not] at h
  exact h q
/-- the tape was used, else only what is left behind -/
theorem IV.use {B B' : Nat} {law : Option (List (Int × List Int))} {n mg wd tx bc : Int} {t : Mt} {m m' : Mem} (h : IV B law n mg wd tx bc t m) (hf : Fr useA useL m m') (hw : gI m' 79 = gI m 79) (h01 : gI m' 0 1 = iI 0) (h88 : gI m' 78 8 = iI 0) (hb : gZ m' 78 22 = false) (hl : LevOK law m') (ho : OdR B' law n mg wd m') : IV B' law n mg wd tx bc t m' := by
  have eI : ∀ o j, useA.contains o = false → useL.contains (o, j) = false → gI m' o j = gI m o j := by
    intro o j a b
    refine hf.gI (use_ne a) (fun q => ?_)
    rw [List.contains_eq_mem, decide_eq_false_iff_not] at b
    exact b q
  have eZ : ∀ o j, useA.contains o = false → useL.contains (o, j) = false → gZ m' o j = gZ m o j := by
    intro o j a b
    refine hf.gZ (use_ne a) (fun q => ?_)
    rw [List.contains_eq_mem, decide_eq_false_iff_not] at b
    exact b q
  have eL : ∀ o, useA.contains o = false → o ≠ 2 → o ≠ 78 → o ≠ 0 → ∀ j, (o, j) ∉ useL := by
    intro o a b c d j q
    simp only [useL, scrL, List.mem_cons, Prod.mk.injEq, List.not_mem_nil, or_false] at q
    omega
  have e2 : ∀ o, useA.contains o = false → o ≠ 2 → o ≠ 78 → o ≠ 0 → ∀ j, gI m' o j = gI m o j := fun o a b c d j => hf.gI (use_ne a) (eL o a b c d j)
  have e3 : ∀ o, useA.contains o = false → o ≠ 2 → o ≠ 78 → o ≠ 0 → ∀ j, gZ m' o j = gZ m o j := fun o a b c d j => hf.gZ (use_ne a) (eL o a b c d j)
  have cs : ∀ o, (20 ≤ o ∧ o ≤ 45) ∨ (64 ≤ o ∧ o ≤ 77) ∨ o = 80 → useA.contains o = false := by
    intro o ho
    rw [List.contains_eq_mem, decide_eq_false_iff_not]
    simp only [useA, scrA, List.mem_cons, List.not_mem_nil, or_false]
    omega
  refine IV.mk ⟨⟨0, by omega, h01, h88, fun k hk => absurd hk (by omega)⟩, ?_, hb, ?_, ?_, hl, ?_, ?_, h.mo, ?_, ho⟩
  · rw [eI 0 2 rfl rfl, eI 78 13 rfl rfl]
    exact h.fa
  · refine h.im.cg (eZ 0 13 rfl rfl) (eZ 78 5 rfl rfl) (fun o ho j => ?_)
    exact ⟨e2 o (cs o (by omega)) (by omega) (by omega) (by omega) j, e3 o (cs o (by omega)) (by omega) (by omega) (by omega) j⟩
  · exact h.gr.cg (fun j _ => e2 3 rfl (by decide) (by decide) (by decide) j) (fun j _ => e2 4 rfl (by decide) (by decide) (by decide) j) (fun j _ => e2 5 rfl (by decide) (by decide) (by decide) j) (fun j _ => e2 6 rfl (by decide) (by decide) (by decide) j) (fun j _ => e2 7 rfl (by decide) (by decide) (by decide) j) (fun j => e2 8 rfl (by decide) (by decide) (by decide) j) (fun j _ => e2 9 rfl (by decide) (by decide) (by decide) j) (e2 12 rfl (by decide) (by decide) (by decide) 0) (fun j _ => e2 13 rfl (by decide) (by decide) (by decide) j) (fun j _ _ => by rw [hw])
  · exact h.cm.cg (fun j => e2 16 rfl (by decide) (by decide) (by decide) j) (fun j => e2 17 rfl (by decide) (by decide) (by decide) j) (fun j => e3 16 rfl (by decide) (by decide) (by decide) j)
  · exact h.wm.to (fun j => by rw [hw])
  · refine h.pa.cg (fun j => e2 20 rfl (by decide) (by decide) (by decide) j) (eI 78 6 rfl rfl) (fun o a b j => ?_) (fun j => e2 82 rfl (by decide) (by decide) (by decide) j) (fun j _ => by rw [hw])
    exact ⟨e2 o (cs o (by omega)) (by omega) (by omega) (by omega) j, e3 o (cs o (by omega)) (by omega) (by omega) (by omega) j⟩
/-- neither levels nor odds are touched -/
theorem IV.use0 {B : Nat} {law : Option (List (Int × List Int))} {n mg wd tx bc : Int} {t : Mt} {m m' : Mem} (h : IV B law n mg wd tx bc t m) (hf : Fr [62, 63] [(0, 1), (78, 0), (78, 8), (78, 9), (78, 10)] m m') (h01 : gI m' 0 1 = iI 0) (h88 : gI m' 78 8 = iI 0) : IV B law n mg wd tx bc t m' := by
  have hw : gI m' 79 = gI m 79 := by
    funext j
    exact hf.gI (by simp) (by simp)
  refine h.use (Fr_wk hf (by decide) (by decide)) hw h01 h88 ((hf.gZ (by simp) (by simp)).trans h.bli) (fun k hk => ?_) (h.od.cg h.gr.la.okl (fun j _ => by rw [hw]) (fun j => hf.gL (by simp) (by simp)) (fun j => hf 2 j (by simp) (by simp)))
  rw [hf.gI (o := 14) (by simp) (by simp), hw]
  exact h.lv k hk
theorem plT_cg {w w' : Nat → Int32} (hg : GrEq w' w) {law : Option (List (Int × List Int))} (hl : ∀ l, law = some l → okLaw l) {t : Mt} {n sl : Int} {hd : Bool} (f0 : 0 ≤ t.fi) (f1 : t.fi ≤ 1) (s0 : 0 ≤ sl) (s4 : sl < 4) : plT t n w' law sl hd = plT t n w law sl hd := by
  have hb := batZ_rng f0 f1
  have hv : levZ w' law t.pl t.inn (batZ t) = levZ w law t.pl t.inn (batZ t) := levZ_cg law (hg 6 (by omega)) (hg 7 (by omega)) (fun j a b => hg j (by omega)) hb.1 hb.2
  have hr : rainB w' t.pl = rainB w t.pl := by unfold rainB; rw [hg 8 (by omega)]
  have hv2 : 0 ≤ levZ w law t.pl t.inn (batZ t) ∧ levZ w law t.pl t.inn (batZ t) ≤ 3 := levZ_rng hl
  unfold plT ruT ouT
  rw [hv, hr, hg _ (by omega), hg _ (by omega)]
/-- a match in which told slots come one behind another -/
def trS (n : Int) (w : Nat → Int32) (law : Option (List (Int × List Int))) (sl : Nat → Int) (t : Mt) : Nat → Mt
  | 0 => t
  | k + 1 => if (trS n w law sl t k).win = -1 then plT (trS n w law sl t k) n w law (sl k) false else trS n w law sl t k
theorem trS_s (n : Int) (w : Nat → Int32) (law : Option (List (Int × List Int))) (sl : Nat → Int) (t : Mt) (k : Nat) : trS n w law sl t (k + 1) = if (trS n w law sl t k).win = -1 then plT (trS n w law sl t k) n w law (sl k) false else trS n w law sl t k := rfl
theorem trS_fi {n : Int} {w : Nat → Int32} {law : Option (List (Int × List Int))} {sl : Nat → Int} {t : Mt} : ∀ k, (trS n w law sl t k).fi = t.fi
  | 0 => rfl
  | k + 1 => by
    rw [trS_s]
    split
    · refine Eq.trans (b := (trS n w law sl t k).fi) ?_ (trS_fi k)
      unfold plT plR jd nxI
      split <;> rfl
    · exact trS_fi k
theorem trS_ok {law : Option (List (Int × List Int))} {m : Mem} {t : Mt} {n mg wd tx bc : Int} (hg : GR m 3 4 5 6 7 8 9 12 13 79 law n mg wd tx bc) (mo : MtOk t n) (f0 : 0 ≤ t.fi) {sl : Nat → Int} : ∀ k, (∀ i, i < k → 0 ≤ sl i ∧ sl i < 4) → MtOk (trS n (gI m 79) law sl t k) n
  | 0, _ => mo
  | k + 1, hs => by
    have ih := trS_ok hg mo f0 k (fun i hi => hs i (by omega))
    rw [trS_s]
    split
    · rename_i hw
      exact plT_ok false hg ih ⟨by rw [trS_fi]; exact f0, hw⟩ (hs k (by omega)).1 (hs k (by omega)).2 rfl
    · exact ih
theorem trS_st {n : Int} {w : Nat → Int32} {law : Option (List (Int × List Int))} {sl : Nat → Int} {t : Mt} {k : Nat} (hk : (trS n w law sl t k).win ≠ -1) : ∀ d, trS n w law sl t (k + d) = trS n w law sl t k
  | 0 => rfl
  | d + 1 => by
    have ih := trS_st (n := n) (w := w) (law := law) (sl := sl) (t := t) (k := k) hk d
    rw [show k + (d + 1) = k + d + 1 from rfl, trS_s, ih, if_neg hk]
/-- the class's trial -/
theorem Tswing_loop {law : Option (List (Int × List Int))} {m : Mem} {t : Mt} {n mg wd tx bc : Int} {b : Nat → Int} {T : Nat} (hg : GR m 3 4 5 6 7 8 9 12 13 79 law n mg wd tx bc) (mo : MtOk t n) (f0 : 0 ≤ t.fi) (hb : BT m b T) (hs : ∀ i, i < T → b i < 4) (kk : Mem → Option ((Nat ⊕ Int32) × Mem)) : ∀ (d k nf : Nat) (z : Mem), k + d = T → d < nf → CM z 18 (trS n (gI m 79) law b t k) → LevOK law z → Fr [10, 11, 14, 18, 19] [] m z → ∃ z', F_T_swing_L61 (iI T) kk nf (iI k) z = kk z' ∧ CM z' 18 (trS n (gI m 79) law b t T) ∧ LevOK law z' ∧ Fr [10, 11, 14, 18, 19] [] m z' := by
  have hT := hb.1
  intro d
  induction d with
  | zero =>
    intro k nf z hk hnf hc hl hf
    obtain ⟨nf, rfl⟩ : ∃ x, nf = x + 1 := ⟨nf - 1, by omega⟩
    have e : k = T := by omega
    subst e
    exact ⟨z, by rw [F_T_swing_L61, if_pos (by simp (disch := omega) only [↓lt_def, ↓reduceIte, ckB_true, bnd_e, Int.reduceAdd, Int.reduceSub, Int.reduceMul, Int.reduceNeg, Int.reduceToNat, Bool.false_eq_true, eq_self, not_false_eq_true, not_true_eq_false, Int.toNat_natCast, lt0, lt1, lt2, lt3, lt4, lt5, lt6, lt7, lt8, lt9, lt10, lt11, lt12, lt13, lt14, lt15, lt16, lt17, lt18, lt19, lt20, lt21, lt22, lt23, lt24, lt25, lt26, lt27, lt28, lt29, lt30, lt31, lt32, lt40, lt41, lt43, lt48, lt55, lt57, lt59, lt60, lt62, lt63, lt64, lt70, lt72, lt81, lt97, lt99, lt100, lt122, lt162, lt180, lt235, lt255, lt298, lt299, lt325, lt335, lt400, lt837, lt999, lt1000, lt1001, lt1002, lt1003, lt1004, lt1005, lt1006, lt1007, lt1008, lt1100, lt1101, lt1102, lt1103, lt1104, lt1105, lt1135, lt1136, lt1172, lt2000, lt3278, lt3575, lt10000, lt12345, lt21450, lt32767, lt193050, lt1103515245, ltm162, ltm99, ltm81, ltm8, ltm1, iI_add, iI_sub, iI_mul, iI_neg, iI_divn, iI_lt_t, iI_lt_f, iI_le_t, iI_le_f, iI_eq_t, iI_eq_f, iI_lt, iI_le, iI_eq, iI_idx, iI_inb, gI_sI, gL_sL, gZ_sZ, gI_sL, gI_sZ, gL_sI, gL_sZ, gZ_sI, gZ_sL])], hc, hl, hf⟩
  | succ d ih =>
    intro k nf z hk hnf hc hl hf
    obtain ⟨nf, rfl⟩ : ∃ x, nf = x + 1 := ⟨nf - 1, by omega⟩
    have hsl : ∀ i, i < T → 0 ≤ b i ∧ b i < 4 := fun i hi => ⟨(hb.2 i hi).2.1, hs i hi⟩
    have mok := trS_ok (sl := b) hg mo f0 k (fun i hi => hsl i (by omega))
    have hfi := trS_fi (n := n) (w := gI m 79) (law := law) (sl := b) (t := t) k
    obtain ⟨s0, s4⟩ := hsl k (by omega)
    have hx := Ton_eq_2 (t := trS n (gI m 79) law b t k) (m := z) hc.1 hc.2.2.2.2.1 mok.fi0 mok.fi1 mok.wi0 mok.wi2
    have hgz : GR z 3 4 5 6 7 8 9 12 13 79 law n mg wd tx bc := GR_told hg (fun o ho j => hf.gI (by simp; omega) (by simp)) (fun j _ => hf.gI (by simp) (by simp))
    have hw79 : gI z 79 = gI m 79 := by funext j; exact hf.gI (by simp) (by simp)
    have hb1 : gI z 1 k = iI (b k) := by rw [hf.gI (by simp) (by simp)]; exact (hb.2 k (by omega)).1
    rw [F_T_swing_L61, if_neg (by simp (disch := omega) only [↓lt_def, ↓reduceIte, ckB_true, bnd_e, Int.reduceAdd, Int.reduceSub, Int.reduceMul, Int.reduceNeg, Int.reduceToNat, Bool.false_eq_true, eq_self, not_false_eq_true, not_true_eq_false, Int.toNat_natCast, lt0, lt1, lt2, lt3, lt4, lt5, lt6, lt7, lt8, lt9, lt10, lt11, lt12, lt13, lt14, lt15, lt16, lt17, lt18, lt19, lt20, lt21, lt22, lt23, lt24, lt25, lt26, lt27, lt28, lt29, lt30, lt31, lt32, lt40, lt41, lt43, lt48, lt55, lt57, lt59, lt60, lt62, lt63, lt64, lt70, lt72, lt81, lt97, lt99, lt100, lt122, lt162, lt180, lt235, lt255, lt298, lt299, lt325, lt335, lt400, lt837, lt999, lt1000, lt1001, lt1002, lt1003, lt1004, lt1005, lt1006, lt1007, lt1008, lt1100, lt1101, lt1102, lt1103, lt1104, lt1105, lt1135, lt1136, lt1172, lt2000, lt3278, lt3575, lt10000, lt12345, lt21450, lt32767, lt193050, lt1103515245, ltm162, ltm99, ltm81, ltm8, ltm1, iI_add, iI_sub, iI_mul, iI_neg, iI_divn, iI_lt_t, iI_lt_f, iI_le_t, iI_le_f, iI_eq_t, iI_eq_f, iI_lt, iI_le, iI_eq, iI_idx, iI_inb, gI_sI, gL_sL, gZ_sZ, gI_sL, gI_sZ, gL_sI, gL_sZ, gZ_sI, gZ_sL]), if_neg (by simp (disch := omega) only [↓lt_def, ↓reduceIte, ckB_true, bnd_e, Int.reduceAdd, Int.reduceSub, Int.reduceMul, Int.reduceNeg, Int.reduceToNat, Bool.false_eq_true, eq_self, not_false_eq_true, not_true_eq_false, Int.toNat_natCast, lt0, lt1, lt2, lt3, lt4, lt5, lt6, lt7, lt8, lt9, lt10, lt11, lt12, lt13, lt14, lt15, lt16, lt17, lt18, lt19, lt20, lt21, lt22, lt23, lt24, lt25, lt26, lt27, lt28, lt29, lt30, lt31, lt32, lt40, lt41, lt43, lt48, lt55, lt57, lt59, lt60, lt62, lt63, lt64, lt70, lt72, lt81, lt97, lt99, lt100, lt122, lt162, lt180, lt235, lt255, lt298, lt299, lt325, lt335, lt400, lt837, lt999, lt1000, lt1001, lt1002, lt1003, lt1004, lt1005, lt1006, lt1007, lt1008, lt1100, lt1101, lt1102, lt1103, lt1104, lt1105, lt1135, lt1136, lt1172, lt2000, lt3278, lt3575, lt10000, lt12345, lt21450, lt32767, lt193050, lt1103515245, ltm162, ltm99, ltm81, ltm8, ltm1, iI_add, iI_sub, iI_mul, iI_neg, iI_divn, iI_lt_t, iI_lt_f, iI_le_t, iI_le_f, iI_eq_t, iI_eq_f, iI_lt, iI_le, iI_eq, iI_idx, iI_inb, gI_sI, gL_sL, gZ_sZ, gI_sL, gI_sZ, gL_sI, gL_sZ, gZ_sI, gZ_sL]), bnd_some hx, lt_def]
    by_cases hw : (trS n (gI m 79) law b t k).win = -1
    · have hon : 0 ≤ (trS n (gI m 79) law b t k).fi ∧ (trS n (gI m 79) law b t k).win = -1 := ⟨by rw [hfi]; exact f0, hw⟩
      have e1 : trS n (gI m 79) law b t (k + 1) = plT (trS n (gI m 79) law b t k) n (gI m 79) law (b k) false := by
        rw [trS_s, if_pos hw]
      obtain ⟨_, z1, ez, cz, lz⟩ := play_ok_2 (sl := b k) false hgz hl hc mok hon s0 s4 (w := gI m 79) hw79.symm
      have fz := fr_Ma_playSession_2 _ _ _ _ _ ez
      rw [decide_eq_true hon, if_pos rfl, ckB_t (iI_inb (by omega) (by omega) (by omega)), lt_def, iI_idx (by omega) (by omega), Int.toNat_natCast, hb1, bnd_some ez]
      dsimp only
      rw [lt_def, lt1, iI_add]
      refine ih (k + 1) nf z1 (by omega) (by omega) (by rw [e1]; exact cz) lz ?_
      intro o j h1 h2
      have h3 := fz o j (by simp only [List.mem_cons, List.not_mem_nil, or_false, not_or] at h1 ⊢; omega) (by simp only [List.mem_cons, List.not_mem_nil, or_false, not_or, Prod.mk.injEq] at h1 ⊢; omega)
      have h4 := hf o j h1 h2
      exact ⟨h3.1.trans h4.1, h3.2.1.trans h4.2.1, h3.2.2.trans h4.2.2⟩
    · have e1 : trS n (gI m 79) law b t (k + 1) = trS n (gI m 79) law b t k := by
        rw [trS_s, if_neg hw]
      rw [decide_eq_false (fun q => hw q.2), if_neg (by decide)]
      dsimp only
      rw [lt_def, lt1, iI_add]
      exact ih (k + 1) nf z (by omega) (by omega) (by rw [e1]; exact hc) hl hf
/-- the reference's trial, in its own row -/
theorem Mswing_loop {law : Option (List (Int × List Int))} {m : Mem} {t : Mt} {n mg wd tx bc : Int} {b : Nat → Int} {T : Nat} (hg : GR m 3 4 5 6 7 8 9 12 13 79 law n mg wd tx bc) (mo : MtOk t n) (f0 : 0 ≤ t.fi) (hb : RT m b T) (hs : ∀ i, i < T → b i < 4) (h10 : gI m 78 10 = iI T) (kk : Mem → Option (Int32 × Mem)) : ∀ (d k nf : Nat) (z : Mem), k + d = T → d < nf → WM z 79 0 (trS n (gI m 79) law b t k) → (∀ j, (j < 9 ∨ (19 ≤ j ∧ j < 235) ∨ 298 ≤ j) → gI z 79 j = gI m 79 j) → Fr [79, 85] [] m z → ∃ z', F_M_swing_L134 kk nf (iI k) z = kk z' ∧ WM z' 79 0 (trS n (gI m 79) law b t T) ∧ (∀ j, (j < 9 ∨ (19 ≤ j ∧ j < 235) ∨ 298 ≤ j) → gI z' 79 j = gI m 79 j) ∧ Fr [79, 85] [] m z' := by
  have hT := hb.1
  intro d
  induction d with
  | zero =>
    intro k nf z hk hnf hc hl hf
    obtain ⟨nf, rfl⟩ : ∃ x, nf = x + 1 := ⟨nf - 1, by omega⟩
    have e : k = T := by omega
    subst e
    exact ⟨z, by rw [F_M_swing_L134, if_pos (by rw [hf.gI (by simp) (by simp), h10]; simp (disch := omega) only [↓lt_def, ↓reduceIte, ckB_true, bnd_e, Int.reduceAdd, Int.reduceSub, Int.reduceMul, Int.reduceNeg, Int.reduceToNat, Bool.false_eq_true, eq_self, not_false_eq_true, not_true_eq_false, Int.toNat_natCast, lt0, lt1, lt2, lt3, lt4, lt5, lt6, lt7, lt8, lt9, lt10, lt11, lt12, lt13, lt14, lt15, lt16, lt17, lt18, lt19, lt20, lt21, lt22, lt23, lt24, lt25, lt26, lt27, lt28, lt29, lt30, lt31, lt32, lt40, lt41, lt43, lt48, lt55, lt57, lt59, lt60, lt62, lt63, lt64, lt70, lt72, lt81, lt97, lt99, lt100, lt122, lt162, lt180, lt235, lt255, lt298, lt299, lt325, lt335, lt400, lt837, lt999, lt1000, lt1001, lt1002, lt1003, lt1004, lt1005, lt1006, lt1007, lt1008, lt1100, lt1101, lt1102, lt1103, lt1104, lt1105, lt1135, lt1136, lt1172, lt2000, lt3278, lt3575, lt10000, lt12345, lt21450, lt32767, lt193050, lt1103515245, ltm162, ltm99, ltm81, ltm8, ltm1, iI_add, iI_sub, iI_mul, iI_neg, iI_divn, iI_lt_t, iI_lt_f, iI_le_t, iI_le_f, iI_eq_t, iI_eq_f, iI_lt, iI_le, iI_eq, iI_idx, iI_inb, gI_sI, gL_sL, gZ_sZ, gI_sL, gI_sZ, gL_sI, gL_sZ, gZ_sI, gZ_sL])], hc, hl, hf⟩
  | succ d ih =>
    intro k nf z hk hnf hc hl hf
    obtain ⟨nf, rfl⟩ : ∃ x, nf = x + 1 := ⟨nf - 1, by omega⟩
    have hsl : ∀ i, i < T → 0 ≤ b i ∧ b i < 4 := fun i hi => ⟨(hb.2 i hi).2.1, hs i hi⟩
    have mok := trS_ok (sl := b) hg mo f0 k (fun i hi => hsl i (by omega))
    have hfi := trS_fi (n := n) (w := gI m 79) (law := law) (sl := b) (t := t) k
    obtain ⟨s0, s4⟩ := hsl k (by omega)
    have hgz : GR z 3 4 5 6 7 8 9 12 13 79 law n mg wd tx bc := GR_told hg (fun o ho j => hf.gI (by simp; omega) (by simp)) hl
    have hwo : gI z 79 18 = iI (trS n (gI m 79) law b t k).win := hc.2.2.2.2.2.2.2.2.2.1
    have w0 := mok.wi0
    have w2 := mok.wi2
    rw [F_M_swing_L134, if_neg (by rw [hf.gI (by simp) (by simp), h10]; simp (disch := omega) only [↓lt_def, ↓reduceIte, ckB_true, bnd_e, Int.reduceAdd, Int.reduceSub, Int.reduceMul, Int.reduceNeg, Int.reduceToNat, Bool.false_eq_true, eq_self, not_false_eq_true, not_true_eq_false, Int.toNat_natCast, lt0, lt1, lt2, lt3, lt4, lt5, lt6, lt7, lt8, lt9, lt10, lt11, lt12, lt13, lt14, lt15, lt16, lt17, lt18, lt19, lt20, lt21, lt22, lt23, lt24, lt25, lt26, lt27, lt28, lt29, lt30, lt31, lt32, lt40, lt41, lt43, lt48, lt55, lt57, lt59, lt60, lt62, lt63, lt64, lt70, lt72, lt81, lt97, lt99, lt100, lt122, lt162, lt180, lt235, lt255, lt298, lt299, lt325, lt335, lt400, lt837, lt999, lt1000, lt1001, lt1002, lt1003, lt1004, lt1005, lt1006, lt1007, lt1008, lt1100, lt1101, lt1102, lt1103, lt1104, lt1105, lt1135, lt1136, lt1172, lt2000, lt3278, lt3575, lt10000, lt12345, lt21450, lt32767, lt193050, lt1103515245, ltm162, ltm99, ltm81, ltm8, ltm1, iI_add, iI_sub, iI_mul, iI_neg, iI_divn, iI_lt_t, iI_lt_f, iI_le_t, iI_le_f, iI_eq_t, iI_eq_f, iI_lt, iI_le, iI_eq, iI_idx, iI_inb, gI_sI, gL_sL, gZ_sZ, gI_sL, gI_sZ, gL_sI, gL_sZ, gZ_sI, gZ_sL])]
    unfold F_M_isOver
    rw [hwo]
    by_cases hw : (trS n (gI m 79) law b t k).win = -1
    · have hon : 0 ≤ (trS n (gI m 79) law b t k).fi ∧ (trS n (gI m 79) law b t k).win = -1 := ⟨by rw [hfi]; exact f0, hw⟩
      have e1 : trS n (gI m 79) law b t (k + 1) = plT (trS n (gI m 79) law b t k) n (gI m 79) law (b k) false := by
        rw [trS_s, if_pos hw]
      have hgq : GrEq (gI z 79) (gI m 79) := fun j hj => hl j (by omega)
      obtain ⟨v, z1, ez, -, cz, lz⟩ := Mplays_ok (sl := b k) false hgz hc mok hon s0 s4 (w := gI z 79) rfl
      rw [plT_cg hgq hg.la.okl hon.1 mok.fi1 s0 s4] at cz
      have fz := fr_M_plays _ _ _ _ _ ez
      have hb1 : gI z 83 k = iI (b k) := by
        rw [hf.gI (by simp) (by simp), (hb.2 k (by omega)).1]
        unfold sb
        rw [if_pos (by omega)]
      rw [if_pos (by rw [lt0, iI_lt (by omega) (by omega) (by omega) (by omega)]; omega), bnd_e, if_neg (by decide), ckB_t (iI_inb (by omega) (by omega) (by omega)), lt_def, iI_idx (by omega) (by omega), Int.toNat_natCast, hb1, bnd_some ez, lt_def, lt1, iI_add]
      exact ih (k + 1) nf z1 (by omega) (by omega) (by rw [e1]; exact cz) (fun j hj => (lz j hj).trans (hl j hj)) (Fr_tr hf fz (fun a q => q) (fun a q => q))
    · obtain ⟨d', hd'⟩ : ∃ x, T = k + x := ⟨T - k, by omega⟩
      refine ⟨z, ?_, ?_, hl, hf⟩
      · rw [if_neg (by rw [lt0, iI_lt (by omega) (by omega) (by omega) (by omega)]; omega), bnd_e, if_pos rfl]
      · rw [hd', trS_st hw]
        exact hc
set_option maxHeartbeats 4000000 in
theorem swing_op {B : Nat} {law : Option (List (Int × List Int))} {n mg wd tx bc : Int} {t : Mt} {m : Mem} (h : IV B law n mg wd tx bc t m) : Both B (fun e => if e = 0 then 1 else if e = 1 then 2 else 0) F_T_swing F_M_swing m := by
  obtain ⟨N, hN⟩ : ∃ N : Nat, N = 1000000 := ⟨_, rfl⟩
  obtain ⟨T, b, t1, t2, hB, hR⟩ := tape_b h.tp
  have hT := hB.1
  obtain ⟨c0, c1, c2, c3, c4, c5, c6, c7, c8, c9, clg⟩ := h.cm
  obtain ⟨w9, w10, w11, w12, w13, w14, w15, w16, w17, w18, wlg⟩ := h.wm
  simp only [Nat.zero_add] at w9 w10 w11 w12 w13 w14 w15 w16 w17 w18 wlg
  have k_fi0 := h.mo.fi0
  have k_fi1 := h.mo.fi1
  have k_in0 := h.mo.in0
  have k_in3 := h.mo.in3
  have k_ou0 := h.mo.ou0
  have k_ou1 := h.mo.ou1
  have k_pl0 := h.mo.pl0
  have k_pl1 := h.mo.pl1
  have k_wi0 := h.mo.wi0
  have k_wi2 := h.mo.wi2
  have k_a0 := h.mo.a0
  have k_a1 := h.mo.a1
  have k_b0 := h.mo.b0
  have k_b1 := h.mo.b1
  have k_fo := h.mo.fo
  have k_no := h.mo.no
  have k_on := h.mo.on
  have k_pn := h.mo.pn
  have k_fre := h.mo.fre
  have k_n1 := h.gr.n1
  have k_n9 := h.gr.n9
  have k_cn := h.gr.cn
  have k_wn := h.gr.wn
  have k_cmg := h.gr.cmg
  have k_wmg := h.gr.wmg
  have k_mg0 := h.gr.mg0
  have k_mg9 := h.gr.mg9
  unfold Both
  -- the class's beginning, and the reference's
  obtain ⟨mu, hmu⟩ : ∃ x, x = sI m 0 1 0 := ⟨_, rfl⟩
  have eu : F_T_useTape m = some (iI T, mu) := by
    unfold F_T_useTape
    rw [lt_def, lt_def, t1, hmu]
  have fu : Fr [] [(0, 1)] m mu := fr_T_useTape _ _ _ eu
  have x1 := Ton_eq (t := t) (m := mu) ((fu.gI (by simp) (by simp)).trans c0) ((fu.gI (by simp) (by simp)).trans c4) k_fi0 k_fi1 k_wi0 k_wi2
  have hcT : gI mu 3 0 - gI mu 16 3 = iI (n - t.pl) := by
    rw [fu.gI (by simp) (by simp), fu.gI (by simp) (by simp), k_cn, c3, iI_sub]
  have hBu : BT mu b T := hB.cg (fun j => fu.gI (by simp) (by simp))
  have e4 := tapeIsBelow_eq hBu
  -- what both leave behind without a trial
  have kp : ∀ m2, Fr [62, 63] [(0, 1), (78, 0), (78, 8), (78, 9), (78, 10)] m m2 → gI m2 0 1 = iI 0 → gI m2 78 8 = iI 0 → Inv B m2 := fun m2 a b' c => (h.use0 a b' c).inv
  have eM1 : ∀ m1 : Mem, gI m1 78 8 = iI T → F_M_uses m1 = some ((), sI (sI (sI (sI m1 78 0 0) 78 10 (iI T)) 78 8 0) 78 9 0) := by
    intro m1 h1
    unfold F_M_uses
    rw [lt_def, lt_def, lt_def, lt_def, gI_sI, if_neg (fun q => absurd q.2 (by decide)), h1]
  by_cases on : 0 ≤ t.fi ∧ t.win = -1
  · rw [decide_eq_true on] at x1
    have hpl := k_pn on.1 on.2
    by_cases hok : (T : Int) = n - t.pl ∧ ∀ i, i < T → b i < 4
    · obtain ⟨hTn, hs⟩ := hok
      have p9 : t.pl ≤ 9 := by omega
      -- the class
      have hcu : CM mu 16 t := h.cm.cg (fun j => fu.gI (by simp) (by simp)) (fun j => fu.gI (by simp) (by simp)) (fun j => fu.gZ (by simp) (by simp))
      obtain ⟨ma, ea, ca, fa⟩ := Tcopy4_ok mu hcu p9
      have qa : ∀ o, o ≠ 18 → o ≠ 19 → o ≠ 0 → ∀ j, gI ma o j = gI m o j ∧ gL ma o j = gL m o j ∧ gZ ma o j = gZ m o j := by
        intro o a a2 a3 j
        have h1 := fa o a a2 j
        have h2 := fu o j (by simp) (by simp; omega)
        exact ⟨h1.1.trans h2.1, h1.2.1.trans h2.2.1, h1.2.2.trans h2.2.2⟩
      have w79a : gI ma 79 = gI m 79 := by funext j; exact (qa 79 (by omega) (by omega) (by omega) j).1
      have hga : GR ma 3 4 5 6 7 8 9 12 13 79 law n mg wd tx bc := GR_told h.gr (fun o ho j => (qa o (by omega) (by omega) (by omega) j).1) (fun j _ => by rw [w79a])
      have hla : LevOK law ma := h.lv.cg2 (fun j => (qa 14 (by omega) (by omega) (by omega) j).1) (by rw [w79a]) (by rw [w79a]) (fun j _ _ => by rw [w79a])
      have hBa : BT ma b T := hB.cg (fun j => (qa 1 (by omega) (by omega) (by omega) j).1)
      obtain ⟨k1, hk1⟩ : ∃ x : Mem → Option ((Nat ⊕ Int32) × Mem), x = fun (mq14 : Mem) => ((some (.inr (gI mq14 18 4), mq14)) : Option ((Nat ⊕ Int32) × Mem)) := ⟨_, rfl⟩
      obtain ⟨m1, e1, cz, lz, fz⟩ := Tswing_loop hga h.mo on.1 hBa hs k1 T 0 N ma (by omega) (by omega) ca hla Fr_rf
      have eT : F_T_swing m = some (.inr (iI (trS n (gI ma 79) law b t T).win), m1) := by
        unfold F_T_swing F_T_mustBeOn
        rw [← hN, bnd_some eu, bnd_some x1, if_pos rfl, bndX_inr rfl, lt_def, hcT, if_pos (by rw [← hTn]), bnd_some e4, decide_eq_true hs, if_pos rfl, bnd_some ea, lt_def, ← hk1]
        refine (show _ = _ from e1).trans ?_
        rw [hk1]
        dsimp only
        rw [cz.2.2.2.2.1]
      have fT := fr_T_swing _ _ _ eT
      rw [w79a] at eT
      -- the reference
      have q1 : ∀ o, o ≠ 10 → o ≠ 11 → o ≠ 14 → o ≠ 18 → o ≠ 19 → o ≠ 0 → ∀ j, gI m1 o j = gI m o j ∧ gL m1 o j = gL m o j ∧ gZ m1 o j = gZ m o j := fun o a1 a2 a3 a4 a5 a6 j => fT o j (by simp; omega) (by simp; omega)
      have w79b : gI m1 79 = gI m 79 := by funext j; exact (q1 79 (by omega) (by omega) (by omega) (by omega) (by omega) (by omega) j).1
      obtain ⟨mr, hmr⟩ : ∃ x, x = sI (sI (sI (sI m1 78 0 0) 78 10 (iI T)) 78 8 0) 78 9 0 := ⟨_, rfl⟩
      have er : F_M_uses m1 = some ((), mr) := by
        rw [hmr]
        exact eM1 m1 ((q1 78 (by omega) (by omega) (by omega) (by omega) (by omega) (by omega) 8).1.trans t2)
      have fr1 := fr_M_uses _ _ _ er
      have w79r : gI mr 79 = gI m 79 := by funext j; exact (fr1.gI (by simp) (by simp)).trans (by rw [w79b])
      have y1 := Mon_eq (t := t) (m := mr) (by rw [w79r]; exact w10) (by rw [w79r]; exact w18) k_fi0 k_fi1 k_wi0 k_wi2
      rw [decide_eq_true on] at y1
      have hRr : RT mr b T := hR.cg (fun j => (fr1.gI (by simp) (by simp)).trans (q1 83 (by omega) (by omega) (by omega) (by omega) (by omega) (by omega) j).1)
      have h10r : gI mr 78 10 = iI T := by rw [hmr]; rfl
      obtain ⟨k3, hk3⟩ : ∃ x : Mem → Option (Int32 × Mem), x = fun (mq28 : Mem) => ((lt (gI mq28 79 18 : Int32) fun xq29 => F_M_swing_L177 xq29 N (0 : Int32) mq28) : Option (Int32 × Mem)) := ⟨_, rfl⟩
      obtain ⟨k4, hk4⟩ : ∃ x : Mem → Option (Int32 × Mem), x = fun (mq27 : Mem) => ((lt (fun (mq28 : Mem) => ((lt (gI mq28 79 18 : Int32) fun xq29 => F_M_swing_L177 xq29 N (0 : Int32) mq28) : Option (Int32 × Mem))) fun k167_28 => F_M_swing_L134 k167_28 N (0 : Int32) mq27) : Option (Int32 × Mem)) := ⟨_, rfl⟩
      obtain ⟨nf1, mc, b1, b2, b3, ec⟩ := cpy (F_M_swing_L107 k4) 298 79 0 90 0 (by omega) (by
        intro nf k s hk
        rw [F_M_swing_L107, if_neg (by simp (disch := omega) only [↓lt_def, ↓reduceIte, ckB_true, bnd_e, Int.reduceAdd, Int.reduceSub, Int.reduceMul, Int.reduceNeg, Int.reduceToNat, Bool.false_eq_true, eq_self, not_false_eq_true, not_true_eq_false, Int.toNat_natCast, lt0, lt1, lt2, lt3, lt4, lt5, lt6, lt7, lt8, lt9, lt10, lt11, lt12, lt13, lt14, lt15, lt16, lt17, lt18, lt19, lt20, lt21, lt22, lt23, lt24, lt25, lt26, lt27, lt28, lt29, lt30, lt31, lt32, lt40, lt41, lt43, lt48, lt55, lt57, lt59, lt60, lt62, lt63, lt64, lt70, lt72, lt81, lt97, lt99, lt100, lt122, lt162, lt180, lt235, lt255, lt298, lt299, lt325, lt335, lt400, lt837, lt999, lt1000, lt1001, lt1002, lt1003, lt1004, lt1005, lt1006, lt1007, lt1008, lt1100, lt1101, lt1102, lt1103, lt1104, lt1105, lt1135, lt1136, lt1172, lt2000, lt3278, lt3575, lt10000, lt12345, lt21450, lt32767, lt193050, lt1103515245, ltm162, ltm99, ltm81, ltm8, ltm1, iI_add, iI_sub, iI_mul, iI_neg, iI_divn, iI_lt_t, iI_lt_f, iI_le_t, iI_le_f, iI_eq_t, iI_eq_f, iI_lt, iI_le, iI_eq, iI_idx, iI_inb, gI_sI, gL_sL, gZ_sZ, gI_sL, gI_sZ, gL_sI, gL_sZ, gZ_sI, gZ_sL]), ckB_t (iI_inb (by omega) (by omega) (by omega)), lt_def, ckB_t (iI_inb (by omega) (by omega) (by omega)), lt_def, lt_def, iI_idx (by omega) (by omega), Int.toNat_natCast, lt1, iI_add, Nat.zero_add]) N mr (by omega)
      have c79 : gI mc 79 = gI m 79 := by funext j; exact (b2 79 j (fun q => absurd q (by decide))).trans (by rw [w79r])
      have hgc : GR mc 3 4 5 6 7 8 9 12 13 79 law n mg wd tx bc := by
        refine GR_told h.gr (fun o ho j => ?_) (fun j _ => by rw [c79])
        rw [b2 o j (fun q => by omega), fr1.gI (by simp) (by simp; omega)]
        exact (q1 o (by omega) (by omega) (by omega) (by omega) (by omega) (by omega) j).1
      have hRc : RT mc b T := hRr.cg (fun j => b2 83 j (fun q => absurd q (by decide)))
      have h10c : gI mc 78 10 = iI T := (b2 78 10 (fun q => absurd q (by decide))).trans h10r
      obtain ⟨mp, ep, cp, lp', fp⟩ := Mswing_loop hgc h.mo on.1 hRc hs h10c k3 T 0 N mc (by omega) (by omega) (h.wm.to (fun j => by rw [c79])) (fun j _ => rfl) Fr_rf
      obtain ⟨nf2, m2, d1, d2, d3, ed⟩ := cpy (F_M_swing_L177 (iI (trS n (gI m 79) law b t T).win)) 298 90 0 79 0 (by omega) (by
        intro nf k s hk
        rw [F_M_swing_L177, if_neg (by simp (disch := omega) only [↓lt_def, ↓reduceIte, ckB_true, bnd_e, Int.reduceAdd, Int.reduceSub, Int.reduceMul, Int.reduceNeg, Int.reduceToNat, Bool.false_eq_true, eq_self, not_false_eq_true, not_true_eq_false, Int.toNat_natCast, lt0, lt1, lt2, lt3, lt4, lt5, lt6, lt7, lt8, lt9, lt10, lt11, lt12, lt13, lt14, lt15, lt16, lt17, lt18, lt19, lt20, lt21, lt22, lt23, lt24, lt25, lt26, lt27, lt28, lt29, lt30, lt31, lt32, lt40, lt41, lt43, lt48, lt55, lt57, lt59, lt60, lt62, lt63, lt64, lt70, lt72, lt81, lt97, lt99, lt100, lt122, lt162, lt180, lt235, lt255, lt298, lt299, lt325, lt335, lt400, lt837, lt999, lt1000, lt1001, lt1002, lt1003, lt1004, lt1005, lt1006, lt1007, lt1008, lt1100, lt1101, lt1102, lt1103, lt1104, lt1105, lt1135, lt1136, lt1172, lt2000, lt3278, lt3575, lt10000, lt12345, lt21450, lt32767, lt193050, lt1103515245, ltm162, ltm99, ltm81, ltm8, ltm1, iI_add, iI_sub, iI_mul, iI_neg, iI_divn, iI_lt_t, iI_lt_f, iI_le_t, iI_le_f, iI_eq_t, iI_eq_f, iI_lt, iI_le, iI_eq, iI_idx, iI_inb, gI_sI, gL_sL, gZ_sZ, gI_sL, gI_sZ, gL_sI, gL_sZ, gZ_sI, gZ_sL]), ckB_t (iI_inb (by omega) (by omega) (by omega)), lt_def, ckB_t (iI_inb (by omega) (by omega) (by omega)), lt_def, lt_def, iI_idx (by omega) (by omega), Int.toNat_natCast, lt1, iI_add, Nat.zero_add]) N mp (by omega)
      have eM : F_M_swing m1 = some (iI (trS n (gI m 79) law b t T).win, m2) := by
        unfold F_M_swing F_M_size F_M_played
        rw [← hN, bnd_some er, bnd_some y1, lt_def, if_pos rfl]
        dsimp only
        rw [bnd_some throwsIf_f, if_neg (by decide), bnd_e, bnd_e, lt_def, h10r, w79r, k_wn, w17, iI_sub, if_pos (by rw [← hTn])]
        dsimp only
        rw [lt_def]
        refine (swingL50 hRr h10r _ T 0 N true (by omega) (by omega)).trans ?_
        rw [decide_eq_true (fun i hi _ => hs i hi), Bool.and_true]
        rw [lt_def, if_pos rfl]
        dsimp only
        rw [bnd_some throwsIf_f, if_neg (by decide), lt_def, ← hk4]
        refine (show _ = _ from ec).trans ?_
        rw [F_M_swing_L107, if_pos (by decide), hk4]
        dsimp only
        rw [lt_def, ← hk3]
        refine (show _ = _ from ep).trans ?_
        rw [hk3]
        dsimp only
        have h18 : gI mp 79 18 = iI (trS n (gI m 79) law b t T).win := by
          rw [← c79]
          exact cp.2.2.2.2.2.2.2.2.2.1
        rw [lt_def, h18]
        refine (show _ = _ from ed).trans ?_
        rw [F_M_swing_L177, if_pos (by decide)]
      have fM := fr_M_swing _ _ _ eM
      refine ok_e eT (ok_e eM ⟨⟨?_, rfl⟩, ?_⟩)
      · rw [d2 78 0 (fun q => absurd q (by decide)), fp.gI (by simp) (by simp), b2 78 0 (fun q => absurd q (by decide)), hmr]
        rfl
      · have w79 : gI m2 79 = gI m 79 := by
          funext j
          by_cases hj : j < 298
          · have := d1 j hj
            rw [Nat.zero_add] at this
            rw [this, fp.gI (by simp) (by simp)]
            have := b1 j hj
            rw [Nat.zero_add] at this
            rw [this, w79r]
          · rw [d2 79 j (fun _ => by omega), lp' j (by omega), c79]
        refine (h.use (B' := B) ?_ w79 ?_ ?_ ?_ ?_ ?_).inv
        · exact Fr_tr (Fr_wk2 fT (by decide) (by decide)) fM (by decide) (by decide)
        · rw [fM.gI (by simp) (by simp)]
          have hz0 : gI mu 0 1 = iI 0 := by rw [hmu]; rfl
          exact (fz.gI (o := 0) (j := 1) (by simp) (by simp)).trans ((fa 0 (by omega) (by omega) 1).1.trans hz0)
        · rw [d2 78 8 (fun q => absurd q (by decide)), fp.gI (by simp) (by simp), b2 78 8 (fun q => absurd q (by decide)), hmr]
          rfl
        · rw [fM.gZ (by simp) (by simp), (q1 78 (by omega) (by omega) (by omega) (by omega) (by omega) (by omega) 22).2.2]
          exact h.bli
        · exact lz.cg2 (fun j => fM.gI (by simp) (by simp)) (by rw [w79, w79b]) (by rw [w79, w79b]) (fun j _ _ => by rw [w79, w79b])
        · exact h.od.cg h.gr.la.okl (fun j _ => by rw [w79]) (fun j => (fM.gL (by simp) (by simp)).trans (q1 15 (by omega) (by omega) (by omega) (by omega) (by omega) (by omega) j).2.1) (fun j => by
            have g1 := fM 2 j (by simp) (by simp)
            have g2 := q1 2 (by omega) (by omega) (by omega) (by omega) (by omega) (by omega) j
            exact ⟨g1.1.trans g2.1, g1.2.1.trans g2.2.1, g1.2.2.trans g2.2.2⟩)
    · -- the tape is not that
      have eT : F_T_swing m = some (.inl 1, mu) := by
        unfold F_T_swing F_T_mustBeOn
        rw [bnd_some eu, bnd_some x1, if_pos rfl, bndX_inr rfl, lt_def, hcT]
        by_cases hTn : (T : Int) = n - t.pl
        · rw [if_pos (by rw [← hTn]), bnd_some e4, decide_eq_false (fun q => hok ⟨hTn, q⟩), if_neg (by decide)]
        · rw [if_neg (by rw [iI_eq (by omega) (by omega) (by omega) (by omega)]; exact hTn)]
      obtain ⟨mr, hmr⟩ : ∃ x, x = sI (sI (sI (sI mu 78 0 0) 78 10 (iI T)) 78 8 0) 78 9 0 := ⟨_, rfl⟩
      have er : F_M_uses mu = some ((), mr) := by
        rw [hmr]
        exact eM1 mu ((fu.gI (by simp) (by simp)).trans t2)
      have fr1 := fr_M_uses _ _ _ er
      have w79r : gI mr 79 = gI m 79 := by funext j; exact (fr1.gI (by simp) (by simp)).trans (fu.gI (by simp) (by simp))
      have y1 := Mon_eq (t := t) (m := mr) (by rw [w79r]; exact w10) (by rw [w79r]; exact w18) k_fi0 k_fi1 k_wi0 k_wi2
      rw [decide_eq_true on] at y1
      have hRr : RT mr b T := hR.cg (fun j => (fr1.gI (by simp) (by simp)).trans (fu.gI (by simp) (by simp)))
      have h10r : gI mr 78 10 = iI T := by rw [hmr]; rfl
      have hex : ∀ is : Bool, (is = decide ((T : Int) = n - t.pl)) → (is && decide (∀ i, i < T → 0 ≤ i → b i < 4)) = false := by
        intro is his
        rw [his]
        by_cases hTn : (T : Int) = n - t.pl
        · rw [decide_eq_true hTn, Bool.true_and, decide_eq_false (fun q => hok ⟨hTn, fun i hi => q i hi (by omega)⟩)]
        · rw [decide_eq_false hTn, Bool.false_and]
      have eM : F_M_swing mu = some (0, sI mr 78 0 2) := by
        unfold F_M_swing F_M_size F_M_played
        rw [← hN, bnd_some er, bnd_some y1, lt_def, if_pos rfl]
        dsimp only
        rw [bnd_some throwsIf_f, if_neg (by decide), bnd_e, bnd_e, lt_def, h10r, w79r, k_wn, w17, iI_sub]
        by_cases hTn : (T : Int) = n - t.pl
        · rw [if_pos (by rw [← hTn])]
          dsimp only
          rw [lt_def]
          refine (swingL50 hRr h10r _ T 0 N true (by omega) (by omega)).trans ?_
          rw [hex true (decide_eq_true hTn).symm, lt_def, if_neg (by decide)]
          dsimp only
          rw [bnd_some throwsIf_t, if_pos rfl]
        · rw [if_neg (by rw [iI_eq (by omega) (by omega) (by omega) (by omega)]; exact hTn)]
          dsimp only
          rw [lt_def]
          refine (swingL50 hRr h10r _ T 0 N false (by omega) (by omega)).trans ?_
          rw [hex false (decide_eq_false hTn).symm, lt_def, if_neg (by decide)]
          dsimp only
          rw [bnd_some throwsIf_t, if_pos rfl]
      refine ok_e eT (ok_e eM ⟨ans_l (by decide) rfl, kp _ ?_ ?_ ?_⟩)
      · exact Fr_sI rfl (Fr_tr (Fr_wk fu (by decide) (by decide)) fr1 (by decide) (by decide)) (by decide)
      · rw [gI_sI, if_neg (fun q => absurd q.1 (by decide)), fr1.gI (by simp) (by simp), hmu]; rfl
      · rw [gI_sI, if_neg (fun q => absurd q.2 (by decide)), hmr]; rfl
  · -- it cannot be now
    rw [decide_eq_false on] at x1
    have eT : F_T_swing m = some (.inl 0, mu) := by
      unfold F_T_swing F_T_mustBeOn
      rw [bnd_some eu, bnd_some x1, if_neg (by decide), bndX_inl rfl]
    obtain ⟨mr, hmr⟩ : ∃ x, x = sI (sI (sI (sI mu 78 0 0) 78 10 (iI T)) 78 8 0) 78 9 0 := ⟨_, rfl⟩
    have er : F_M_uses mu = some ((), mr) := by
      rw [hmr]
      exact eM1 mu ((fu.gI (by simp) (by simp)).trans t2)
    have fr1 := fr_M_uses _ _ _ er
    have w79r : gI mr 79 = gI m 79 := by funext j; exact (fr1.gI (by simp) (by simp)).trans (fu.gI (by simp) (by simp))
    have y1 := Mon_eq (t := t) (m := mr) (by rw [w79r]; exact w10) (by rw [w79r]; exact w18) k_fi0 k_fi1 k_wi0 k_wi2
    rw [decide_eq_false on] at y1
    have eM : F_M_swing mu = some (0, sI mr 78 0 1) := by
      unfold F_M_swing
      rw [bnd_some er, bnd_some y1, lt_def, if_neg (by decide)]
      dsimp only
      rw [bnd_some throwsIf_t, if_pos rfl]
    refine ok_e eT (ok_e eM ⟨ans_l (by decide) rfl, kp _ ?_ ?_ ?_⟩)
    · exact Fr_sI rfl (Fr_tr (Fr_wk fu (by decide) (by decide)) fr1 (by decide) (by decide)) (by decide)
    · rw [gI_sI, if_neg (fun q => absurd q.1 (by decide)), fr1.gI (by simp) (by simp), hmu]; rfl
    · rw [gI_sI, if_neg (fun q => absurd q.2 (by decide)), hmr]; rfl
end SWING
