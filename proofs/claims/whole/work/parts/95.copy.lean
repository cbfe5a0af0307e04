section COPY
theorem Tcopy1_ok {t : Mt} (m : Mem) {o0 : Nat} (ho0 : 18 ≤ o0) (h : CM m 16 t) (p9 : t.pl ≤ 9) : ∃ m1, F_Ma_copyFrom o0 m = some ((), m1) ∧ CM m1 o0 t ∧ ∀ o, o ≠ o0 → o ≠ o0 + 1 → ∀ j, gI m1 o j = gI m o j ∧ gL m1 o j = gL m o j ∧ gZ m1 o j = gZ m o j := by
  obtain ⟨c0, c1, c2, c3, c4, c5, c6, c7, c8, c9, clg⟩ := h
  obtain ⟨ma, hma⟩ : ∃ x, x = sI (sI (sI (sZ (sZ (sI (sI (sI (sI (sI m o0 0 (gI m 16 0)) o0 1 (gI m 16 1)) o0 2 (gI m 16 2)) o0 3 (gI m 16 3)) o0 4 (gI m 16 4)) o0 5 (gZ m 16 5)) o0 6 (gZ m 16 6)) o0 7 (gI m 16 7)) o0 8 (gI m 16 8)) o0 9 (gI m 16 9) := ⟨_, rfl⟩
  have ea : ∀ o, o ≠ o0 → ∀ j, gI ma o j = gI m o j ∧ gL ma o j = gL m o j ∧ gZ ma o j = gZ m o j := by
    intro o ho j
    rw [hma]
    simp only [gI_sI, gL_sL, gZ_sZ, gI_sL, gI_sZ, gL_sI, gL_sZ, gZ_sI, gZ_sL, ho, false_and, if_false, and_self]
  obtain ⟨N, hN⟩ : ∃ N : Nat, N = 1000000 := ⟨_, rfl⟩
  obtain ⟨nf, m2, ⟨q1, q2⟩, e2⟩ := lpc (F_Ma_copyFrom_L82 o0) 63 (fun k s => (∀ j : Nat, j < k → gI s (o0 + 1) j = gI m 17 j) ∧ ∀ o, o ≠ o0 + 1 → ∀ j, gI s o j = gI ma o j ∧ gL s o j = gL ma o j ∧ gZ s o j = gZ ma o j) (by
    intro nf k s hk ⟨q1, q2⟩
    refine ⟨sI s (o0 + 1) k (gI s 17 k), ⟨fun j hj => ?_, fun o ho j => ?_⟩, ?_⟩
    · rw [gI_sI]
      by_cases hjk : j = k
      · rw [if_pos ⟨rfl, hjk⟩, hjk, (q2 17 (by omega) k).1, (ea 17 (by omega) k).1]
      · rw [if_neg (fun q => hjk q.2)]
        exact q1 j (by omega)
    · refine ⟨?_, (q2 o ho j).2.1, (q2 o ho j).2.2⟩
      rw [gI_sI, if_neg (fun q => ho q.1)]
      exact (q2 o ho j).1
    · rw [F_Ma_copyFrom_L82, if_neg (by simp (disch := omega) only [↓lt_def, ↓reduceIte, ckB_true, bnd_e, Int.reduceAdd, Int.reduceSub, Int.reduceMul, Int.reduceNeg, Int.reduceToNat, Bool.false_eq_true, eq_self, not_false_eq_true, not_true_eq_false, Int.toNat_natCast, lt0, lt1, lt2, lt3, lt4, lt5, lt6, lt7, lt8, lt9, lt10, lt11, lt12, lt13, lt14, lt15, lt16, lt17, lt18, lt19, lt20, lt21, lt22, lt23, lt24, lt25, lt26, lt27, lt28, lt29, lt30, lt31, lt32, lt40, lt41, lt43, lt48, lt55, lt57, lt59, lt60, lt62, lt63, lt64, lt70, lt72, lt81, lt97, lt99, lt100, lt122, lt162, lt180, lt235, lt255, lt298, lt299, lt325, lt335, lt400, lt837, lt999, lt1000, lt1001, lt1002, lt1003, lt1004, lt1005, lt1006, lt1007, lt1008, lt1100, lt1101, lt1102, lt1103, lt1104, lt1105, lt1135, lt1136, lt1172, lt2000, lt3278, lt3575, lt10000, lt12345, lt21450, lt32767, lt193050, lt1103515245, ltm162, ltm99, ltm81, ltm8, ltm1, iI_add, iI_sub, iI_mul, iI_neg, iI_divn, iI_lt_t, iI_lt_f, iI_le_t, iI_le_f, iI_eq_t, iI_eq_f, iI_lt, iI_le, iI_eq, iI_idx, iI_inb, gI_sI, gL_sL, gZ_sZ, gI_sL, gI_sZ, gL_sI, gL_sZ, gZ_sI, gZ_sL]), ckB_t (iI_inb (by omega) (by omega) (by omega)), lt_def, ckB_t (iI_inb (by omega) (by omega) (by omega)), lt_def, lt_def, iI_idx (by omega) (by omega), Int.toNat_natCast, lt1, iI_add]) N 0 ma (by omega) ⟨fun j hj => by omega, fun o _ j => ⟨rfl, rfl, rfl⟩⟩ (by omega)
  have g : ∀ o, o ≠ o0 + 1 → ∀ j, gI m2 o j = gI ma o j := fun o ho j => (q2 o ho j).1
  refine ⟨m2, ?_, ⟨?_, ?_, ?_, ?_, ?_, ?_, ?_, ?_, ?_, ?_, ?_⟩, fun o ho ho1 j => ?_⟩
  · unfold F_Ma_copyFrom
    rw [← hN]
    have e3 : F_Ma_copyFrom_L82 o0 N (0 : Int32) ma = some ((), m2) := by
      refine e2.trans ?_
      rw [F_Ma_copyFrom_L82, if_pos (by decide)]
    rw [← e3, hma]
    simp only [lt_def, gI_sI, gL_sL, gZ_sZ, gI_sL, gI_sZ, gL_sI, gL_sZ, gZ_sI, gZ_sL, (show (16 : Nat) ≠ o0 by omega), false_and, if_false]
  · rw [g o0 (by omega), hma]; simp only [gI_sI, gL_sL, gZ_sZ, gI_sL, gI_sZ, gL_sI, gL_sZ, gZ_sI, gZ_sL, if_true, and_self, and_true, true_and, Nat.reduceEqDiff, if_false, and_false]; exact c0
  · rw [g o0 (by omega), hma]; simp only [gI_sI, gL_sL, gZ_sZ, gI_sL, gI_sZ, gL_sI, gL_sZ, gZ_sI, gZ_sL, if_true, and_self, and_true, true_and, Nat.reduceEqDiff, if_false, and_false]; exact c1
  · rw [g o0 (by omega), hma]; simp only [gI_sI, gL_sL, gZ_sZ, gI_sL, gI_sZ, gL_sI, gL_sZ, gZ_sI, gZ_sL, if_true, and_self, and_true, true_and, Nat.reduceEqDiff, if_false, and_false]; exact c2
  · rw [g o0 (by omega), hma]; simp only [gI_sI, gL_sL, gZ_sZ, gI_sL, gI_sZ, gL_sI, gL_sZ, gZ_sI, gZ_sL, if_true, and_self, and_true, true_and, Nat.reduceEqDiff, if_false, and_false]; exact c3
  · rw [g o0 (by omega), hma]; simp only [gI_sI, gL_sL, gZ_sZ, gI_sL, gI_sZ, gL_sI, gL_sZ, gZ_sI, gZ_sL, if_true, and_self, and_true, true_and, Nat.reduceEqDiff, if_false, and_false]; exact c4
  · rw [(q2 o0 (by omega) 5).2.2, hma]; simp only [gI_sI, gL_sL, gZ_sZ, gI_sL, gI_sZ, gL_sI, gL_sZ, gZ_sI, gZ_sL, if_true, and_self, and_true, true_and, Nat.reduceEqDiff, if_false, and_false]; exact c5
  · rw [(q2 o0 (by omega) 6).2.2, hma]; simp only [gI_sI, gL_sL, gZ_sZ, gI_sL, gI_sZ, gL_sI, gL_sZ, gZ_sI, gZ_sL, if_true, and_self, and_true, true_and, Nat.reduceEqDiff, if_false, and_false]; exact c6
  · rw [g o0 (by omega), hma]; simp only [gI_sI, gL_sL, gZ_sZ, gI_sL, gI_sZ, gL_sI, gL_sZ, gZ_sI, gZ_sL, if_true, and_self, and_true, true_and, Nat.reduceEqDiff, if_false, and_false]; exact c7
  · rw [g o0 (by omega), hma]; simp only [gI_sI, gL_sL, gZ_sZ, gI_sL, gI_sZ, gL_sI, gL_sZ, gZ_sI, gZ_sL, if_true, and_self, and_true, true_and, Nat.reduceEqDiff, if_false, and_false]; exact c8
  · rw [g o0 (by omega), hma]; simp only [gI_sI, gL_sL, gZ_sZ, gI_sL, gI_sZ, gL_sI, gL_sZ, gZ_sI, gZ_sL, if_true, and_self, and_true, true_and, Nat.reduceEqDiff, if_false, and_false]; exact c9
  · intro j hj
    rw [q1 j (by omega)]
    exact clg j hj
  · have h1 := q2 o ho1 j
    have h2 := ea o ho j
    exact ⟨h1.1.trans h2.1, h1.2.1.trans h2.2.1, h1.2.2.trans h2.2.2⟩
theorem Tcopy5_ok {t : Mt} (m : Mem) {o1 : Nat} (ho1 : 18 ≤ o1) (h : CM m o1 t) (p9 : t.pl ≤ 9) : ∃ m1, F_Ma_copyFrom_5 o1 m = some ((), m1) ∧ CM m1 16 t ∧ ∀ o, o ≠ 16 → o ≠ 17 → ∀ j, gI m1 o j = gI m o j ∧ gL m1 o j = gL m o j ∧ gZ m1 o j = gZ m o j := by
  obtain ⟨c0, c1, c2, c3, c4, c5, c6, c7, c8, c9, clg⟩ := h
  obtain ⟨ma, hma⟩ : ∃ x, x = sI (sI (sI (sZ (sZ (sI (sI (sI (sI (sI m 16 0 (gI m o1 0)) 16 1 (gI m o1 1)) 16 2 (gI m o1 2)) 16 3 (gI m o1 3)) 16 4 (gI m o1 4)) 16 5 (gZ m o1 5)) 16 6 (gZ m o1 6)) 16 7 (gI m o1 7)) 16 8 (gI m o1 8)) 16 9 (gI m o1 9) := ⟨_, rfl⟩
  have ea : ∀ o, o ≠ 16 → ∀ j, gI ma o j = gI m o j ∧ gL ma o j = gL m o j ∧ gZ ma o j = gZ m o j := by
    intro o ho j
    rw [hma]
    simp only [gI_sI, gL_sL, gZ_sZ, gI_sL, gI_sZ, gL_sI, gL_sZ, gZ_sI, gZ_sL, ho, false_and, if_false, and_self]
  obtain ⟨N, hN⟩ : ∃ N : Nat, N = 1000000 := ⟨_, rfl⟩
  obtain ⟨nf, m2, ⟨q1, q2⟩, e2⟩ := lpc (F_Ma_copyFrom_5_L82 o1) 63 (fun k s => (∀ j : Nat, j < k → gI s 17 j = gI m (o1 + 1) j) ∧ ∀ o, o ≠ 17 → ∀ j, gI s o j = gI ma o j ∧ gL s o j = gL ma o j ∧ gZ s o j = gZ ma o j) (by
    intro nf k s hk ⟨q1, q2⟩
    refine ⟨sI s 17 k (gI s (o1 + 1) k), ⟨fun j hj => ?_, fun o ho j => ?_⟩, ?_⟩
    · rw [gI_sI]
      by_cases hjk : j = k
      · rw [if_pos ⟨rfl, hjk⟩, hjk, (q2 (o1 + 1) (by omega) k).1, (ea (o1 + 1) (by omega) k).1]
      · rw [if_neg (fun q => hjk q.2)]
        exact q1 j (by omega)
    · refine ⟨?_, (q2 o ho j).2.1, (q2 o ho j).2.2⟩
      rw [gI_sI, if_neg (fun q => ho q.1)]
      exact (q2 o ho j).1
    · rw [F_Ma_copyFrom_5_L82, if_neg (by simp (disch := omega) only [↓lt_def, ↓reduceIte, ckB_true, bnd_e, Int.reduceAdd, Int.reduceSub, Int.reduceMul, Int.reduceNeg, Int.reduceToNat, Bool.false_eq_true, eq_self, not_false_eq_true, not_true_eq_false, Int.toNat_natCast, lt0, lt1, lt2, lt3, lt4, lt5, lt6, lt7, lt8, lt9, lt10, lt11, lt12, lt13, lt14, lt15, lt16, lt17, lt18, lt19, lt20, lt21, lt22, lt23, lt24, lt25, lt26, lt27, lt28, lt29, lt30, lt31, lt32, lt40, lt41, lt43, lt48, lt55, lt57, lt59, lt60, lt62, lt63, lt64, lt70, lt72, lt81, lt97, lt99, lt100, lt122, lt162, lt180, lt235, lt255, lt298, lt299, lt325, lt335, lt400, lt837, lt999, lt1000, lt1001, lt1002, lt1003, lt1004, lt1005, lt1006, lt1007, lt1008, lt1100, lt1101, lt1102, lt1103, lt1104, lt1105, lt1135, lt1136, lt1172, lt2000, lt3278, lt3575, lt10000, lt12345, lt21450, lt32767, lt193050, lt1103515245, ltm162, ltm99, ltm81, ltm8, ltm1, iI_add, iI_sub, iI_mul, iI_neg, iI_divn, iI_lt_t, iI_lt_f, iI_le_t, iI_le_f, iI_eq_t, iI_eq_f, iI_lt, iI_le, iI_eq, iI_idx, iI_inb, gI_sI, gL_sL, gZ_sZ, gI_sL, gI_sZ, gL_sI, gL_sZ, gZ_sI, gZ_sL]), ckB_t (iI_inb (by omega) (by omega) (by omega)), lt_def, ckB_t (iI_inb (by omega) (by omega) (by omega)), lt_def, lt_def, iI_idx (by omega) (by omega), Int.toNat_natCast, lt1, iI_add]) N 0 ma (by omega) ⟨fun j hj => by omega, fun o _ j => ⟨rfl, rfl, rfl⟩⟩ (by omega)
  have g : ∀ o, o ≠ 17 → ∀ j, gI m2 o j = gI ma o j := fun o ho j => (q2 o ho j).1
  refine ⟨m2, ?_, ⟨?_, ?_, ?_, ?_, ?_, ?_, ?_, ?_, ?_, ?_, ?_⟩, fun o ho ho1 j => ?_⟩
  · unfold F_Ma_copyFrom_5
    rw [← hN]
    have e3 : F_Ma_copyFrom_5_L82 o1 N (0 : Int32) ma = some ((), m2) := by
      refine e2.trans ?_
      rw [F_Ma_copyFrom_5_L82, if_pos (by decide)]
    rw [← e3, hma]
    simp only [lt_def, gI_sI, gL_sL, gZ_sZ, gI_sL, gI_sZ, gL_sI, gL_sZ, gZ_sI, gZ_sL, (show (o1 : Nat) ≠ 16 by omega), false_and, if_false]
  · rw [g 16 (by omega), hma]; simp only [gI_sI, gL_sL, gZ_sZ, gI_sL, gI_sZ, gL_sI, gL_sZ, gZ_sI, gZ_sL, if_true, and_self, and_true, true_and, Nat.reduceEqDiff, if_false, and_false]; exact c0
  · rw [g 16 (by omega), hma]; simp only [gI_sI, gL_sL, gZ_sZ, gI_sL, gI_sZ, gL_sI, gL_sZ, gZ_sI, gZ_sL, if_true, and_self, and_true, true_and, Nat.reduceEqDiff, if_false, and_false]; exact c1
  · rw [g 16 (by omega), hma]; simp only [gI_sI, gL_sL, gZ_sZ, gI_sL, gI_sZ, gL_sI, gL_sZ, gZ_sI, gZ_sL, if_true, and_self, and_true, true_and, Nat.reduceEqDiff, if_false, and_false]; exact c2
  · rw [g 16 (by omega), hma]; simp only [gI_sI, gL_sL, gZ_sZ, gI_sL, gI_sZ, gL_sI, gL_sZ, gZ_sI, gZ_sL, if_true, and_self, and_true, true_and, Nat.reduceEqDiff, if_false, and_false]; exact c3
  · rw [g 16 (by omega), hma]; simp only [gI_sI, gL_sL, gZ_sZ, gI_sL, gI_sZ, gL_sI, gL_sZ, gZ_sI, gZ_sL, if_true, and_self, and_true, true_and, Nat.reduceEqDiff, if_false, and_false]; exact c4
  · rw [(q2 16 (by omega) 5).2.2, hma]; simp only [gI_sI, gL_sL, gZ_sZ, gI_sL, gI_sZ, gL_sI, gL_sZ, gZ_sI, gZ_sL, if_true, and_self, and_true, true_and, Nat.reduceEqDiff, if_false, and_false]; exact c5
  · rw [(q2 16 (by omega) 6).2.2, hma]; simp only [gI_sI, gL_sL, gZ_sZ, gI_sL, gI_sZ, gL_sI, gL_sZ, gZ_sI, gZ_sL, if_true, and_self, and_true, true_and, Nat.reduceEqDiff, if_false, and_false]; exact c6
  · rw [g 16 (by omega), hma]; simp only [gI_sI, gL_sL, gZ_sZ, gI_sL, gI_sZ, gL_sI, gL_sZ, gZ_sI, gZ_sL, if_true, and_self, and_true, true_and, Nat.reduceEqDiff, if_false, and_false]; exact c7
  · rw [g 16 (by omega), hma]; simp only [gI_sI, gL_sL, gZ_sZ, gI_sL, gI_sZ, gL_sI, gL_sZ, gZ_sI, gZ_sL, if_true, and_self, and_true, true_and, Nat.reduceEqDiff, if_false, and_false]; exact c8
  · rw [g 16 (by omega), hma]; simp only [gI_sI, gL_sL, gZ_sZ, gI_sL, gI_sZ, gL_sI, gL_sZ, gZ_sI, gZ_sL, if_true, and_self, and_true, true_and, Nat.reduceEqDiff, if_false, and_false]; exact c9
  · intro j hj
    rw [q1 j (by omega)]
    exact clg j hj
  · have h1 := q2 o ho1 j
    have h2 := ea o ho j
    exact ⟨h1.1.trans h2.1, h1.2.1.trans h2.2.1, h1.2.2.trans h2.2.2⟩
theorem Tcopy2_ok {t : Mt} (m : Mem) (h : CM m 76 t) (p9 : t.pl ≤ 9) : ∃ m1, F_Ma_copyFrom_2 m = some ((), m1) ∧ CM m1 16 t ∧ ∀ o, o ≠ 16 → o ≠ 17 → ∀ j, gI m1 o j = gI m o j ∧ gL m1 o j = gL m o j ∧ gZ m1 o j = gZ m o j := by
  obtain ⟨c0, c1, c2, c3, c4, c5, c6, c7, c8, c9, clg⟩ := h
  obtain ⟨ma, hma⟩ : ∃ x, x = sI (sI (sI (sZ (sZ (sI (sI (sI (sI (sI m 16 0 (gI m 76 0)) 16 1 (gI m 76 1)) 16 2 (gI m 76 2)) 16 3 (gI m 76 3)) 16 4 (gI m 76 4)) 16 5 (gZ m 76 5)) 16 6 (gZ m 76 6)) 16 7 (gI m 76 7)) 16 8 (gI m 76 8)) 16 9 (gI m 76 9) := ⟨_, rfl⟩
  have ea : ∀ o, o ≠ 16 → ∀ j, gI ma o j = gI m o j ∧ gL ma o j = gL m o j ∧ gZ ma o j = gZ m o j := by
    intro o ho j
    rw [hma]
    simp only [gI_sI, gL_sL, gZ_sZ, gI_sL, gI_sZ, gL_sI, gL_sZ, gZ_sI, gZ_sL, ho, false_and, if_false, and_self]
  obtain ⟨N, hN⟩ : ∃ N : Nat, N = 1000000 := ⟨_, rfl⟩
  obtain ⟨nf, m2, ⟨q1, q2⟩, e2⟩ := lpc (F_Ma_copyFrom_2_L82) 63 (fun k s => (∀ j : Nat, j < k → gI s 17 j = gI m 77 j) ∧ ∀ o, o ≠ 17 → ∀ j, gI s o j = gI ma o j ∧ gL s o j = gL ma o j ∧ gZ s o j = gZ ma o j) (by
    intro nf k s hk ⟨q1, q2⟩
    refine ⟨sI s 17 k (gI s 77 k), ⟨fun j hj => ?_, fun o ho j => ?_⟩, ?_⟩
    · rw [gI_sI]
      by_cases hjk : j = k
      · rw [if_pos ⟨rfl, hjk⟩, hjk, (q2 77 (by omega) k).1, (ea 77 (by omega) k).1]
      · rw [if_neg (fun q => hjk q.2)]
        exact q1 j (by omega)
    · refine ⟨?_, (q2 o ho j).2.1, (q2 o ho j).2.2⟩
      rw [gI_sI, if_neg (fun q => ho q.1)]
      exact (q2 o ho j).1
    · rw [F_Ma_copyFrom_2_L82, if_neg (by simp (disch := omega) only [↓lt_def, ↓reduceIte, ckB_true, bnd_e, Int.reduceAdd, Int.reduceSub, Int.reduceMul, Int.reduceNeg, Int.reduceToNat, Bool.false_eq_true, eq_self, not_false_eq_true, not_true_eq_false, Int.toNat_natCast, lt0, lt1, lt2, lt3, lt4, lt5, lt6, lt7, lt8, lt9, lt10, lt11, lt12, lt13, lt14, lt15, lt16, lt17, lt18, lt19, lt20, lt21, lt22, lt23, lt24, lt25, lt26, lt27, lt28, lt29, lt30, lt31, lt32, lt40, lt41, lt43, lt48, lt55, lt57, lt59, lt60, lt62, lt63, lt64, lt70, lt72, lt81, lt97, lt99, lt100, lt122, lt162, lt180, lt235, lt255, lt298, lt299, lt325, lt335, lt400, lt837, lt999, lt1000, lt1001, lt1002, lt1003, lt1004, lt1005, lt1006, lt1007, lt1008, lt1100, lt1101, lt1102, lt1103, lt1104, lt1105, lt1135, lt1136, lt1172, lt2000, lt3278, lt3575, lt10000, lt12345, lt21450, lt32767, lt193050, lt1103515245, ltm162, ltm99, ltm81, ltm8, ltm1, iI_add, iI_sub, iI_mul, iI_neg, iI_divn, iI_lt_t, iI_lt_f, iI_le_t, iI_le_f, iI_eq_t, iI_eq_f, iI_lt, iI_le, iI_eq, iI_idx, iI_inb, gI_sI, gL_sL, gZ_sZ, gI_sL, gI_sZ, gL_sI, gL_sZ, gZ_sI, gZ_sL]), ckB_t (iI_inb (by omega) (by omega) (by omega)), lt_def, ckB_t (iI_inb (by omega) (by omega) (by omega)), lt_def, lt_def, iI_idx (by omega) (by omega), Int.toNat_natCast, lt1, iI_add]) N 0 ma (by omega) ⟨fun j hj => by omega, fun o _ j => ⟨rfl, rfl, rfl⟩⟩ (by omega)
  have g : ∀ o, o ≠ 17 → ∀ j, gI m2 o j = gI ma o j := fun o ho j => (q2 o ho j).1
  refine ⟨m2, ?_, ⟨?_, ?_, ?_, ?_, ?_, ?_, ?_, ?_, ?_, ?_, ?_⟩, fun o ho ho1 j => ?_⟩
  · unfold F_Ma_copyFrom_2
    rw [← hN]
    have e3 : F_Ma_copyFrom_2_L82 N (0 : Int32) ma = some ((), m2) := by
      refine e2.trans ?_
      rw [F_Ma_copyFrom_2_L82, if_pos (by decide)]
    rw [← e3, hma]
    simp only [lt_def, gI_sI, gL_sL, gZ_sZ, gI_sL, gI_sZ, gL_sI, gL_sZ, gZ_sI, gZ_sL, (show (76 : Nat) ≠ 16 by omega), false_and, if_false]
  · rw [g 16 (by omega), hma]; simp only [gI_sI, gL_sL, gZ_sZ, gI_sL, gI_sZ, gL_sI, gL_sZ, gZ_sI, gZ_sL, if_true, and_self, and_true, true_and, Nat.reduceEqDiff, if_false, and_false]; exact c0
  · rw [g 16 (by omega), hma]; simp only [gI_sI, gL_sL, gZ_sZ, gI_sL, gI_sZ, gL_sI, gL_sZ, gZ_sI, gZ_sL, if_true, and_self, and_true, true_and, Nat.reduceEqDiff, if_false, and_false]; exact c1
  · rw [g 16 (by omega), hma]; simp only [gI_sI, gL_sL, gZ_sZ, gI_sL, gI_sZ, gL_sI, gL_sZ, gZ_sI, gZ_sL, if_true, and_self, and_true, true_and, Nat.reduceEqDiff, if_false, and_false]; exact c2
  · rw [g 16 (by omega), hma]; simp only [gI_sI, gL_sL, gZ_sZ, gI_sL, gI_sZ, gL_sI, gL_sZ, gZ_sI, gZ_sL, if_true, and_self, and_true, true_and, Nat.reduceEqDiff, if_false, and_false]; exact c3
  · rw [g 16 (by omega), hma]; simp only [gI_sI, gL_sL, gZ_sZ, gI_sL, gI_sZ, gL_sI, gL_sZ, gZ_sI, gZ_sL, if_true, and_self, and_true, true_and, Nat.reduceEqDiff, if_false, and_false]; exact c4
  · rw [(q2 16 (by omega) 5).2.2, hma]; simp only [gI_sI, gL_sL, gZ_sZ, gI_sL, gI_sZ, gL_sI, gL_sZ, gZ_sI, gZ_sL, if_true, and_self, and_true, true_and, Nat.reduceEqDiff, if_false, and_false]; exact c5
  · rw [(q2 16 (by omega) 6).2.2, hma]; simp only [gI_sI, gL_sL, gZ_sZ, gI_sL, gI_sZ, gL_sI, gL_sZ, gZ_sI, gZ_sL, if_true, and_self, and_true, true_and, Nat.reduceEqDiff, if_false, and_false]; exact c6
  · rw [g 16 (by omega), hma]; simp only [gI_sI, gL_sL, gZ_sZ, gI_sL, gI_sZ, gL_sI, gL_sZ, gZ_sI, gZ_sL, if_true, and_self, and_true, true_and, Nat.reduceEqDiff, if_false, and_false]; exact c7
  · rw [g 16 (by omega), hma]; simp only [gI_sI, gL_sL, gZ_sZ, gI_sL, gI_sZ, gL_sI, gL_sZ, gZ_sI, gZ_sL, if_true, and_self, and_true, true_and, Nat.reduceEqDiff, if_false, and_false]; exact c8
  · rw [g 16 (by omega), hma]; simp only [gI_sI, gL_sL, gZ_sZ, gI_sL, gI_sZ, gL_sI, gL_sZ, gZ_sI, gZ_sL, if_true, and_self, and_true, true_and, Nat.reduceEqDiff, if_false, and_false]; exact c9
  · intro j hj
    rw [q1 j (by omega)]
    exact clg j hj
  · have h1 := q2 o ho1 j
    have h2 := ea o ho j
    exact ⟨h1.1.trans h2.1, h1.2.1.trans h2.2.1, h1.2.2.trans h2.2.2⟩
theorem Tcopy3_ok {t : Mt} (m : Mem) (h : CM m 16 t) (p9 : t.pl ≤ 9) : ∃ m1, F_Ma_copyFrom_3 m = some ((), m1) ∧ CM m1 76 t ∧ ∀ o, o ≠ 76 → o ≠ 77 → ∀ j, gI m1 o j = gI m o j ∧ gL m1 o j = gL m o j ∧ gZ m1 o j = gZ m o j := by
  obtain ⟨c0, c1, c2, c3, c4, c5, c6, c7, c8, c9, clg⟩ := h
  obtain ⟨ma, hma⟩ : ∃ x, x = sI (sI (sI (sZ (sZ (sI (sI (sI (sI (sI m 76 0 (gI m 16 0)) 76 1 (gI m 16 1)) 76 2 (gI m 16 2)) 76 3 (gI m 16 3)) 76 4 (gI m 16 4)) 76 5 (gZ m 16 5)) 76 6 (gZ m 16 6)) 76 7 (gI m 16 7)) 76 8 (gI m 16 8)) 76 9 (gI m 16 9) := ⟨_, rfl⟩
  have ea : ∀ o, o ≠ 76 → ∀ j, gI ma o j = gI m o j ∧ gL ma o j = gL m o j ∧ gZ ma o j = gZ m o j := by
    intro o ho j
    rw [hma]
    simp only [gI_sI, gL_sL, gZ_sZ, gI_sL, gI_sZ, gL_sI, gL_sZ, gZ_sI, gZ_sL, ho, false_and, if_false, and_self]
  obtain ⟨N, hN⟩ : ∃ N : Nat, N = 1000000 := ⟨_, rfl⟩
  obtain ⟨nf, m2, ⟨q1, q2⟩, e2⟩ := lpc (F_Ma_copyFrom_3_L82) 63 (fun k s => (∀ j : Nat, j < k → gI s 77 j = gI m 17 j) ∧ ∀ o, o ≠ 77 → ∀ j, gI s o j = gI ma o j ∧ gL s o j = gL ma o j ∧ gZ s o j = gZ ma o j) (by
    intro nf k s hk ⟨q1, q2⟩
    refine ⟨sI s 77 k (gI s 17 k), ⟨fun j hj => ?_, fun o ho j => ?_⟩, ?_⟩
    · rw [gI_sI]
      by_cases hjk : j = k
      · rw [if_pos ⟨rfl, hjk⟩, hjk, (q2 17 (by omega) k).1, (ea 17 (by omega) k).1]
      · rw [if_neg (fun q => hjk q.2)]
        exact q1 j (by omega)
    · refine ⟨?_, (q2 o ho j).2.1, (q2 o ho j).2.2⟩
      rw [gI_sI, if_neg (fun q => ho q.1)]
      exact (q2 o ho j).1
    · rw [F_Ma_copyFrom_3_L82, if_neg (by simp (disch := omega) only [↓lt_def, ↓reduceIte, ckB_true, bnd_e, Int.reduceAdd, Int.reduceSub, Int.reduceMul, Int.reduceNeg, Int.reduceToNat, Bool.false_eq_true, eq_self, not_false_eq_true, not_true_eq_false, Int.toNat_natCast, lt0, lt1, lt2, lt3, lt4, lt5, lt6, lt7, lt8, lt9, lt10, lt11, lt12, lt13, lt14, lt15, lt16, lt17, lt18, lt19, lt20, lt21, lt22, lt23, lt24, lt25, lt26, lt27, lt28, lt29, lt30, lt31, lt32, lt40, lt41, lt43, lt48, lt55, lt57, lt59, lt60, lt62, lt63, lt64, lt70, lt72, lt81, lt97, lt99, lt100, lt122, lt162, lt180, lt235, lt255, lt298, lt299, lt325, lt335, lt400, lt837, lt999, lt1000, lt1001, lt1002, lt1003, lt1004, lt1005, lt1006, lt1007, lt1008, lt1100, lt1101, lt1102, lt1103, lt1104, lt1105, lt1135, lt1136, lt1172, lt2000, lt3278, lt3575, lt10000, lt12345, lt21450, lt32767, lt193050, lt1103515245, ltm162, ltm99, ltm81, ltm8, ltm1, iI_add, iI_sub, iI_mul, iI_neg, iI_divn, iI_lt_t, iI_lt_f, iI_le_t, iI_le_f, iI_eq_t, iI_eq_f, iI_lt, iI_le, iI_eq, iI_idx, iI_inb, gI_sI, gL_sL, gZ_sZ, gI_sL, gI_sZ, gL_sI, gL_sZ, gZ_sI, gZ_sL]), ckB_t (iI_inb (by omega) (by omega) (by omega)), lt_def, ckB_t (iI_inb (by omega) (by omega) (by omega)), lt_def, lt_def, iI_idx (by omega) (by omega), Int.toNat_natCast, lt1, iI_add]) N 0 ma (by omega) ⟨fun j hj => by omega, fun o _ j => ⟨rfl, rfl, rfl⟩⟩ (by omega)
  have g : ∀ o, o ≠ 77 → ∀ j, gI m2 o j = gI ma o j := fun o ho j => (q2 o ho j).1
  refine ⟨m2, ?_, ⟨?_, ?_, ?_, ?_, ?_, ?_, ?_, ?_, ?_, ?_, ?_⟩, fun o ho ho1 j => ?_⟩
  · unfold F_Ma_copyFrom_3
    rw [← hN]
    have e3 : F_Ma_copyFrom_3_L82 N (0 : Int32) ma = some ((), m2) := by
      refine e2.trans ?_
      rw [F_Ma_copyFrom_3_L82, if_pos (by decide)]
    rw [← e3, hma]
    simp only [lt_def, gI_sI, gL_sL, gZ_sZ, gI_sL, gI_sZ, gL_sI, gL_sZ, gZ_sI, gZ_sL, (show (16 : Nat) ≠ 76 by omega), false_and, if_false]
  · rw [g 76 (by omega), hma]; simp only [gI_sI, gL_sL, gZ_sZ, gI_sL, gI_sZ, gL_sI, gL_sZ, gZ_sI, gZ_sL, if_true, and_self, and_true, true_and, Nat.reduceEqDiff, if_false, and_false]; exact c0
  · rw [g 76 (by omega), hma]; simp only [gI_sI, gL_sL, gZ_sZ, gI_sL, gI_sZ, gL_sI, gL_sZ, gZ_sI, gZ_sL, if_true, and_self, and_true, true_and, Nat.reduceEqDiff, if_false, and_false]; exact c1
  · rw [g 76 (by omega), hma]; simp only [gI_sI, gL_sL, gZ_sZ, gI_sL, gI_sZ, gL_sI, gL_sZ, gZ_sI, gZ_sL, if_true, and_self, and_true, true_and, Nat.reduceEqDiff, if_false, and_false]; exact c2
  · rw [g 76 (by omega), hma]; simp only [gI_sI, gL_sL, gZ_sZ, gI_sL, gI_sZ, gL_sI, gL_sZ, gZ_sI, gZ_sL, if_true, and_self, and_true, true_and, Nat.reduceEqDiff, if_false, and_false]; exact c3
  · rw [g 76 (by omega), hma]; simp only [gI_sI, gL_sL, gZ_sZ, gI_sL, gI_sZ, gL_sI, gL_sZ, gZ_sI, gZ_sL, if_true, and_self, and_true, true_and, Nat.reduceEqDiff, if_false, and_false]; exact c4
  · rw [(q2 76 (by omega) 5).2.2, hma]; simp only [gI_sI, gL_sL, gZ_sZ, gI_sL, gI_sZ, gL_sI, gL_sZ, gZ_sI, gZ_sL, if_true, and_self, and_true, true_and, Nat.reduceEqDiff, if_false, and_false]; exact c5
  · rw [(q2 76 (by omega) 6).2.2, hma]; simp only [gI_sI, gL_sL, gZ_sZ, gI_sL, gI_sZ, gL_sI, gL_sZ, gZ_sI, gZ_sL, if_true, and_self, and_true, true_and, Nat.reduceEqDiff, if_false, and_false]; exact c6
  · rw [g 76 (by omega), hma]; simp only [gI_sI, gL_sL, gZ_sZ, gI_sL, gI_sZ, gL_sI, gL_sZ, gZ_sI, gZ_sL, if_true, and_self, and_true, true_and, Nat.reduceEqDiff, if_false, and_false]; exact c7
  · rw [g 76 (by omega), hma]; simp only [gI_sI, gL_sL, gZ_sZ, gI_sL, gI_sZ, gL_sI, gL_sZ, gZ_sI, gZ_sL, if_true, and_self, and_true, true_and, Nat.reduceEqDiff, if_false, and_false]; exact c8
  · rw [g 76 (by omega), hma]; simp only [gI_sI, gL_sL, gZ_sZ, gI_sL, gI_sZ, gL_sI, gL_sZ, gZ_sI, gZ_sL, if_true, and_self, and_true, true_and, Nat.reduceEqDiff, if_false, and_false]; exact c9
  · intro j hj
    rw [q1 j (by omega)]
    exact clg j hj
  · have h1 := q2 o ho1 j
    have h2 := ea o ho j
    exact ⟨h1.1.trans h2.1, h1.2.1.trans h2.2.1, h1.2.2.trans h2.2.2⟩
theorem Tcopy4_ok {t : Mt} (m : Mem) (h : CM m 16 t) (p9 : t.pl ≤ 9) : ∃ m1, F_Ma_copyFrom_4 m = some ((), m1) ∧ CM m1 18 t ∧ ∀ o, o ≠ 18 → o ≠ 19 → ∀ j, gI m1 o j = gI m o j ∧ gL m1 o j = gL m o j ∧ gZ m1 o j = gZ m o j := by
  obtain ⟨c0, c1, c2, c3, c4, c5, c6, c7, c8, c9, clg⟩ := h
  obtain ⟨ma, hma⟩ : ∃ x, x = sI (sI (sI (sZ (sZ (sI (sI (sI (sI (sI m 18 0 (gI m 16 0)) 18 1 (gI m 16 1)) 18 2 (gI m 16 2)) 18 3 (gI m 16 3)) 18 4 (gI m 16 4)) 18 5 (gZ m 16 5)) 18 6 (gZ m 16 6)) 18 7 (gI m 16 7)) 18 8 (gI m 16 8)) 18 9 (gI m 16 9) := ⟨_, rfl⟩
  have ea : ∀ o, o ≠ 18 → ∀ j, gI ma o j = gI m o j ∧ gL ma o j = gL m o j ∧ gZ ma o j = gZ m o j := by
    intro o ho j
    rw [hma]
    simp only [gI_sI, gL_sL, gZ_sZ, gI_sL, gI_sZ, gL_sI, gL_sZ, gZ_sI, gZ_sL, ho, false_and, if_false, and_self]
  obtain ⟨N, hN⟩ : ∃ N : Nat, N = 1000000 := ⟨_, rfl⟩
  obtain ⟨nf, m2, ⟨q1, q2⟩, e2⟩ := lpc (F_Ma_copyFrom_4_L82) 63 (fun k s => (∀ j : Nat, j < k → gI s 19 j = gI m 17 j) ∧ ∀ o, o ≠ 19 → ∀ j, gI s o j = gI ma o j ∧ gL s o j = gL ma o j ∧ gZ s o j = gZ ma o j) (by
    intro nf k s hk ⟨q1, q2⟩
    refine ⟨sI s 19 k (gI s 17 k), ⟨fun j hj => ?_, fun o ho j => ?_⟩, ?_⟩
    · rw [gI_sI]
      by_cases hjk : j = k
      · rw [if_pos ⟨rfl, hjk⟩, hjk, (q2 17 (by omega) k).1, (ea 17 (by omega) k).1]
      · rw [if_neg (fun q => hjk q.2)]
        exact q1 j (by omega)
    · refine ⟨?_, (q2 o ho j).2.1, (q2 o ho j).2.2⟩
      rw [gI_sI, if_neg (fun q => ho q.1)]
      exact (q2 o ho j).1
    · rw [F_Ma_copyFrom_4_L82, if_neg (by simp (disch := omega) only [↓lt_def, ↓reduceIte, ckB_true, bnd_e, Int.reduceAdd, Int.reduceSub, Int.reduceMul, Int.reduceNeg, Int.reduceToNat, Bool.false_eq_true, eq_self, not_false_eq_true, not_true_eq_false, Int.toNat_natCast, lt0, lt1, lt2, lt3, lt4, lt5, lt6, lt7, lt8, lt9, lt10, lt11, lt12, lt13, lt14, lt15, lt16, lt17, lt18, lt19, lt20, lt21, lt22, lt23, lt24, lt25, lt26, lt27, lt28, lt29, lt30, lt31, lt32, lt40, lt41, lt43, lt48, lt55, lt57, lt59, lt60, lt62, lt63, lt64, lt70, lt72, lt81, lt97, lt99, lt100, lt122, lt162, lt180, lt235, lt255, lt298, lt299, lt325, lt335, lt400, lt837, lt999, lt1000, lt1001, lt1002, lt1003, lt1004, lt1005, lt1006, lt1007, lt1008, lt1100, lt1101, lt1102, lt1103, lt1104, lt1105, lt1135, lt1136, lt1172, lt2000, lt3278, lt3575, lt10000, lt12345, lt21450, lt32767, lt193050, lt1103515245, ltm162, ltm99, ltm81, ltm8, ltm1, iI_add, iI_sub, iI_mul, iI_neg, iI_divn, iI_lt_t, iI_lt_f, iI_le_t, iI_le_f, iI_eq_t, iI_eq_f, iI_lt, iI_le, iI_eq, iI_idx, iI_inb, gI_sI, gL_sL, gZ_sZ, gI_sL, gI_sZ, gL_sI, gL_sZ, gZ_sI, gZ_sL]), ckB_t (iI_inb (by omega) (by omega) (by omega)), lt_def, ckB_t (iI_inb (by omega) (by omega) (by omega)), lt_def, lt_def, iI_idx (by omega) (by omega), Int.toNat_natCast, lt1, iI_add]) N 0 ma (by omega) ⟨fun j hj => by omega, fun o _ j => ⟨rfl, rfl, rfl⟩⟩ (by omega)
  have g : ∀ o, o ≠ 19 → ∀ j, gI m2 o j = gI ma o j := fun o ho j => (q2 o ho j).1
  refine ⟨m2, ?_, ⟨?_, ?_, ?_, ?_, ?_, ?_, ?_, ?_, ?_, ?_, ?_⟩, fun o ho ho1 j => ?_⟩
  · unfold F_Ma_copyFrom_4
    rw [← hN]
    have e3 : F_Ma_copyFrom_4_L82 N (0 : Int32) ma = some ((), m2) := by
      refine e2.trans ?_
      rw [F_Ma_copyFrom_4_L82, if_pos (by decide)]
    rw [← e3, hma]
    simp only [lt_def, gI_sI, gL_sL, gZ_sZ, gI_sL, gI_sZ, gL_sI, gL_sZ, gZ_sI, gZ_sL, (show (16 : Nat) ≠ 18 by omega), false_and, if_false]
  · rw [g 18 (by omega), hma]; simp only [gI_sI, gL_sL, gZ_sZ, gI_sL, gI_sZ, gL_sI, gL_sZ, gZ_sI, gZ_sL, if_true, and_self, and_true, true_and, Nat.reduceEqDiff, if_false, and_false]; exact c0
  · rw [g 18 (by omega), hma]; simp only [gI_sI, gL_sL, gZ_sZ, gI_sL, gI_sZ, gL_sI, gL_sZ, gZ_sI, gZ_sL, if_true, and_self, and_true, true_and, Nat.reduceEqDiff, if_false, and_false]; exact c1
  · rw [g 18 (by omega), hma]; simp only [gI_sI, gL_sL, gZ_sZ, gI_sL, gI_sZ, gL_sI, gL_sZ, gZ_sI, gZ_sL, if_true, and_self, and_true, true_and, Nat.reduceEqDiff, if_false, and_false]; exact c2
  · rw [g 18 (by omega), hma]; simp only [gI_sI, gL_sL, gZ_sZ, gI_sL, gI_sZ, gL_sI, gL_sZ, gZ_sI, gZ_sL, if_true, and_self, and_true, true_and, Nat.reduceEqDiff, if_false, and_false]; exact c3
  · rw [g 18 (by omega), hma]; simp only [gI_sI, gL_sL, gZ_sZ, gI_sL, gI_sZ, gL_sI, gL_sZ, gZ_sI, gZ_sL, if_true, and_self, and_true, true_and, Nat.reduceEqDiff, if_false, and_false]; exact c4
  · rw [(q2 18 (by omega) 5).2.2, hma]; simp only [gI_sI, gL_sL, gZ_sZ, gI_sL, gI_sZ, gL_sI, gL_sZ, gZ_sI, gZ_sL, if_true, and_self, and_true, true_and, Nat.reduceEqDiff, if_false, and_false]; exact c5
  · rw [(q2 18 (by omega) 6).2.2, hma]; simp only [gI_sI, gL_sL, gZ_sZ, gI_sL, gI_sZ, gL_sI, gL_sZ, gZ_sI, gZ_sL, if_true, and_self, and_true, true_and, Nat.reduceEqDiff, if_false, and_false]; exact c6
  · rw [g 18 (by omega), hma]; simp only [gI_sI, gL_sL, gZ_sZ, gI_sL, gI_sZ, gL_sI, gL_sZ, gZ_sI, gZ_sL, if_true, and_self, and_true, true_and, Nat.reduceEqDiff, if_false, and_false]; exact c7
  · rw [g 18 (by omega), hma]; simp only [gI_sI, gL_sL, gZ_sZ, gI_sL, gI_sZ, gL_sI, gL_sZ, gZ_sI, gZ_sL, if_true, and_self, and_true, true_and, Nat.reduceEqDiff, if_false, and_false]; exact c8
  · rw [g 18 (by omega), hma]; simp only [gI_sI, gL_sL, gZ_sZ, gI_sL, gI_sZ, gL_sI, gL_sZ, gZ_sI, gZ_sL, if_true, and_self, and_true, true_and, Nat.reduceEqDiff, if_false, and_false]; exact c9
  · intro j hj
    rw [q1 j (by omega)]
    exact clg j hj
  · have h1 := q2 o ho1 j
    have h2 := ea o ho j
    exact ⟨h1.1.trans h2.1, h1.2.1.trans h2.2.1, h1.2.2.trans h2.2.2⟩
end COPY
