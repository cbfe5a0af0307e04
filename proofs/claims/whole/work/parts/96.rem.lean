section REM
theorem room_eq {k : Nat} {m : Mem} (h : k < 12) : F_Pa_roomAt (iI k) m = some (some (22 + 2 * k), m) := by
  unfold F_Pa_roomAt
  rw [lt_def, if_neg (by simp (disch := omega) only [↓lt_def, ↓reduceIte, ckB_true, bnd_e, Int.reduceAdd, Int.reduceSub, Int.reduceMul, Int.reduceNeg, Int.reduceToNat, Bool.false_eq_true, eq_self, not_false_eq_true, not_true_eq_false, Int.toNat_natCast, lt0, lt1, lt2, lt3, lt4, lt5, lt6, lt7, lt8, lt9, lt10, lt11, lt12, lt13, lt14, lt15, lt16, lt17, lt18, lt19, lt20, lt21, lt22, lt23, lt24, lt25, lt26, lt27, lt28, lt29, lt30, lt31, lt32, lt40, lt41, lt43, lt48, lt55, lt57, lt59, lt60, lt62, lt63, lt64, lt70, lt72, lt81, lt97, lt99, lt100, lt122, lt162, lt180, lt235, lt255, lt298, lt299, lt325, lt335, lt400, lt837, lt999, lt1000, lt1001, lt1002, lt1003, lt1004, lt1005, lt1006, lt1007, lt1008, lt1100, lt1101, lt1102, lt1103, lt1104, lt1105, lt1135, lt1136, lt1172, lt2000, lt3278, lt3575, lt10000, lt12345, lt21450, lt32767, lt193050, lt1103515245, ltm162, ltm99, ltm81, ltm8, ltm1, iI_add, iI_sub, iI_mul, iI_neg, iI_divn, iI_lt_t, iI_lt_f, iI_le_t, iI_le_f, iI_eq_t, iI_eq_f, iI_lt, iI_le, iI_eq, iI_idx, iI_inb, gI_sI, gL_sL, gZ_sZ, gI_sL, gI_sZ, gL_sI, gL_sZ, gZ_sI, gZ_sL]), if_pos (by simp (disch := omega) only [↓lt_def, ↓reduceIte, ckB_true, bnd_e, Int.reduceAdd, Int.reduceSub, Int.reduceMul, Int.reduceNeg, Int.reduceToNat, Bool.false_eq_true, eq_self, not_false_eq_true, not_true_eq_false, Int.toNat_natCast, lt0, lt1, lt2, lt3, lt4, lt5, lt6, lt7, lt8, lt9, lt10, lt11, lt12, lt13, lt14, lt15, lt16, lt17, lt18, lt19, lt20, lt21, lt22, lt23, lt24, lt25, lt26, lt27, lt28, lt29, lt30, lt31, lt32, lt40, lt41, lt43, lt48, lt55, lt57, lt59, lt60, lt62, lt63, lt64, lt70, lt72, lt81, lt97, lt99, lt100, lt122, lt162, lt180, lt235, lt255, lt298, lt299, lt325, lt335, lt400, lt837, lt999, lt1000, lt1001, lt1002, lt1003, lt1004, lt1005, lt1006, lt1007, lt1008, lt1100, lt1101, lt1102, lt1103, lt1104, lt1105, lt1135, lt1136, lt1172, lt2000, lt3278, lt3575, lt10000, lt12345, lt21450, lt32767, lt193050, lt1103515245, ltm162, ltm99, ltm81, ltm8, ltm1, iI_add, iI_sub, iI_mul, iI_neg, iI_divn, iI_lt_t, iI_lt_f, iI_le_t, iI_le_f, iI_eq_t, iI_eq_f, iI_lt, iI_le, iI_eq, iI_idx, iI_inb, gI_sI, gL_sL, gZ_sZ, gI_sL, gI_sZ, gL_sI, gL_sZ, gZ_sI, gZ_sL]), ckB_t (iI_inb (by omega) (by omega) (by omega)), iI_idx (by omega) (by omega), Int.toNat_natCast]
  rcases (show k = 0 ∨ k = 1 ∨ k = 2 ∨ k = 3 ∨ k = 4 ∨ k = 5 ∨ k = 6 ∨ k = 7 ∨ k = 8 ∨ k = 9 ∨ k = 10 ∨ k = 11 by omega) with h | h | h | h | h | h | h | h | h | h | h | h <;> subst h <;> rfl
theorem oMat_eq {β : Type} {k : Nat} (h : k < 12) (a : Option β) (f : Nat → Option β) : oMat (some (22 + 2 * k)) a f = f (22 + 2 * k) := by
  have e : isMb (22 + 2 * k) = true := by
    rcases (show k = 0 ∨ k = 1 ∨ k = 2 ∨ k = 3 ∨ k = 4 ∨ k = 5 ∨ k = 6 ∨ k = 7 ∨ k = 8 ∨ k = 9 ∨ k = 10 ∨ k = 11 by omega) with h | h | h | h | h | h | h | h | h | h | h | h <;> subst h <;> decide
  show (if isMb (22 + 2 * k) = true then f (22 + 2 * k) else none) = _
  rw [if_pos e]
theorem mod12_eq {k : Nat} (h : k ≤ 100) : (iI k - iI k / (12 : Int32) * (12 : Int32)) = iI ((k % 12 : Nat) : Int) := by
  rw [lt12, iI_divn (by omega) (by omega) (by omega) (by omega), iI_mul, iI_sub]
  congr 1
  omega
/-- an act is remembered by the class -/
theorem Trem_ok {t : Mt} {m : Mem} {s nx : Nat} (h : CM m 16 t) (p9 : t.pl ≤ 9) (hs : gI m 20 0 = iI s) (hn : gI m 20 1 = iI nx) (s12 : s ≤ 12) (n12 : nx < 12) : ∃ m1, F_Pa_remember m = some ((), m1) ∧ CM m1 (22 + 2 * nx) t ∧ gI m1 20 0 = iI ((min 12 (s + 1) : Nat) : Int) ∧ gI m1 20 1 = iI (((nx + 1) % 12 : Nat) : Int) ∧ ∀ o, o ≠ 20 → o ≠ 22 + 2 * nx → o ≠ 23 + 2 * nx → ∀ j, gI m1 o j = gI m o j ∧ gL m1 o j = gL m o j ∧ gZ m1 o j = gZ m o j := by
  obtain ⟨m1, e1, c1, f1⟩ := Tcopy1_ok m (o0 := 22 + 2 * nx) (by omega) h p9
  have hn1 : gI m1 20 1 = iI nx := (f1 20 (by omega) (by omega) 1).1.trans hn
  have hs1 : gI m1 20 0 = iI s := (f1 20 (by omega) (by omega) 0).1.trans hs
  refine ⟨sI (sI m1 20 1 (iI (((nx + 1) % 12 : Nat) : Int))) 20 0 (iI ((min 12 (s + 1) : Nat) : Int)), ?_, ?_, ?_, ?_, ?_⟩
  · unfold F_Pa_remember
    rw [hn, bnd_some (room_eq n12), oMat_eq n12, bnd_some e1, hn1, lt_def, lt1, iI_add, show ((nx : Int) + 1) = ((nx + 1 : Nat) : Int) by omega, mod12_eq (by omega), lt_def, lt_def, gI_sI, if_neg (fun q => absurd q.2 (by decide)), hs1, iI_add, lt12, mnI_iI (by omega) (by omega) (by omega) (by omega), show min 12 ((s : Int) + 1) = ((min 12 (s + 1) : Nat) : Int) by omega]
  · refine c1.cg (fun j => ?_) (fun j => ?_) (fun j => rfl)
    · rw [gI_sI, if_neg (fun q => by have := q.1; omega), gI_sI, if_neg (fun q => by have := q.1; omega)]
    · rw [gI_sI, if_neg (fun q => by have := q.1; omega), gI_sI, if_neg (fun q => by have := q.1; omega)]
  · rw [gI_sI, if_pos ⟨rfl, rfl⟩]
  · rw [gI_sI, if_neg (fun q => absurd q.2 (by decide)), gI_sI, if_pos ⟨rfl, rfl⟩]
  · intro o a b c j
    refine ⟨?_, (f1 o b (by omega) j).2.1, (f1 o b (by omega) j).2.2⟩
    rw [gI_sI, if_neg (fun q => a q.1), gI_sI, if_neg (fun q => a q.1)]
    exact (f1 o b (by omega) j).1
/-- an act is remembered by the reference -/
theorem Mrem_ok {m : Mem} {s : Nat} (hs : gI m 78 6 = iI s) (s12 : s ≤ 12) : ∃ m1, F_M_remembers m = some ((), m1) ∧ gI m1 78 6 = iI ((min 12 (s + 1) : Nat) : Int) ∧ (∀ i j : Nat, i < min 12 (s + 1) → j < 298 → gI m1 82 (298 * i + j) = if i + 1 = min 12 (s + 1) then gI m 79 j else gI m 82 (298 * (i + (s + 1 - min 12 (s + 1))) + j)) ∧ Fr [82] [(78, 6)] m m1 := by
  obtain ⟨N, hN⟩ : ∃ N : Nat, N = 1000000 := ⟨_, rfl⟩
  -- the row as it stands is put last
  have put : ∀ (ma : Mem) (c : Nat), c ≤ 12 → 1 ≤ c → gI ma 78 6 = iI c → ∃ m1, F_M_remembers_L55 N (0 : Int32) ma = some ((), m1) ∧ (∀ j : Nat, j < 298 → gI m1 82 (298 * (c - 1) + j) = gI ma 79 j) ∧ (∀ x : Nat, x < 298 * (c - 1) → gI m1 82 x = gI ma 82 x) ∧ gI m1 78 6 = gI ma 78 6 := by
    intro ma c c12 c1 hc
    obtain ⟨nf, m2, ⟨q1, q2, q3, q4⟩, e2⟩ := lpc F_M_remembers_L55 298 (fun k z => (∀ j : Nat, j < k → gI z 82 (298 * (c - 1) + j) = gI ma 79 j) ∧ (∀ x : Nat, x < 298 * (c - 1) → gI z 82 x = gI ma 82 x) ∧ gI z 78 6 = iI c ∧ ∀ j, gI z 79 j = gI ma 79 j) (by
      intro nf k z hk ⟨q1, q2, q3, q4⟩
      refine ⟨sI z 82 (298 * (c - 1) + k) (gI z 79 k), ⟨fun j hj => ?_, fun x hx => ?_, q3, q4⟩, ?_⟩
      · rw [gI_sI]
        by_cases hjk : j = k
        · rw [if_pos ⟨rfl, by rw [hjk]⟩, hjk, q4]
        · rw [if_neg (fun q => hjk (by have := q.2; omega))]
          exact q1 j (by omega)
      · rw [gI_sI, if_neg (fun q => by have := q.2; omega)]
        exact q2 x hx
      · rw [F_M_remembers_L55, if_neg (by simp (disch := omega) only [↓lt_def, ↓reduceIte, ckB_true, bnd_e, Int.reduceAdd, Int.reduceSub, Int.reduceMul, Int.reduceNeg, Int.reduceToNat, Bool.false_eq_true, eq_self, not_false_eq_true, not_true_eq_false, Int.toNat_natCast, lt0, lt1, lt2, lt3, lt4, lt5, lt6, lt7, lt8, lt9, lt10, lt11, lt12, lt13, lt14, lt15, lt16, lt17, lt18, lt19, lt20, lt21, lt22, lt23, lt24, lt25, lt26, lt27, lt28, lt29, lt30, lt31, lt32, lt40, lt41, lt43, lt48, lt55, lt57, lt59, lt60, lt62, lt63, lt64, lt70, lt72, lt81, lt97, lt99, lt100, lt122, lt162, lt180, lt235, lt255, lt298, lt299, lt325, lt335, lt400, lt837, lt999, lt1000, lt1001, lt1002, lt1003, lt1004, lt1005, lt1006, lt1007, lt1008, lt1100, lt1101, lt1102, lt1103, lt1104, lt1105, lt1135, lt1136, lt1172, lt2000, lt3278, lt3575, lt10000, lt12345, lt21450, lt32767, lt193050, lt1103515245, ltm162, ltm99, ltm81, ltm8, ltm1, iI_add, iI_sub, iI_mul, iI_neg, iI_divn, iI_lt_t, iI_lt_f, iI_le_t, iI_le_f, iI_eq_t, iI_eq_f, iI_lt, iI_le, iI_eq, iI_idx, iI_inb, gI_sI, gL_sL, gZ_sZ, gI_sL, gI_sZ, gL_sI, gL_sZ, gZ_sI, gZ_sL]), q3, lt_def, lt1, iI_sub, show (298 : Int32) = iI 298 from rfl, iI_mul, iI_add, ckB_t (iI_inb (by omega) (by omega) (by omega)), lt_def, ckB_t (iI_inb (by omega) (by omega) (by omega)), lt_def, lt_def, iI_idx (by omega) (by omega), iI_idx (by omega) (by omega), Int.toNat_natCast, iI_add, show (298 * ((c : Int) - 1) + (k : Int)).toNat = 298 * (c - 1) + k by omega]) N 0 ma (by omega) ⟨fun j hj => by omega, fun x _ => rfl, hc, fun j => rfl⟩ (by omega)
    refine ⟨m2, ?_, fun j hj => q1 j hj, q2, q3.trans hc.symm⟩
    refine e2.trans ?_
    rw [F_M_remembers_L55, if_pos (by decide)]
  suffices hh : ∃ m1, F_M_remembers m = some ((), m1) ∧ gI m1 78 6 = iI ((min 12 (s + 1) : Nat) : Int) ∧ (∀ i j : Nat, i < min 12 (s + 1) → j < 298 → gI m1 82 (298 * i + j) = if i + 1 = min 12 (s + 1) then gI m 79 j else gI m 82 (298 * (i + (s + 1 - min 12 (s + 1))) + j)) by
    obtain ⟨m1, e1, a, b⟩ := hh
    exact ⟨m1, e1, a, b, fr_M_remembers _ _ _ e1⟩
  unfold F_M_remembers
  rw [← hN, hs]
  by_cases h12 : s = 12
  · subst h12
    obtain ⟨nf, m2, ⟨q1, q2, q3, q4⟩, e2⟩ := lpc (F_M_remembers_L11 (fun mq13 => F_M_remembers_L55 N (0 : Int32) mq13)) 3278 (fun k z => (∀ x : Nat, x < k → gI z 82 x = gI m 82 (298 + x)) ∧ (∀ x : Nat, k ≤ x → gI z 82 x = gI m 82 x) ∧ gI z 78 6 = iI 12 ∧ ∀ j, gI z 79 j = gI m 79 j) (by
      intro nf k z hk ⟨q1, q2, q3, q4⟩
      refine ⟨sI z 82 k (gI z 82 (k + 298)), ⟨fun x hx => ?_, fun x hx => ?_, q3, q4⟩, ?_⟩
      · rw [gI_sI]
        by_cases hxk : x = k
        · rw [if_pos ⟨rfl, hxk⟩, q2 _ (by omega), hxk, Nat.add_comm]
        · rw [if_neg (fun q => hxk q.2)]
          exact q1 x (by omega)
      · rw [gI_sI, if_neg (fun q => by have := q.2; omega)]
        exact q2 x (by omega)
      · rw [F_M_remembers_L11, if_neg (by simp (disch := omega) only [↓lt_def, ↓reduceIte, ckB_true, bnd_e, Int.reduceAdd, Int.reduceSub, Int.reduceMul, Int.reduceNeg, Int.reduceToNat, Bool.false_eq_true, eq_self, not_false_eq_true, not_true_eq_false, Int.toNat_natCast, lt0, lt1, lt2, lt3, lt4, lt5, lt6, lt7, lt8, lt9, lt10, lt11, lt12, lt13, lt14, lt15, lt16, lt17, lt18, lt19, lt20, lt21, lt22, lt23, lt24, lt25, lt26, lt27, lt28, lt29, lt30, lt31, lt32, lt40, lt41, lt43, lt48, lt55, lt57, lt59, lt60, lt62, lt63, lt64, lt70, lt72, lt81, lt97, lt99, lt100, lt122, lt162, lt180, lt235, lt255, lt298, lt299, lt325, lt335, lt400, lt837, lt999, lt1000, lt1001, lt1002, lt1003, lt1004, lt1005, lt1006, lt1007, lt1008, lt1100, lt1101, lt1102, lt1103, lt1104, lt1105, lt1135, lt1136, lt1172, lt2000, lt3278, lt3575, lt10000, lt12345, lt21450, lt32767, lt193050, lt1103515245, ltm162, ltm99, ltm81, ltm8, ltm1, iI_add, iI_sub, iI_mul, iI_neg, iI_divn, iI_lt_t, iI_lt_f, iI_le_t, iI_le_f, iI_eq_t, iI_eq_f, iI_lt, iI_le, iI_eq, iI_idx, iI_inb, gI_sI, gL_sL, gZ_sZ, gI_sL, gI_sZ, gL_sI, gL_sZ, gZ_sI, gZ_sL]), show (298 : Int32) = iI 298 from rfl, iI_add, ckB_t (iI_inb (by omega) (by omega) (by omega)), lt_def, ckB_t (iI_inb (by omega) (by omega) (by omega)), lt_def, lt_def, iI_idx (by omega) (by omega), iI_idx (by omega) (by omega), Int.toNat_natCast, lt1, iI_add, show ((k : Int) + 298).toNat = k + 298 by omega]) N 0 m (by omega) ⟨fun x hx => by omega, fun x _ => rfl, hs, fun j => rfl⟩ (by omega)
    obtain ⟨m3, e3, a3, b3, d3⟩ := put m2 12 (by omega) (by omega) q3
    refine ⟨m3, ?_, d3.trans q3, fun i j hi hj => ?_⟩
    · rw [lt_def, if_pos (by decide), lt_def]
      refine (show _ = _ from e2).trans ?_
      rw [F_M_remembers_L11, if_pos (by decide)]
      exact e3
    · by_cases hq : i + 1 = min 12 (12 + 1)
      · rw [if_pos hq, show i = 12 - 1 by omega, a3 j hj, q4]
      · rw [if_neg hq, b3 _ (by omega), q1 _ (by omega)]
        congr 1
        omega
  · obtain ⟨m3, e3, a3, b3, d3⟩ := put (sI m 78 6 (iI ((s + 1 : Nat) : Int))) (s + 1) (by omega) (by omega) rfl
    refine ⟨m3, ?_, ?_, fun i j hi hj => ?_⟩
    · rw [lt_def, if_neg (by rw [lt12, iI_eq (by omega) (by omega) (by omega) (by omega)]; omega), lt_def, lt1, iI_add]
      exact e3
    · rw [d3, show min 12 (s + 1) = s + 1 by omega]; rfl
    · by_cases hq : i + 1 = min 12 (s + 1)
      · rw [if_pos hq, show i = s + 1 - 1 by omega, a3 j hj]; rfl
      · rw [if_neg hq, b3 _ (by omega), show s + 1 - min 12 (s + 1) = 0 by omega]; rfl
end REM
