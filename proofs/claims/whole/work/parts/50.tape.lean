section TAPE
/-- the tape: as many bytes, the same ones -/
def ITape (m : Mem) : Prop := ∃ t : Nat, t ≤ 400 ∧ gI m 0 1 = iI t ∧ gI m 78 8 = iI t ∧ ∀ k, k < t → (∃ z : Int, gI m 1 k = iI z ∧ 0 ≤ z ∧ z ≤ 255) ∧ gI m 83 k = (gI m 1 k).toInt8.toInt32
def shr (a s : Int32) : Int32 := (a.toUInt32 >>> (s.toUInt32 &&& Int32.toUInt32 31)).toInt32 &&& 255
theorem putBytes_step (a : Int32) (s : Int) (nf t : Nat) (m : Mem) (ht : gI m 0 1 = iI t) (h : t < 400) (hs : 0 ≤ s ∧ s < 100) : F_T_putBytes_L3 a (nf + 1) (iI s) m = F_T_putBytes_L3 a nf (iI (s - 8)) (sI (sI m 1 t (shr a (iI s))) 0 1 (iI (t + 1))) := by
  rw [F_T_putBytes_L3]
  simp (disch := omega) only [lt_def, ckB_true, bnd_e, if_pos, if_neg, if_true, if_false, Int.toNat_natCast, lt0, lt1, lt2, lt3, lt4, lt5, lt6, lt7, lt8, lt9, lt10, lt11, lt12, lt13, lt14, lt15, lt16, lt17, lt18, lt19, lt20, lt21, lt22, lt23, lt24, lt25, lt26, lt27, lt28, lt29, lt30, lt31, lt32, lt40, lt41, lt43, lt48, lt55, lt57, lt59, lt60, lt62, lt63, lt64, lt70, lt72, lt81, lt97, lt99, lt100, lt122, lt162, lt180, lt235, lt255, lt298, lt299, lt325, lt335, lt400, lt837, lt999, lt1000, lt1001, lt1002, lt1003, lt1004, lt1005, lt1006, lt1007, lt1008, lt1100, lt1101, lt1102, lt1103, lt1104, lt1105, lt1135, lt1136, lt1172, lt2000, lt3278, lt3575, lt10000, lt12345, lt21450, lt32767, lt193050, lt1103515245, ltm162, ltm99, ltm81, ltm8, ltm1, iI_add, iI_sub, iI_mul, iI_neg, iI_divn, iI_lt, iI_le, iI_eq, iI_idx, iI_inb, gI_sI, gL_sL, gZ_sZ, gI_sL, gI_sZ, gL_sI, gL_sZ, gZ_sI, gZ_sL, ht, shr]
  rw [show s + -8 = s - 8 by omega]
/-- four bytes of a number -/
theorem putBytes_eq (a : Int32) (t : Nat) (m : Mem) (ht : gI m 0 1 = iI t) (h : t + 4 ≤ 400) : ∃ m', F_T_putBytes a m = some ((), m') ∧ gI m' 0 1 = iI (t + 4 : Nat) ∧ gI m' 1 t = shr a 24 ∧ gI m' 1 (t + 1) = shr a 16 ∧ gI m' 1 (t + 2) = shr a 8 ∧ gI m' 1 (t + 3) = shr a 0 ∧ ∀ k, (k < t ∨ t + 4 ≤ k) → gI m' 1 k = gI m 1 k := by
  unfold F_T_putBytes
  rw [show (1000000 : Nat) = 999995 + 1 + 1 + 1 + 1 + 1 from rfl, lt24, putBytes_step a 24 _ t m ht (by omega) (by omega)]
  rw [putBytes_step a (24 - 8) _ (t + 1) _ (by simp (disch := omega) only [lt_def, ckB_true, bnd_e, if_pos, if_neg, if_true, if_false, Int.toNat_natCast, lt0, lt1, lt2, lt3, lt4, lt5, lt6, lt7, lt8, lt9, lt10, lt11, lt12, lt13, lt14, lt15, lt16, lt17, lt18, lt19, lt20, lt21, lt22, lt23, lt24, lt25, lt26, lt27, lt28, lt29, lt30, lt31, lt32, lt40, lt41, lt43, lt48, lt55, lt57, lt59, lt60, lt62, lt63, lt64, lt70, lt72, lt81, lt97, lt99, lt100, lt122, lt162, lt180, lt235, lt255, lt298, lt299, lt325, lt335, lt400, lt837, lt999, lt1000, lt1001, lt1002, lt1003, lt1004, lt1005, lt1006, lt1007, lt1008, lt1100, lt1101, lt1102, lt1103, lt1104, lt1105, lt1135, lt1136, lt1172, lt2000, lt3278, lt3575, lt10000, lt12345, lt21450, lt32767, lt193050, lt1103515245, ltm162, ltm99, ltm81, ltm8, ltm1, iI_add, iI_sub, iI_mul, iI_neg, iI_divn, iI_lt, iI_le, iI_eq, iI_idx, iI_inb, gI_sI, gL_sL, gZ_sZ, gI_sL, gI_sZ, gL_sI, gL_sZ, gZ_sI, gZ_sL]; simp) (by omega) (by omega)]
  rw [putBytes_step a (24 - 8 - 8) _ (t + 1 + 1) _ (by simp (disch := omega) only [lt_def, ckB_true, bnd_e, if_pos, if_neg, if_true, if_false, Int.toNat_natCast, lt0, lt1, lt2, lt3, lt4, lt5, lt6, lt7, lt8, lt9, lt10, lt11, lt12, lt13, lt14, lt15, lt16, lt17, lt18, lt19, lt20, lt21, lt22, lt23, lt24, lt25, lt26, lt27, lt28, lt29, lt30, lt31, lt32, lt40, lt41, lt43, lt48, lt55, lt57, lt59, lt60, lt62, lt63, lt64, lt70, lt72, lt81, lt97, lt99, lt100, lt122, lt162, lt180, lt235, lt255, lt298, lt299, lt325, lt335, lt400, lt837, lt999, lt1000, lt1001, lt1002, lt1003, lt1004, lt1005, lt1006, lt1007, lt1008, lt1100, lt1101, lt1102, lt1103, lt1104, lt1105, lt1135, lt1136, lt1172, lt2000, lt3278, lt3575, lt10000, lt12345, lt21450, lt32767, lt193050, lt1103515245, ltm162, ltm99, ltm81, ltm8, ltm1, iI_add, iI_sub, iI_mul, iI_neg, iI_divn, iI_lt, iI_le, iI_eq, iI_idx, iI_inb, gI_sI, gL_sL, gZ_sZ, gI_sL, gI_sZ, gL_sI, gL_sZ, gZ_sI, gZ_sL]; simp) (by omega) (by omega)]
  rw [putBytes_step a (24 - 8 - 8 - 8) _ (t + 1 + 1 + 1) _ (by simp (disch := omega) only [lt_def, ckB_true, bnd_e, if_pos, if_neg, if_true, if_false, Int.toNat_natCast, lt0, lt1, lt2, lt3, lt4, lt5, lt6, lt7, lt8, lt9, lt10, lt11, lt12, lt13, lt14, lt15, lt16, lt17, lt18, lt19, lt20, lt21, lt22, lt23, lt24, lt25, lt26, lt27, lt28, lt29, lt30, lt31, lt32, lt40, lt41, lt43, lt48, lt55, lt57, lt59, lt60, lt62, lt63, lt64, lt70, lt72, lt81, lt97, lt99, lt100, lt122, lt162, lt180, lt235, lt255, lt298, lt299, lt325, lt335, lt400, lt837, lt999, lt1000, lt1001, lt1002, lt1003, lt1004, lt1005, lt1006, lt1007, lt1008, lt1100, lt1101, lt1102, lt1103, lt1104, lt1105, lt1135, lt1136, lt1172, lt2000, lt3278, lt3575, lt10000, lt12345, lt21450, lt32767, lt193050, lt1103515245, ltm162, ltm99, ltm81, ltm8, ltm1, iI_add, iI_sub, iI_mul, iI_neg, iI_divn, iI_lt, iI_le, iI_eq, iI_idx, iI_inb, gI_sI, gL_sL, gZ_sZ, gI_sL, gI_sZ, gL_sI, gL_sZ, gZ_sI, gZ_sL]; simp) (by omega) (by omega)]
  rw [F_T_putBytes_L3]
  simp (disch := omega) only [lt_def, ckB_true, bnd_e, if_pos, if_neg, if_true, if_false, Int.toNat_natCast, lt0, lt1, lt2, lt3, lt4, lt5, lt6, lt7, lt8, lt9, lt10, lt11, lt12, lt13, lt14, lt15, lt16, lt17, lt18, lt19, lt20, lt21, lt22, lt23, lt24, lt25, lt26, lt27, lt28, lt29, lt30, lt31, lt32, lt40, lt41, lt43, lt48, lt55, lt57, lt59, lt60, lt62, lt63, lt64, lt70, lt72, lt81, lt97, lt99, lt100, lt122, lt162, lt180, lt235, lt255, lt298, lt299, lt325, lt335, lt400, lt837, lt999, lt1000, lt1001, lt1002, lt1003, lt1004, lt1005, lt1006, lt1007, lt1008, lt1100, lt1101, lt1102, lt1103, lt1104, lt1105, lt1135, lt1136, lt1172, lt2000, lt3278, lt3575, lt10000, lt12345, lt21450, lt32767, lt193050, lt1103515245, ltm162, ltm99, ltm81, ltm8, ltm1, iI_add, iI_sub, iI_mul, iI_neg, iI_divn, iI_lt, iI_le, iI_eq, iI_idx, iI_inb, gI_sI, gL_sL, gZ_sZ, gI_sL, gI_sZ, gL_sI, gL_sZ, gZ_sI, gZ_sL]
  refine ⟨_, rfl, ?_, ?_, ?_, ?_, ?_, ?_⟩
  all_goals simp [gI_sI, gL_sL, gZ_sZ, gI_sL, gI_sZ, gL_sI, gL_sZ, gZ_sI, gZ_sL]
  · congr 1
  · rw [if_neg (by omega), if_neg (by omega)]
  · intro k hk
    rw [if_neg (by omega), if_neg (by omega), if_neg (by omega), if_neg (by omega)]
/-- which byte of which of five numbers -/
def by5 (a b c d e : Int32) (k : Nat) : Int32 := shr (if k < 4 then a else if k < 8 then b else if k < 12 then c else if k < 16 then d else e) (iI (24 - 8 * (k % 4 : Nat)))
theorem shr_rng (a s : Int32) : ∃ z : Int, shr a s = iI z ∧ 0 ≤ z ∧ z ≤ 255 := and255 _
theorem Tfeed_eq (a b c d e : Int32) (t : Nat) (m : Mem) (ht : gI m 0 1 = iI t) (h : t + 20 ≤ 400) : ∃ m', F_T_feed a b c d e m = some (iI (t + 20 : Nat), m') ∧ gI m' 0 1 = iI (t + 20 : Nat) ∧ (∀ k, k < 20 → gI m' 1 (t + k) = by5 a b c d e k) ∧ ∀ k, k < t → gI m' 1 k = gI m 1 k := by
  obtain ⟨m1, e1, t1, p0, p1, p2, p3, p4⟩ := putBytes_eq a t m ht (by omega)
  obtain ⟨m2, e2, t2, q0, q1, q2, q3, q4⟩ := putBytes_eq b (t + 4) m1 t1 (by omega)
  obtain ⟨m3, e3, t3, r0, r1, r2, r3, r4⟩ := putBytes_eq c (t + 8) m2 t2 (by omega)
  obtain ⟨m4, e4, t4, s0, s1, s2, s3, s4⟩ := putBytes_eq d (t + 12) m3 t3 (by omega)
  obtain ⟨m5, e5, t5, u0, u1, u2, u3, u4⟩ := putBytes_eq e (t + 16) m4 t4 (by omega)
  refine ⟨m5, ?_, t5, ?_, ?_⟩
  · unfold F_T_feed
    rw [if_pos (by simp (disch := omega) only [lt_def, ckB_true, bnd_e, if_pos, if_neg, if_true, if_false, Int.toNat_natCast, lt0, lt1, lt2, lt3, lt4, lt5, lt6, lt7, lt8, lt9, lt10, lt11, lt12, lt13, lt14, lt15, lt16, lt17, lt18, lt19, lt20, lt21, lt22, lt23, lt24, lt25, lt26, lt27, lt28, lt29, lt30, lt31, lt32, lt40, lt41, lt43, lt48, lt55, lt57, lt59, lt60, lt62, lt63, lt64, lt70, lt72, lt81, lt97, lt99, lt100, lt122, lt162, lt180, lt235, lt255, lt298, lt299, lt325, lt335, lt400, lt837, lt999, lt1000, lt1001, lt1002, lt1003, lt1004, lt1005, lt1006, lt1007, lt1008, lt1100, lt1101, lt1102, lt1103, lt1104, lt1105, lt1135, lt1136, lt1172, lt2000, lt3278, lt3575, lt10000, lt12345, lt21450, lt32767, lt193050, lt1103515245, ltm162, ltm99, ltm81, ltm8, ltm1, iI_add, iI_sub, iI_mul, iI_neg, iI_divn, iI_lt, iI_le, iI_eq, iI_idx, iI_inb, gI_sI, gL_sL, gZ_sZ, gI_sL, gI_sZ, gL_sI, gL_sZ, gZ_sI, gZ_sL, ht]; omega), bnd_some e1, bnd_some e2, bnd_some e3, bnd_some e4, bnd_some e5, t5]
  · intro k hk
    rcases (show k = 0 ∨ k = 1 ∨ k = 2 ∨ k = 3 ∨ k = 4 ∨ k = 5 ∨ k = 6 ∨ k = 7 ∨ k = 8 ∨ k = 9 ∨ k = 10 ∨ k = 11 ∨ k = 12 ∨ k = 13 ∨ k = 14 ∨ k = 15 ∨ k = 16 ∨ k = 17 ∨ k = 18 ∨ k = 19 by omega) with rfl | rfl | rfl | rfl | rfl | rfl | rfl | rfl | rfl | rfl | rfl | rfl | rfl | rfl | rfl | rfl | rfl | rfl | rfl | rfl
    · rw [u4 _ (by omega), s4 _ (by omega), r4 _ (by omega), q4 _ (by omega)]; exact p0
    · rw [u4 _ (by omega), s4 _ (by omega), r4 _ (by omega), q4 _ (by omega)]; exact p1
    · rw [u4 _ (by omega), s4 _ (by omega), r4 _ (by omega), q4 _ (by omega)]; exact p2
    · rw [u4 _ (by omega), s4 _ (by omega), r4 _ (by omega), q4 _ (by omega)]; exact p3
    · rw [u4 _ (by omega), s4 _ (by omega), r4 _ (by omega)]; exact q0
    · rw [u4 _ (by omega), s4 _ (by omega), r4 _ (by omega)]; exact q1
    · rw [u4 _ (by omega), s4 _ (by omega), r4 _ (by omega)]; exact q2
    · rw [u4 _ (by omega), s4 _ (by omega), r4 _ (by omega)]; exact q3
    · rw [u4 _ (by omega), s4 _ (by omega)]; exact r0
    · rw [u4 _ (by omega), s4 _ (by omega)]; exact r1
    · rw [u4 _ (by omega), s4 _ (by omega)]; exact r2
    · rw [u4 _ (by omega), s4 _ (by omega)]; exact r3
    · rw [u4 _ (by omega)]; exact s0
    · rw [u4 _ (by omega)]; exact s1
    · rw [u4 _ (by omega)]; exact s2
    · rw [u4 _ (by omega)]; exact s3
    · exact u0
    · exact u1
    · exact u2
    · exact u3
  · intro k hk
    rw [u4 _ (by omega), s4 _ (by omega), r4 _ (by omega), q4 _ (by omega), p4 _ (by omega)]
theorem Mfeed_eq (a b c d e : Int32) (t : Nat) (m : Mem) (ht : gI m 78 8 = iI t) (h : t + 20 ≤ 400) : ∃ m', F_M_feed a b c d e m = some (iI (t + 20 : Nat), m') ∧ gI m' 78 8 = iI (t + 20 : Nat) ∧ (∀ k, k < 20 → gI m' 83 (t + k) = (by5 a b c d e k).toInt8.toInt32) ∧ (∀ k, k < t → gI m' 83 k = gI m 83 k) ∧ gI m' 78 0 = 0 := by
  obtain ⟨m1, hm1⟩ : ∃ x, x = sI (sI (sI (sI (sI (sI m 78 0 0) 84 0 a) 84 1 b) 84 2 c) 84 3 d) 84 4 e := ⟨_, rfl⟩
  have hfive : ∀ k, k < 20 → gI m1 84 (k / 4) = (if k < 4 then a else if k < 8 then b else if k < 12 then c else if k < 16 then d else e) := by
    intro k hk
    rw [hm1]
    rcases (show k / 4 = 0 ∨ k / 4 = 1 ∨ k / 4 = 2 ∨ k / 4 = 3 ∨ k / 4 = 4 by omega) with h1 | h1 | h1 | h1 | h1
    · rw [h1, if_pos (by omega)]; rfl
    · rw [h1, if_neg (by omega), if_pos (by omega)]; rfl
    · rw [h1, if_neg (by omega), if_neg (by omega), if_pos (by omega)]; rfl
    · rw [h1, if_neg (by omega), if_neg (by omega), if_neg (by omega), if_pos (by omega)]; rfl
    · rw [h1, if_neg (by omega), if_neg (by omega), if_neg (by omega), if_neg (by omega)]; rfl
  obtain ⟨kk, hkk⟩ : ∃ x : Mem → Option (Int32 × Mem), x = fun mq7 => lt (sI mq7 78 8 ((gI mq7 78 8) + (20 : Int32))) fun mq8 => some (gI mq8 78 8, mq8) := ⟨_, rfl⟩
  obtain ⟨nf, m2, ⟨p1, p2, p3, p4, p5⟩, key⟩ := lpc (F_M_feed_L60 kk) 20 (fun k s => gI s 78 8 = iI t ∧ gI s 78 0 = 0 ∧ (∀ j, gI s 84 j = gI m1 84 j) ∧ (∀ j, j < k → gI s 83 (t + j) = (by5 a b c d e j).toInt8.toInt32) ∧ ∀ j, j < t → gI s 83 j = gI m 83 j) (by
    intro nf k s hk ⟨p1, p2, p3, p4, p5⟩
    have hb := byte_eq (gI m1 84 (k / 4)) (iI (24 - 8 * (k % 4 : Nat))) (by
      rcases (show k % 4 = 0 ∨ k % 4 = 1 ∨ k % 4 = 2 ∨ k % 4 = 3 by omega) with h1 | h1 | h1 | h1 <;> rw [h1]
      · exact Or.inr (Or.inr (Or.inr rfl))
      · exact Or.inr (Or.inr (Or.inl rfl))
      · exact Or.inr (Or.inl rfl)
      · exact Or.inl rfl)
    refine ⟨sI s 83 (t + k) (by5 a b c d e k).toInt8.toInt32, ⟨p1, p2, p3, fun j hj => ?_, fun j hj => ?_⟩, ?_⟩
    · rw [gI_sI]
      by_cases hjk : j = k
      · rw [if_pos ⟨rfl, by omega⟩, hjk]
      · rw [if_neg (by omega)]
        exact p4 j (by omega)
    · rw [gI_sI, if_neg (by omega)]
      exact p5 j hj
    · rw [F_M_feed_L60]
      simp (disch := omega) only [lt_def, ckB_true, bnd_e, if_pos, if_neg, if_true, if_false, Int.toNat_natCast, lt0, lt1, lt2, lt3, lt4, lt5, lt6, lt7, lt8, lt9, lt10, lt11, lt12, lt13, lt14, lt15, lt16, lt17, lt18, lt19, lt20, lt21, lt22, lt23, lt24, lt25, lt26, lt27, lt28, lt29, lt30, lt31, lt32, lt40, lt41, lt43, lt48, lt55, lt57, lt59, lt60, lt62, lt63, lt64, lt70, lt72, lt81, lt97, lt99, lt100, lt122, lt162, lt180, lt235, lt255, lt298, lt299, lt325, lt335, lt400, lt837, lt999, lt1000, lt1001, lt1002, lt1003, lt1004, lt1005, lt1006, lt1007, lt1008, lt1100, lt1101, lt1102, lt1103, lt1104, lt1105, lt1135, lt1136, lt1172, lt2000, lt3278, lt3575, lt10000, lt12345, lt21450, lt32767, lt193050, lt1103515245, ltm162, ltm99, ltm81, ltm8, ltm1, iI_add, iI_sub, iI_mul, iI_neg, iI_divn, iI_lt, iI_le, iI_eq, iI_idx, iI_inb, gI_sI, gL_sL, gZ_sZ, gI_sL, gI_sZ, gL_sI, gL_sZ, gZ_sI, gZ_sL, p1, p3]
      have e1 : ((k : Int) / 4).toNat = k / 4 := by omega
      have e2 : ((t : Int) + k).toNat = t + k := by omega
      rw [lt31] at hb
      rw [e1, e2, show (24 : Int) - (8 * ((k : Int) - (k : Int) / 4 * 4)) = 24 - 8 * ((k % 4 : Nat) : Int) by omega, hb, hfive k hk]
      rfl) 1000000 0 m1 (by omega) ⟨by rw [hm1]; exact ht, by rw [hm1]; rfl, fun _ => rfl, fun j hj => absurd hj (Nat.not_lt_zero _), fun j _ => by rw [hm1]; rfl⟩ (by omega)
  refine ⟨sI m2 78 8 (iI (t + 20 : Nat)), ?_, rfl, p4, p5, p2⟩
  · unfold F_M_feed
    rw [← hkk]
    simp (disch := omega) only [lt_def, ckB_true, bnd_e, if_pos, if_neg, if_true, if_false, Int.toNat_natCast, lt0, lt1, lt2, lt3, lt4, lt5, lt6, lt7, lt8, lt9, lt10, lt11, lt12, lt13, lt14, lt15, lt16, lt17, lt18, lt19, lt20, lt21, lt22, lt23, lt24, lt25, lt26, lt27, lt28, lt29, lt30, lt31, lt32, lt40, lt41, lt43, lt48, lt55, lt57, lt59, lt60, lt62, lt63, lt64, lt70, lt72, lt81, lt97, lt99, lt100, lt122, lt162, lt180, lt235, lt255, lt298, lt299, lt325, lt335, lt400, lt837, lt999, lt1000, lt1001, lt1002, lt1003, lt1004, lt1005, lt1006, lt1007, lt1008, lt1100, lt1101, lt1102, lt1103, lt1104, lt1105, lt1135, lt1136, lt1172, lt2000, lt3278, lt3575, lt10000, lt12345, lt21450, lt32767, lt193050, lt1103515245, ltm162, ltm99, ltm81, ltm8, ltm1, iI_add, iI_sub, iI_mul, iI_neg, iI_divn, iI_lt, iI_le, iI_eq, iI_idx, iI_inb, gI_sI, gL_sL, gZ_sZ, gI_sL, gI_sZ, gL_sI, gL_sZ, gZ_sI, gZ_sL, ht]
    rw [hm1] at key
    refine (show _ = F_M_feed_L60 kk (nf + 1) (iI 20) m2 from key).trans ?_
    rw [F_M_feed_L60]
    simp (disch := omega) only [lt_def, ckB_true, bnd_e, if_pos, if_neg, if_true, if_false, Int.toNat_natCast, lt0, lt1, lt2, lt3, lt4, lt5, lt6, lt7, lt8, lt9, lt10, lt11, lt12, lt13, lt14, lt15, lt16, lt17, lt18, lt19, lt20, lt21, lt22, lt23, lt24, lt25, lt26, lt27, lt28, lt29, lt30, lt31, lt32, lt40, lt41, lt43, lt48, lt55, lt57, lt59, lt60, lt62, lt63, lt64, lt70, lt72, lt81, lt97, lt99, lt100, lt122, lt162, lt180, lt235, lt255, lt298, lt299, lt325, lt335, lt400, lt837, lt999, lt1000, lt1001, lt1002, lt1003, lt1004, lt1005, lt1006, lt1007, lt1008, lt1100, lt1101, lt1102, lt1103, lt1104, lt1105, lt1135, lt1136, lt1172, lt2000, lt3278, lt3575, lt10000, lt12345, lt21450, lt32767, lt193050, lt1103515245, ltm162, ltm99, ltm81, ltm8, ltm1, iI_add, iI_sub, iI_mul, iI_neg, iI_divn, iI_lt, iI_le, iI_eq, iI_idx, iI_inb, gI_sI, gL_sL, gZ_sZ, gI_sL, gI_sZ, gL_sI, gL_sZ, gZ_sI, gZ_sL, hkk, p1]
    simp
theorem feed_c1 (a b c d e : Int32) (m : Mem) (t : Nat) (t3 : gI m 78 8 = iI t) (h : ¬ t + 20 ≤ 400) (h4 : t ≤ 400) : F_M_feed a b c d e m = some (-1, sI m 78 0 0) := by
  unfold F_M_feed
  rw [lt_def, if_neg (by simp (disch := omega) only [lt_def, ckB_true, bnd_e, if_pos, if_neg, if_true, if_false, Int.toNat_natCast, lt0, lt1, lt2, lt3, lt4, lt5, lt6, lt7, lt8, lt9, lt10, lt11, lt12, lt13, lt14, lt15, lt16, lt17, lt18, lt19, lt20, lt21, lt22, lt23, lt24, lt25, lt26, lt27, lt28, lt29, lt30, lt31, lt32, lt40, lt41, lt43, lt48, lt55, lt57, lt59, lt60, lt62, lt63, lt64, lt70, lt72, lt81, lt97, lt99, lt100, lt122, lt162, lt180, lt235, lt255, lt298, lt299, lt325, lt335, lt400, lt837, lt999, lt1000, lt1001, lt1002, lt1003, lt1004, lt1005, lt1006, lt1007, lt1008, lt1100, lt1101, lt1102, lt1103, lt1104, lt1105, lt1135, lt1136, lt1172, lt2000, lt3278, lt3575, lt10000, lt12345, lt21450, lt32767, lt193050, lt1103515245, ltm162, ltm99, ltm81, ltm8, ltm1, iI_add, iI_sub, iI_mul, iI_neg, iI_divn, iI_lt, iI_le, iI_eq, iI_idx, iI_inb, gI_sI, gL_sL, gZ_sZ, gI_sL, gI_sZ, gL_sI, gL_sZ, gZ_sI, gZ_sL, t3]; omega)]
theorem feed_c2 (a b c d e : Int32) (m : Mem) (t : Nat) (t2 : gI m 0 1 = iI t) (h : ¬ t + 20 ≤ 400) (h4 : t ≤ 400) : F_T_feed a b c d e m = some (-1, m) := by
  unfold F_T_feed
  simp (disch := omega) only [lt_def, ckB_true, bnd_e, if_pos, if_neg, if_true, if_false, Int.toNat_natCast, lt0, lt1, lt2, lt3, lt4, lt5, lt6, lt7, lt8, lt9, lt10, lt11, lt12, lt13, lt14, lt15, lt16, lt17, lt18, lt19, lt20, lt21, lt22, lt23, lt24, lt25, lt26, lt27, lt28, lt29, lt30, lt31, lt32, lt40, lt41, lt43, lt48, lt55, lt57, lt59, lt60, lt62, lt63, lt64, lt70, lt72, lt81, lt97, lt99, lt100, lt122, lt162, lt180, lt235, lt255, lt298, lt299, lt325, lt335, lt400, lt837, lt999, lt1000, lt1001, lt1002, lt1003, lt1004, lt1005, lt1006, lt1007, lt1008, lt1100, lt1101, lt1102, lt1103, lt1104, lt1105, lt1135, lt1136, lt1172, lt2000, lt3278, lt3575, lt10000, lt12345, lt21450, lt32767, lt193050, lt1103515245, ltm162, ltm99, ltm81, ltm8, ltm1, iI_add, iI_sub, iI_mul, iI_neg, iI_divn, iI_lt, iI_le, iI_eq, iI_idx, iI_inb, gI_sI, gL_sL, gZ_sZ, gI_sL, gI_sZ, gL_sI, gL_sZ, gZ_sI, gZ_sL, t2]
theorem feed_c3 (m : Mem) (hT : ITape m) : ITape (sI m 78 0 0) := by
  obtain ⟨t, t1, t2, t3, t4⟩ := hT
  exact ⟨t, t1, t2, t3, t4⟩
/-- the two of them -/
theorem feed_ok (a b c d e : Int32) (m : Mem) (hT : ITape m) : ∃ r m1 m2, F_T_feed a b c d e m = some (r, m1) ∧ F_M_feed a b c d e m1 = some (r, m2) ∧ ITape m2 := by
  obtain ⟨t, t1, t2, t3, t4⟩ := hT
  by_cases h : t + 20 ≤ 400
  · obtain ⟨m1, e1, a1, a2, a3⟩ := Tfeed_eq a b c d e t m t2 h
    have f1 := fr_T_feed _ _ _ _ _ _ _ _ e1
    obtain ⟨m2, e2, b1, b2, b3, b4⟩ := Mfeed_eq a b c d e t m1 (by rw [f1.gI (by decide) (by decide)]; exact t3) h
    have f2 := fr_M_feed _ _ _ _ _ _ _ _ e2
    refine ⟨_, m1, m2, e1, e2, t + 20, h, by rw [f2.gI (by decide) (by decide)]; exact a1, b1, fun k hk => ?_⟩
    rw [f2.gI (o := 1) (by decide) (by simp)]
    by_cases hkt : k < t
    · rw [b3 k hkt, a3 k hkt, f1.gI (o := 83) (by decide) (by simp)]
      exact t4 k hkt
    · obtain ⟨j, rfl⟩ : ∃ j, k = t + j := ⟨k - t, by omega⟩
      rw [b2 j (by omega), a2 j (by omega)]
      exact ⟨shr_rng _ _, rfl⟩
  · exact ⟨-1, m, sI m 78 0 0, feed_c2 a b c d e m t t2 h t1, feed_c1 a b c d e m t t3 h t1, feed_c3 m ⟨t, t1, t2, t3, t4⟩⟩
theorem end_ok (a : Int32) (m : Mem) (hT : ITape m) : ∃ r m1 m2, F_T_end a m = some (r, m1) ∧ F_M_end a m1 = some (r, m2) ∧ ITape m2 := by
  obtain ⟨t, t1, t2, t3, t4⟩ := hT
  obtain ⟨z, rfl, z1, z2⟩ := iI_ex a
  by_cases h : z < 0
  · refine ⟨false, m, sI m 78 0 0, ?_, ?_, t, t1, t2, t3, t4⟩
    · unfold F_T_end
      simp (disch := omega) only [lt_def, ckB_true, bnd_e, if_pos, if_neg, if_true, if_false, Int.toNat_natCast, lt0, lt1, lt2, lt3, lt4, lt5, lt6, lt7, lt8, lt9, lt10, lt11, lt12, lt13, lt14, lt15, lt16, lt17, lt18, lt19, lt20, lt21, lt22, lt23, lt24, lt25, lt26, lt27, lt28, lt29, lt30, lt31, lt32, lt40, lt41, lt43, lt48, lt55, lt57, lt59, lt60, lt62, lt63, lt64, lt70, lt72, lt81, lt97, lt99, lt100, lt122, lt162, lt180, lt235, lt255, lt298, lt299, lt325, lt335, lt400, lt837, lt999, lt1000, lt1001, lt1002, lt1003, lt1004, lt1005, lt1006, lt1007, lt1008, lt1100, lt1101, lt1102, lt1103, lt1104, lt1105, lt1135, lt1136, lt1172, lt2000, lt3278, lt3575, lt10000, lt12345, lt21450, lt32767, lt193050, lt1103515245, ltm162, ltm99, ltm81, ltm8, ltm1, iI_add, iI_sub, iI_mul, iI_neg, iI_divn, iI_lt, iI_le, iI_eq, iI_idx, iI_inb, gI_sI, gL_sL, gZ_sZ, gI_sL, gI_sZ, gL_sI, gL_sZ, gZ_sI, gZ_sL, t2]
    · unfold F_M_end
      simp (disch := omega) only [lt_def, ckB_true, bnd_e, if_pos, if_neg, if_true, if_false, Int.toNat_natCast, lt0, lt1, lt2, lt3, lt4, lt5, lt6, lt7, lt8, lt9, lt10, lt11, lt12, lt13, lt14, lt15, lt16, lt17, lt18, lt19, lt20, lt21, lt22, lt23, lt24, lt25, lt26, lt27, lt28, lt29, lt30, lt31, lt32, lt40, lt41, lt43, lt48, lt55, lt57, lt59, lt60, lt62, lt63, lt64, lt70, lt72, lt81, lt97, lt99, lt100, lt122, lt162, lt180, lt235, lt255, lt298, lt299, lt325, lt335, lt400, lt837, lt999, lt1000, lt1001, lt1002, lt1003, lt1004, lt1005, lt1006, lt1007, lt1008, lt1100, lt1101, lt1102, lt1103, lt1104, lt1105, lt1135, lt1136, lt1172, lt2000, lt3278, lt3575, lt10000, lt12345, lt21450, lt32767, lt193050, lt1103515245, ltm162, ltm99, ltm81, ltm8, ltm1, iI_add, iI_sub, iI_mul, iI_neg, iI_divn, iI_lt, iI_le, iI_eq, iI_idx, iI_inb, gI_sI, gL_sL, gZ_sZ, gI_sL, gI_sZ, gL_sI, gL_sZ, gZ_sI, gZ_sL, t3]
  by_cases h2 : z ≤ t
  · refine ⟨true, sI m 0 1 (iI z), sI (sI (sI m 0 1 (iI z)) 78 0 0) 78 8 (iI z), ?_, ?_, z.toNat, by omega, ?_, ?_, ?_⟩
    · unfold F_T_end
      simp (disch := omega) only [lt_def, ckB_true, bnd_e, if_pos, if_neg, if_true, if_false, Int.toNat_natCast, lt0, lt1, lt2, lt3, lt4, lt5, lt6, lt7, lt8, lt9, lt10, lt11, lt12, lt13, lt14, lt15, lt16, lt17, lt18, lt19, lt20, lt21, lt22, lt23, lt24, lt25, lt26, lt27, lt28, lt29, lt30, lt31, lt32, lt40, lt41, lt43, lt48, lt55, lt57, lt59, lt60, lt62, lt63, lt64, lt70, lt72, lt81, lt97, lt99, lt100, lt122, lt162, lt180, lt235, lt255, lt298, lt299, lt325, lt335, lt400, lt837, lt999, lt1000, lt1001, lt1002, lt1003, lt1004, lt1005, lt1006, lt1007, lt1008, lt1100, lt1101, lt1102, lt1103, lt1104, lt1105, lt1135, lt1136, lt1172, lt2000, lt3278, lt3575, lt10000, lt12345, lt21450, lt32767, lt193050, lt1103515245, ltm162, ltm99, ltm81, ltm8, ltm1, iI_add, iI_sub, iI_mul, iI_neg, iI_divn, iI_lt, iI_le, iI_eq, iI_idx, iI_inb, gI_sI, gL_sL, gZ_sZ, gI_sL, gI_sZ, gL_sI, gL_sZ, gZ_sI, gZ_sL, t2]
    · unfold F_M_end
      simp (disch := omega) only [lt_def, ckB_true, bnd_e, if_pos, if_neg, if_true, if_false, Int.toNat_natCast, lt0, lt1, lt2, lt3, lt4, lt5, lt6, lt7, lt8, lt9, lt10, lt11, lt12, lt13, lt14, lt15, lt16, lt17, lt18, lt19, lt20, lt21, lt22, lt23, lt24, lt25, lt26, lt27, lt28, lt29, lt30, lt31, lt32, lt40, lt41, lt43, lt48, lt55, lt57, lt59, lt60, lt62, lt63, lt64, lt70, lt72, lt81, lt97, lt99, lt100, lt122, lt162, lt180, lt235, lt255, lt298, lt299, lt325, lt335, lt400, lt837, lt999, lt1000, lt1001, lt1002, lt1003, lt1004, lt1005, lt1006, lt1007, lt1008, lt1100, lt1101, lt1102, lt1103, lt1104, lt1105, lt1135, lt1136, lt1172, lt2000, lt3278, lt3575, lt10000, lt12345, lt21450, lt32767, lt193050, lt1103515245, ltm162, ltm99, ltm81, ltm8, ltm1, iI_add, iI_sub, iI_mul, iI_neg, iI_divn, iI_lt, iI_le, iI_eq, iI_idx, iI_inb, gI_sI, gL_sL, gZ_sZ, gI_sL, gI_sZ, gL_sI, gL_sZ, gZ_sI, gZ_sL, t3]
    · rw [Int.toNat_of_nonneg (by omega)]; rfl
    · rw [Int.toNat_of_nonneg (by omega)]; rfl
    · intro k hk
      exact t4 k (by omega)
  · refine ⟨false, m, sI m 78 0 0, ?_, ?_, t, t1, t2, t3, t4⟩
    · unfold F_T_end
      simp (disch := omega) only [lt_def, ckB_true, bnd_e, if_pos, if_neg, if_true, if_false, Int.toNat_natCast, lt0, lt1, lt2, lt3, lt4, lt5, lt6, lt7, lt8, lt9, lt10, lt11, lt12, lt13, lt14, lt15, lt16, lt17, lt18, lt19, lt20, lt21, lt22, lt23, lt24, lt25, lt26, lt27, lt28, lt29, lt30, lt31, lt32, lt40, lt41, lt43, lt48, lt55, lt57, lt59, lt60, lt62, lt63, lt64, lt70, lt72, lt81, lt97, lt99, lt100, lt122, lt162, lt180, lt235, lt255, lt298, lt299, lt325, lt335, lt400, lt837, lt999, lt1000, lt1001, lt1002, lt1003, lt1004, lt1005, lt1006, lt1007, lt1008, lt1100, lt1101, lt1102, lt1103, lt1104, lt1105, lt1135, lt1136, lt1172, lt2000, lt3278, lt3575, lt10000, lt12345, lt21450, lt32767, lt193050, lt1103515245, ltm162, ltm99, ltm81, ltm8, ltm1, iI_add, iI_sub, iI_mul, iI_neg, iI_divn, iI_lt, iI_le, iI_eq, iI_idx, iI_inb, gI_sI, gL_sL, gZ_sZ, gI_sL, gI_sZ, gL_sI, gL_sZ, gZ_sI, gZ_sL, t2]
    · unfold F_M_end
      simp (disch := omega) only [lt_def, ckB_true, bnd_e, if_pos, if_neg, if_true, if_false, Int.toNat_natCast, lt0, lt1, lt2, lt3, lt4, lt5, lt6, lt7, lt8, lt9, lt10, lt11, lt12, lt13, lt14, lt15, lt16, lt17, lt18, lt19, lt20, lt21, lt22, lt23, lt24, lt25, lt26, lt27, lt28, lt29, lt30, lt31, lt32, lt40, lt41, lt43, lt48, lt55, lt57, lt59, lt60, lt62, lt63, lt64, lt70, lt72, lt81, lt97, lt99, lt100, lt122, lt162, lt180, lt235, lt255, lt298, lt299, lt325, lt335, lt400, lt837, lt999, lt1000, lt1001, lt1002, lt1003, lt1004, lt1005, lt1006, lt1007, lt1008, lt1100, lt1101, lt1102, lt1103, lt1104, lt1105, lt1135, lt1136, lt1172, lt2000, lt3278, lt3575, lt10000, lt12345, lt21450, lt32767, lt193050, lt1103515245, ltm162, ltm99, ltm81, ltm8, ltm1, iI_add, iI_sub, iI_mul, iI_neg, iI_divn, iI_lt, iI_le, iI_eq, iI_idx, iI_inb, gI_sI, gL_sL, gZ_sZ, gI_sL, gI_sZ, gL_sI, gL_sZ, gZ_sI, gZ_sL, t3]
end TAPE
