section LAWM
/-- the reference's two numbers for a code -/
def ms1 (c : Int) : Int := if c < 1000 then 8 else if c < 1008 then c - 1000 else if c = 1100 then 12 else if c = 1101 then 13 else if c = 1102 then 14 else if c = 1103 then 10 else if c = 1104 then 11 else 9
def ms2 (c : Int) : Int := if c < 1000 then c else 0
def MRow (m : Mem) (o off i : Nat) : List Int → Prop
  | [] => True
  | c :: cs => gI m o (off + 2 * i) = iI (ms1 c) ∧ gI m o (off + 2 * i + 1) = iI (ms2 c) ∧ MRow m o off (i + 1) cs
theorem MRow_congr {m m' : Mem} {o off o' off' : Nat} : ∀ {cs : List Int} {i : Nat}, (∀ j, gI m' o' (off' + j) = gI m o (off + j)) → MRow m o off i cs → MRow m' o' off' i cs
  | [], _, _, _ => trivial
  | _ :: _, i, h, hs => ⟨(h _).trans hs.1, by rw [Nat.add_assoc, h]; exact hs.2.1, MRow_congr h hs.2.2⟩
theorem MRow_app {m : Mem} {o off : Nat} : ∀ {a b : List Int} {i : Nat}, MRow m o off i (a ++ b) ↔ MRow m o off i a ∧ MRow m o off (i + a.length) b
  | [], b, i => by simp [MRow]
  | c :: a, b, i => by
    simp only [List.cons_append, MRow, MRow_app (a := a), List.length_cons, and_assoc]
    rw [show i + 1 + a.length = i + (a.length + 1) by omega]
/-- what a place of the law is, out of a world -/
def fcW (w : Nat → Int32) (s i b : Int) (c : Int) : Int32 := if c = 1000 then iI s else if c = 1001 then iI (s / 3) else if c = 1002 then iI i else if c = 1003 then iI b else if c = 1004 then w (19 + 2 * b).toNat else if c = 1005 then w (20 + 2 * (1 - b)).toNat else if c = 1006 then (w 6 >>> (iI s &&& 31)) &&& 1 else (w 7 >>> (iI s &&& 31)) &&& 1
theorem factOf_eq {c s i b : Int} {n : Int32} {m : Mem} (h0 : 0 ≤ c) (h : c < 8) (s0 : 0 ≤ s) (s9 : s < 9) (b0 : 0 ≤ b) (b1 : b < 2) : F_M_factOf (iI c) n (iI s) (iI i) (iI b) m = some (fcW (gI m 79) s i b (1000 + c), m) := by
  unfold F_M_factOf fcW
  rcases (show c = 0 ∨ c = 1 ∨ c = 2 ∨ c = 3 ∨ c = 4 ∨ c = 5 ∨ c = 6 ∨ c = 7 by omega) with rfl | rfl | rfl | rfl | rfl | rfl | rfl | rfl
  all_goals simp (disch := omega) only [lt_def, ckB_true, bnd_e, if_pos, if_neg, if_true, if_false, Int.toNat_natCast, lt0, lt1, lt2, lt3, lt4, lt5, lt6, lt7, lt8, lt9, lt10, lt11, lt12, lt13, lt14, lt15, lt16, lt17, lt18, lt19, lt20, lt21, lt22, lt23, lt24, lt25, lt26, lt27, lt28, lt29, lt30, lt31, lt32, lt40, lt41, lt43, lt48, lt55, lt57, lt59, lt60, lt62, lt63, lt64, lt70, lt72, lt81, lt97, lt99, lt100, lt122, lt162, lt180, lt235, lt255, lt298, lt299, lt325, lt335, lt400, lt837, lt999, lt1000, lt1001, lt1002, lt1003, lt1004, lt1005, lt1006, lt1007, lt1008, lt1100, lt1101, lt1102, lt1103, lt1104, lt1105, lt1135, lt1136, lt1172, lt2000, lt3278, lt3575, lt10000, lt12345, lt21450, lt32767, lt193050, lt1103515245, ltm162, ltm99, ltm81, ltm8, ltm1, iI_add, iI_sub, iI_mul, iI_neg, iI_divn, iI_lt, iI_le, iI_eq, iI_idx, iI_inb, gI_sI, gL_sL, gZ_sZ, gI_sL, gI_sZ, gL_sI, gL_sZ, gZ_sI, gZ_sL]
  all_goals simp
  · rw [show (19 + 2 * (1 - b) + 1) = 20 + 2 * (1 - b) by omega]
theorem stS_n {fact : Int → Int32} {c : Int} {st : List Int32} (h : c < 1000) : stS fact c st = iI c :: st := by simp only [stS, if_pos h, if_pos (show c < 1008 by omega)]
theorem stS_p {fact : Int → Int32} {c : Int} {st : List Int32} (h : 1000 ≤ c) (h2 : c < 1008) : stS fact c st = fact c :: st := by simp only [stS, if_pos h2, if_neg (show ¬ c < 1000 by omega)]
theorem stS_not {fact : Int → Int32} {a : Int32} {r : List Int32} : stS fact 1100 (a :: r) = (1 - a) :: r := rfl
theorem stS_bin {fact : Int → Int32} {c : Int} {a b : Int32} {r : List Int32} (h : 1101 ≤ c) : stS fact c (a :: b :: r) = opS c b a :: r := by simp only [stS, if_neg (show ¬ c < 1008 by omega), if_neg (show ¬ c = 1100 by omega)]
theorem factOf_8 {s i b : Int} {n : Int32} {m : Mem} : F_M_factOf (iI 8) n (iI s) (iI i) (iI b) m = some (n, m) := by
  unfold F_M_factOf
  simp (disch := omega) only [↓lt_def, ↓reduceIte, ckB_true, bnd_e, Int.reduceAdd, Int.reduceSub, Int.reduceMul, Int.reduceNeg, Int.reduceToNat, Bool.false_eq_true, eq_self, not_false_eq_true, not_true_eq_false, Int.toNat_natCast, lt0, lt1, lt2, lt3, lt4, lt5, lt6, lt7, lt8, lt9, lt10, lt11, lt12, lt13, lt14, lt15, lt16, lt17, lt18, lt19, lt20, lt21, lt22, lt23, lt24, lt25, lt26, lt27, lt28, lt29, lt30, lt31, lt32, lt40, lt41, lt43, lt48, lt55, lt57, lt59, lt60, lt62, lt63, lt64, lt70, lt72, lt81, lt97, lt99, lt100, lt122, lt162, lt180, lt235, lt255, lt298, lt299, lt325, lt335, lt400, lt837, lt999, lt1000, lt1001, lt1002, lt1003, lt1004, lt1005, lt1006, lt1007, lt1008, lt1100, lt1101, lt1102, lt1103, lt1104, lt1105, lt1135, lt1136, lt1172, lt2000, lt3278, lt3575, lt10000, lt12345, lt21450, lt32767, lt193050, lt1103515245, ltm162, ltm99, ltm81, ltm8, ltm1, iI_add, iI_sub, iI_mul, iI_neg, iI_divn, iI_lt_t, iI_lt_f, iI_le_t, iI_le_f, iI_eq_t, iI_eq_f, iI_lt, iI_le, iI_eq, iI_idx, iI_inb, gI_sI, gL_sL, gZ_sZ, gI_sL, gI_sZ, gL_sI, gL_sZ, gZ_sI, gZ_sL]
theorem mo_num (s i b : Int) (k : Nat) (x1 : Int) (kk : Int32 → Mem → Option (Bool × Mem)) (m : Mem) (nf : Nat) (e : Nat) (hx : 0 ≤ x1) (hx2 : x1 < 1900) (he : gI m 79 (x1 + 2).toNat = iI e) (h4 : e ≤ 400) (hi : k < e) (d : Nat) (hd : d < 60) (c : Int) (hc1 : gI m 79 (335 + 2 * k) = iI 8) (hc2 : gI m 79 (335 + 2 * k + 1) = iI c) :
    F_M_holdsLine_L23 (iI s) (iI i) (iI b) (iI x1) kk (nf + 1) (iI d) (iI k) m = F_M_holdsLine_L23 (iI s) (iI i) (iI b) (iI x1) kk nf (iI (d + 1 : Nat)) (iI ((k : Int) + 1)) (sI m 85 d (iI c)) := by
  have e1 : (335 + 2 * (k : Int)).toNat = 335 + 2 * k := by omega
  have e2 : (335 + 2 * (k : Int) + 1).toNat = 335 + 2 * k + 1 := by omega
  rw [F_M_holdsLine_L23]
  simp (disch := omega) only [↓lt_def, ↓reduceIte, ckB_true, bnd_e, Int.reduceAdd, Int.reduceSub, Int.reduceMul, Int.reduceNeg, Int.reduceToNat, Bool.false_eq_true, eq_self, not_false_eq_true, not_true_eq_false, Int.toNat_natCast, lt0, lt1, lt2, lt3, lt4, lt5, lt6, lt7, lt8, lt9, lt10, lt11, lt12, lt13, lt14, lt15, lt16, lt17, lt18, lt19, lt20, lt21, lt22, lt23, lt24, lt25, lt26, lt27, lt28, lt29, lt30, lt31, lt32, lt40, lt41, lt43, lt48, lt55, lt57, lt59, lt60, lt62, lt63, lt64, lt70, lt72, lt81, lt97, lt99, lt100, lt122, lt162, lt180, lt235, lt255, lt298, lt299, lt325, lt335, lt400, lt837, lt999, lt1000, lt1001, lt1002, lt1003, lt1004, lt1005, lt1006, lt1007, lt1008, lt1100, lt1101, lt1102, lt1103, lt1104, lt1105, lt1135, lt1136, lt1172, lt2000, lt3278, lt3575, lt10000, lt12345, lt21450, lt32767, lt193050, lt1103515245, ltm162, ltm99, ltm81, ltm8, ltm1, iI_add, iI_sub, iI_mul, iI_neg, iI_divn, iI_lt_t, iI_lt_f, iI_le_t, iI_le_f, iI_eq_t, iI_eq_f, iI_lt, iI_le, iI_eq, iI_idx, iI_inb, gI_sI, gL_sL, gZ_sZ, gI_sL, gI_sZ, gL_sI, gL_sZ, gZ_sI, gZ_sL, he, e1, hc1, e2, hc2, factOf_8]
  rfl
theorem mo_fact (s i b : Int) (k : Nat) (x1 : Int) (kk : Int32 → Mem → Option (Bool × Mem)) (m : Mem) (nf : Nat) (e : Nat) (hx : 0 ≤ x1) (hx2 : x1 < 1900) (he : gI m 79 (x1 + 2).toNat = iI e) (h4 : e ≤ 400) (hi : k < e) (d : Nat) (hd : d < 60) (q : Int) (q0 : 0 ≤ q) (q8 : q < 8) (s0 : 0 ≤ s) (s9 : s < 9) (b0 : 0 ≤ b) (b1 : b < 2) (hc1 : gI m 79 (335 + 2 * k) = iI q) :
    F_M_holdsLine_L23 (iI s) (iI i) (iI b) (iI x1) kk (nf + 1) (iI d) (iI k) m = F_M_holdsLine_L23 (iI s) (iI i) (iI b) (iI x1) kk nf (iI (d + 1 : Nat)) (iI ((k : Int) + 1)) (sI m 85 d (fcW (gI m 79) s i b (1000 + q))) := by
  have e1 : (335 + 2 * (k : Int)).toNat = 335 + 2 * k := by omega
  have e2 : (335 + 2 * (k : Int) + 1).toNat = 335 + 2 * k + 1 := by omega
  rw [F_M_holdsLine_L23]
  simp (disch := omega) only [↓lt_def, ↓reduceIte, ckB_true, bnd_e, Int.reduceAdd, Int.reduceSub, Int.reduceMul, Int.reduceNeg, Int.reduceToNat, Bool.false_eq_true, eq_self, not_false_eq_true, not_true_eq_false, Int.toNat_natCast, lt0, lt1, lt2, lt3, lt4, lt5, lt6, lt7, lt8, lt9, lt10, lt11, lt12, lt13, lt14, lt15, lt16, lt17, lt18, lt19, lt20, lt21, lt22, lt23, lt24, lt25, lt26, lt27, lt28, lt29, lt30, lt31, lt32, lt40, lt41, lt43, lt48, lt55, lt57, lt59, lt60, lt62, lt63, lt64, lt70, lt72, lt81, lt97, lt99, lt100, lt122, lt162, lt180, lt235, lt255, lt298, lt299, lt325, lt335, lt400, lt837, lt999, lt1000, lt1001, lt1002, lt1003, lt1004, lt1005, lt1006, lt1007, lt1008, lt1100, lt1101, lt1102, lt1103, lt1104, lt1105, lt1135, lt1136, lt1172, lt2000, lt3278, lt3575, lt10000, lt12345, lt21450, lt32767, lt193050, lt1103515245, ltm162, ltm99, ltm81, ltm8, ltm1, iI_add, iI_sub, iI_mul, iI_neg, iI_divn, iI_lt_t, iI_lt_f, iI_le_t, iI_le_f, iI_eq_t, iI_eq_f, iI_lt, iI_le, iI_eq, iI_idx, iI_inb, gI_sI, gL_sL, gZ_sZ, gI_sL, gI_sZ, gL_sI, gL_sZ, gZ_sI, gZ_sL, he, e1, hc1, e2, factOf_eq]
  rfl
theorem mo_not (s i b : Int) (k : Nat) (x1 : Int) (kk : Int32 → Mem → Option (Bool × Mem)) (m : Mem) (nf : Nat) (e : Nat) (hx : 0 ≤ x1) (hx2 : x1 < 1900) (he : gI m 79 (x1 + 2).toNat = iI e) (h4 : e ≤ 400) (hi : k < e) (d : Nat) (hd : d < 60) (hc1 : gI m 79 (335 + 2 * k) = iI 12) :
    F_M_holdsLine_L23 (iI s) (iI i) (iI b) (iI x1) kk (nf + 1) (iI (d + 1 : Nat)) (iI k) m = F_M_holdsLine_L23 (iI s) (iI i) (iI b) (iI x1) kk nf (iI (d + 1 : Nat)) (iI ((k : Int) + 1)) (sI m 85 d (1 - gI m 85 d)) := by
  have e1 : (335 + 2 * (k : Int)).toNat = 335 + 2 * k := by omega
  have e2 : (335 + 2 * (k : Int) + 1).toNat = 335 + 2 * k + 1 := by omega
  rw [F_M_holdsLine_L23]
  have q1 : (((d + 1 : Nat) : Int) - 1).toNat = d := by omega
  simp (disch := omega) only [↓lt_def, ↓reduceIte, ckB_true, bnd_e, Int.reduceAdd, Int.reduceSub, Int.reduceMul, Int.reduceNeg, Int.reduceToNat, Bool.false_eq_true, eq_self, not_false_eq_true, not_true_eq_false, Int.toNat_natCast, lt0, lt1, lt2, lt3, lt4, lt5, lt6, lt7, lt8, lt9, lt10, lt11, lt12, lt13, lt14, lt15, lt16, lt17, lt18, lt19, lt20, lt21, lt22, lt23, lt24, lt25, lt26, lt27, lt28, lt29, lt30, lt31, lt32, lt40, lt41, lt43, lt48, lt55, lt57, lt59, lt60, lt62, lt63, lt64, lt70, lt72, lt81, lt97, lt99, lt100, lt122, lt162, lt180, lt235, lt255, lt298, lt299, lt325, lt335, lt400, lt837, lt999, lt1000, lt1001, lt1002, lt1003, lt1004, lt1005, lt1006, lt1007, lt1008, lt1100, lt1101, lt1102, lt1103, lt1104, lt1105, lt1135, lt1136, lt1172, lt2000, lt3278, lt3575, lt10000, lt12345, lt21450, lt32767, lt193050, lt1103515245, ltm162, ltm99, ltm81, ltm8, ltm1, iI_add, iI_sub, iI_mul, iI_neg, iI_divn, iI_lt_t, iI_lt_f, iI_le_t, iI_le_f, iI_eq_t, iI_eq_f, iI_lt, iI_le, iI_eq, iI_idx, iI_inb, gI_sI, gL_sL, gZ_sZ, gI_sL, gI_sZ, gL_sI, gL_sZ, gZ_sI, gZ_sL, he, e1, hc1, q1]
end LAWM
