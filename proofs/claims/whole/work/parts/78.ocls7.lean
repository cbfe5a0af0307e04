section OCLS7
theorem placeOf_eq {p k o l : Int} {m : Mem} (p0 : 0 ≤ p) (p8 : p ≤ 8) (k0 : 0 ≤ k) (k5 : k ≤ 5) (o0 : 0 ≤ o) (o1 : o ≤ 10) (l0 : -1000 ≤ l) (l1 : l ≤ 1000) : F_Od_placeOf (iI p) (iI k) (iI o) (iI l) m = some (if -162 ≤ l ∧ l ≤ 162 then iI (ix p k o l) else iI (-1), m) := by
  unfold F_Od_placeOf
  rw [if_neg (by simp (disch := omega) only [↓lt_def, ↓reduceIte, ckB_true, bnd_e, Int.reduceAdd, Int.reduceSub, Int.reduceMul, Int.reduceNeg, Int.reduceToNat, Bool.false_eq_true, eq_self, not_false_eq_true, not_true_eq_false, Int.toNat_natCast, lt0, lt1, lt2, lt3, lt4, lt5, lt6, lt7, lt8, lt9, lt10, lt11, lt12, lt13, lt14, lt15, lt16, lt17, lt18, lt19, lt20, lt21, lt22, lt23, lt24, lt25, lt26, lt27, lt28, lt29, lt30, lt31, lt32, lt40, lt41, lt43, lt48, lt55, lt57, lt59, lt60, lt62, lt63, lt64, lt70, lt72, lt81, lt97, lt99, lt100, lt122, lt162, lt180, lt235, lt255, lt298, lt299, lt325, lt335, lt400, lt837, lt999, lt1000, lt1001, lt1002, lt1003, lt1004, lt1005, lt1006, lt1007, lt1008, lt1100, lt1101, lt1102, lt1103, lt1104, lt1105, lt1135, lt1136, lt1172, lt2000, lt3278, lt3575, lt10000, lt12345, lt21450, lt32767, lt193050, lt1103515245, ltm162, ltm99, ltm81, ltm8, ltm1, iI_add, iI_sub, iI_mul, iI_neg, iI_divn, iI_lt_t, iI_lt_f, iI_le_t, iI_le_f, iI_eq_t, iI_eq_f, iI_lt, iI_le, iI_eq, iI_idx, iI_inb, gI_sI, gL_sL, gZ_sZ, gI_sL, gI_sZ, gL_sI, gL_sZ, gZ_sI, gZ_sL]), if_neg (by simp (disch := omega) only [↓lt_def, ↓reduceIte, ckB_true, bnd_e, Int.reduceAdd, Int.reduceSub, Int.reduceMul, Int.reduceNeg, Int.reduceToNat, Bool.false_eq_true, eq_self, not_false_eq_true, not_true_eq_false, Int.toNat_natCast, lt0, lt1, lt2, lt3, lt4, lt5, lt6, lt7, lt8, lt9, lt10, lt11, lt12, lt13, lt14, lt15, lt16, lt17, lt18, lt19, lt20, lt21, lt22, lt23, lt24, lt25, lt26, lt27, lt28, lt29, lt30, lt31, lt32, lt40, lt41, lt43, lt48, lt55, lt57, lt59, lt60, lt62, lt63, lt64, lt70, lt72, lt81, lt97, lt99, lt100, lt122, lt162, lt180, lt235, lt255, lt298, lt299, lt325, lt335, lt400, lt837, lt999, lt1000, lt1001, lt1002, lt1003, lt1004, lt1005, lt1006, lt1007, lt1008, lt1100, lt1101, lt1102, lt1103, lt1104, lt1105, lt1135, lt1136, lt1172, lt2000, lt3278, lt3575, lt10000, lt12345, lt21450, lt32767, lt193050, lt1103515245, ltm162, ltm99, ltm81, ltm8, ltm1, iI_add, iI_sub, iI_mul, iI_neg, iI_divn, iI_lt_t, iI_lt_f, iI_le_t, iI_le_f, iI_eq_t, iI_eq_f, iI_lt, iI_le, iI_eq, iI_idx, iI_inb, gI_sI, gL_sL, gZ_sZ, gI_sL, gI_sZ, gL_sI, gL_sZ, gZ_sI, gZ_sL]), if_neg (by simp (disch := omega) only [↓lt_def, ↓reduceIte, ckB_true, bnd_e, Int.reduceAdd, Int.reduceSub, Int.reduceMul, Int.reduceNeg, Int.reduceToNat, Bool.false_eq_true, eq_self, not_false_eq_true, not_true_eq_false, Int.toNat_natCast, lt0, lt1, lt2, lt3, lt4, lt5, lt6, lt7, lt8, lt9, lt10, lt11, lt12, lt13, lt14, lt15, lt16, lt17, lt18, lt19, lt20, lt21, lt22, lt23, lt24, lt25, lt26, lt27, lt28, lt29, lt30, lt31, lt32, lt40, lt41, lt43, lt48, lt55, lt57, lt59, lt60, lt62, lt63, lt64, lt70, lt72, lt81, lt97, lt99, lt100, lt122, lt162, lt180, lt235, lt255, lt298, lt299, lt325, lt335, lt400, lt837, lt999, lt1000, lt1001, lt1002, lt1003, lt1004, lt1005, lt1006, lt1007, lt1008, lt1100, lt1101, lt1102, lt1103, lt1104, lt1105, lt1135, lt1136, lt1172, lt2000, lt3278, lt3575, lt10000, lt12345, lt21450, lt32767, lt193050, lt1103515245, ltm162, ltm99, ltm81, ltm8, ltm1, iI_add, iI_sub, iI_mul, iI_neg, iI_divn, iI_lt_t, iI_lt_f, iI_le_t, iI_le_f, iI_eq_t, iI_eq_f, iI_lt, iI_le, iI_eq, iI_idx, iI_inb, gI_sI, gL_sL, gZ_sZ, gI_sL, gI_sZ, gL_sI, gL_sZ, gZ_sI, gZ_sL]), if_neg (by simp (disch := omega) only [↓lt_def, ↓reduceIte, ckB_true, bnd_e, Int.reduceAdd, Int.reduceSub, Int.reduceMul, Int.reduceNeg, Int.reduceToNat, Bool.false_eq_true, eq_self, not_false_eq_true, not_true_eq_false, Int.toNat_natCast, lt0, lt1, lt2, lt3, lt4, lt5, lt6, lt7, lt8, lt9, lt10, lt11, lt12, lt13, lt14, lt15, lt16, lt17, lt18, lt19, lt20, lt21, lt22, lt23, lt24, lt25, lt26, lt27, lt28, lt29, lt30, lt31, lt32, lt40, lt41, lt43, lt48, lt55, lt57, lt59, lt60, lt62, lt63, lt64, lt70, lt72, lt81, lt97, lt99, lt100, lt122, lt162, lt180, lt235, lt255, lt298, lt299, lt325, lt335, lt400, lt837, lt999, lt1000, lt1001, lt1002, lt1003, lt1004, lt1005, lt1006, lt1007, lt1008, lt1100, lt1101, lt1102, lt1103, lt1104, lt1105, lt1135, lt1136, lt1172, lt2000, lt3278, lt3575, lt10000, lt12345, lt21450, lt32767, lt193050, lt1103515245, ltm162, ltm99, ltm81, ltm8, ltm1, iI_add, iI_sub, iI_mul, iI_neg, iI_divn, iI_lt_t, iI_lt_f, iI_le_t, iI_le_f, iI_eq_t, iI_eq_f, iI_lt, iI_le, iI_eq, iI_idx, iI_inb, gI_sI, gL_sL, gZ_sZ, gI_sL, gI_sZ, gL_sI, gL_sZ, gZ_sI, gZ_sL]), if_neg (by simp (disch := omega) only [↓lt_def, ↓reduceIte, ckB_true, bnd_e, Int.reduceAdd, Int.reduceSub, Int.reduceMul, Int.reduceNeg, Int.reduceToNat, Bool.false_eq_true, eq_self, not_false_eq_true, not_true_eq_false, Int.toNat_natCast, lt0, lt1, lt2, lt3, lt4, lt5, lt6, lt7, lt8, lt9, lt10, lt11, lt12, lt13, lt14, lt15, lt16, lt17, lt18, lt19, lt20, lt21, lt22, lt23, lt24, lt25, lt26, lt27, lt28, lt29, lt30, lt31, lt32, lt40, lt41, lt43, lt48, lt55, lt57, lt59, lt60, lt62, lt63, lt64, lt70, lt72, lt81, lt97, lt99, lt100, lt122, lt162, lt180, lt235, lt255, lt298, lt299, lt325, lt335, lt400, lt837, lt999, lt1000, lt1001, lt1002, lt1003, lt1004, lt1005, lt1006, lt1007, lt1008, lt1100, lt1101, lt1102, lt1103, lt1104, lt1105, lt1135, lt1136, lt1172, lt2000, lt3278, lt3575, lt10000, lt12345, lt21450, lt32767, lt193050, lt1103515245, ltm162, ltm99, ltm81, ltm8, ltm1, iI_add, iI_sub, iI_mul, iI_neg, iI_divn, iI_lt_t, iI_lt_f, iI_le_t, iI_le_f, iI_eq_t, iI_eq_f, iI_lt, iI_le, iI_eq, iI_idx, iI_inb, gI_sI, gL_sL, gZ_sZ, gI_sL, gI_sZ, gL_sI, gL_sZ, gZ_sI, gZ_sL])]
  by_cases h1 : -162 ≤ l
  · rw [if_neg (by simp (disch := omega) only [↓lt_def, ↓reduceIte, ckB_true, bnd_e, Int.reduceAdd, Int.reduceSub, Int.reduceMul, Int.reduceNeg, Int.reduceToNat, Bool.false_eq_true, eq_self, not_false_eq_true, not_true_eq_false, Int.toNat_natCast, lt0, lt1, lt2, lt3, lt4, lt5, lt6, lt7, lt8, lt9, lt10, lt11, lt12, lt13, lt14, lt15, lt16, lt17, lt18, lt19, lt20, lt21, lt22, lt23, lt24, lt25, lt26, lt27, lt28, lt29, lt30, lt31, lt32, lt40, lt41, lt43, lt48, lt55, lt57, lt59, lt60, lt62, lt63, lt64, lt70, lt72, lt81, lt97, lt99, lt100, lt122, lt162, lt180, lt235, lt255, lt298, lt299, lt325, lt335, lt400, lt837, lt999, lt1000, lt1001, lt1002, lt1003, lt1004, lt1005, lt1006, lt1007, lt1008, lt1100, lt1101, lt1102, lt1103, lt1104, lt1105, lt1135, lt1136, lt1172, lt2000, lt3278, lt3575, lt10000, lt12345, lt21450, lt32767, lt193050, lt1103515245, ltm162, ltm99, ltm81, ltm8, ltm1, iI_add, iI_sub, iI_mul, iI_neg, iI_divn, iI_lt_t, iI_lt_f, iI_le_t, iI_le_f, iI_eq_t, iI_eq_f, iI_lt, iI_le, iI_eq, iI_idx, iI_inb, gI_sI, gL_sL, gZ_sZ, gI_sL, gI_sZ, gL_sI, gL_sZ, gZ_sI, gZ_sL])]
    by_cases h2 : l ≤ 162
    · rw [if_pos (by simp (disch := omega) only [↓lt_def, ↓reduceIte, ckB_true, bnd_e, Int.reduceAdd, Int.reduceSub, Int.reduceMul, Int.reduceNeg, Int.reduceToNat, Bool.false_eq_true, eq_self, not_false_eq_true, not_true_eq_false, Int.toNat_natCast, lt0, lt1, lt2, lt3, lt4, lt5, lt6, lt7, lt8, lt9, lt10, lt11, lt12, lt13, lt14, lt15, lt16, lt17, lt18, lt19, lt20, lt21, lt22, lt23, lt24, lt25, lt26, lt27, lt28, lt29, lt30, lt31, lt32, lt40, lt41, lt43, lt48, lt55, lt57, lt59, lt60, lt62, lt63, lt64, lt70, lt72, lt81, lt97, lt99, lt100, lt122, lt162, lt180, lt235, lt255, lt298, lt299, lt325, lt335, lt400, lt837, lt999, lt1000, lt1001, lt1002, lt1003, lt1004, lt1005, lt1006, lt1007, lt1008, lt1100, lt1101, lt1102, lt1103, lt1104, lt1105, lt1135, lt1136, lt1172, lt2000, lt3278, lt3575, lt10000, lt12345, lt21450, lt32767, lt193050, lt1103515245, ltm162, ltm99, ltm81, ltm8, ltm1, iI_add, iI_sub, iI_mul, iI_neg, iI_divn, iI_lt_t, iI_lt_f, iI_le_t, iI_le_f, iI_eq_t, iI_eq_f, iI_lt, iI_le, iI_eq, iI_idx, iI_inb, gI_sI, gL_sL, gZ_sZ, gI_sL, gI_sZ, gL_sI, gL_sZ, gZ_sI, gZ_sL]), if_pos ⟨h1, h2⟩]
      have hx := ix_lt p0 p8 k0 k5 o0 o1 h1 h2
      have hz : (((p * 6 + k) * 11 + o) * 325 + l + 162 : Int) = (ix p k o l : Nat) := by unfold ix; omega
      simp (disch := omega) only [↓lt_def, ↓reduceIte, ckB_true, bnd_e, Int.reduceAdd, Int.reduceSub, Int.reduceMul, Int.reduceNeg, Int.reduceToNat, Bool.false_eq_true, eq_self, not_false_eq_true, not_true_eq_false, Int.toNat_natCast, lt0, lt1, lt2, lt3, lt4, lt5, lt6, lt7, lt8, lt9, lt10, lt11, lt12, lt13, lt14, lt15, lt16, lt17, lt18, lt19, lt20, lt21, lt22, lt23, lt24, lt25, lt26, lt27, lt28, lt29, lt30, lt31, lt32, lt40, lt41, lt43, lt48, lt55, lt57, lt59, lt60, lt62, lt63, lt64, lt70, lt72, lt81, lt97, lt99, lt100, lt122, lt162, lt180, lt235, lt255, lt298, lt299, lt325, lt335, lt400, lt837, lt999, lt1000, lt1001, lt1002, lt1003, lt1004, lt1005, lt1006, lt1007, lt1008, lt1100, lt1101, lt1102, lt1103, lt1104, lt1105, lt1135, lt1136, lt1172, lt2000, lt3278, lt3575, lt10000, lt12345, lt21450, lt32767, lt193050, lt1103515245, ltm162, ltm99, ltm81, ltm8, ltm1, iI_add, iI_sub, iI_mul, iI_neg, iI_divn, iI_lt_t, iI_lt_f, iI_le_t, iI_le_f, iI_eq_t, iI_eq_f, iI_lt, iI_le, iI_eq, iI_idx, iI_inb, gI_sI, gL_sL, gZ_sZ, gI_sL, gI_sZ, gL_sI, gL_sZ, gZ_sI, gZ_sL]
      rw [hz]
    · rw [if_neg (by simp (disch := omega) only [↓lt_def, ↓reduceIte, ckB_true, bnd_e, Int.reduceAdd, Int.reduceSub, Int.reduceMul, Int.reduceNeg, Int.reduceToNat, Bool.false_eq_true, eq_self, not_false_eq_true, not_true_eq_false, Int.toNat_natCast, lt0, lt1, lt2, lt3, lt4, lt5, lt6, lt7, lt8, lt9, lt10, lt11, lt12, lt13, lt14, lt15, lt16, lt17, lt18, lt19, lt20, lt21, lt22, lt23, lt24, lt25, lt26, lt27, lt28, lt29, lt30, lt31, lt32, lt40, lt41, lt43, lt48, lt55, lt57, lt59, lt60, lt62, lt63, lt64, lt70, lt72, lt81, lt97, lt99, lt100, lt122, lt162, lt180, lt235, lt255, lt298, lt299, lt325, lt335, lt400, lt837, lt999, lt1000, lt1001, lt1002, lt1003, lt1004, lt1005, lt1006, lt1007, lt1008, lt1100, lt1101, lt1102, lt1103, lt1104, lt1105, lt1135, lt1136, lt1172, lt2000, lt3278, lt3575, lt10000, lt12345, lt21450, lt32767, lt193050, lt1103515245, ltm162, ltm99, ltm81, ltm8, ltm1, iI_add, iI_sub, iI_mul, iI_neg, iI_divn, iI_lt_t, iI_lt_f, iI_le_t, iI_le_f, iI_eq_t, iI_eq_f, iI_lt, iI_le, iI_eq, iI_idx, iI_inb, gI_sI, gL_sL, gZ_sZ, gI_sL, gI_sZ, gL_sI, gL_sZ, gZ_sI, gZ_sL]), if_neg (fun q => h2 q.2)]
      rfl
  · rw [if_pos (by simp (disch := omega) only [↓lt_def, ↓reduceIte, ckB_true, bnd_e, Int.reduceAdd, Int.reduceSub, Int.reduceMul, Int.reduceNeg, Int.reduceToNat, Bool.false_eq_true, eq_self, not_false_eq_true, not_true_eq_false, Int.toNat_natCast, lt0, lt1, lt2, lt3, lt4, lt5, lt6, lt7, lt8, lt9, lt10, lt11, lt12, lt13, lt14, lt15, lt16, lt17, lt18, lt19, lt20, lt21, lt22, lt23, lt24, lt25, lt26, lt27, lt28, lt29, lt30, lt31, lt32, lt40, lt41, lt43, lt48, lt55, lt57, lt59, lt60, lt62, lt63, lt64, lt70, lt72, lt81, lt97, lt99, lt100, lt122, lt162, lt180, lt235, lt255, lt298, lt299, lt325, lt335, lt400, lt837, lt999, lt1000, lt1001, lt1002, lt1003, lt1004, lt1005, lt1006, lt1007, lt1008, lt1100, lt1101, lt1102, lt1103, lt1104, lt1105, lt1135, lt1136, lt1172, lt2000, lt3278, lt3575, lt10000, lt12345, lt21450, lt32767, lt193050, lt1103515245, ltm162, ltm99, ltm81, ltm8, ltm1, iI_add, iI_sub, iI_mul, iI_neg, iI_divn, iI_lt_t, iI_lt_f, iI_le_t, iI_le_f, iI_eq_t, iI_eq_f, iI_lt, iI_le, iI_eq, iI_idx, iI_inb, gI_sI, gL_sL, gZ_sZ, gI_sL, gI_sZ, gL_sI, gL_sZ, gZ_sI, gZ_sL]), if_neg (fun q => h1 q.1)]
    rfl
theorem kn_s (m : Mem) (i j : Nat) (e : Int64) : kn (sL m 15 i e) j = if j = i then e.toBitVec.toNat else kn m j := by
  unfold kn
  rw [gL_sL]
  by_cases h : j = i
  · rw [if_pos ⟨rfl, h⟩, if_pos h]
  · rw [if_neg (fun q => h q.2), if_neg h]
theorem at_od1 {law : Option (List (Int × List Int))} {P : OP} {mg tx bc f dw : Int} {mk : Int64} {bl : Bool} {wd : Int} {m0 m : Mem} (hB : OB law P mg tx bc f dw mk bl wd m0) (h : OI law P mk m0 m) {rc : Int32 → Int32 → Int32 → Int32 → Mem → Option (Int64 × Mem)} {p k o l L : Int} {r : Nat} (p0 : 0 ≤ p) (hr : P.n - p = (r : Int) + 1) (hL : L < 900) (l0 : -L ≤ l) (l1 : l ≤ L) (k0 : 0 ≤ k) (k5 : k ≤ 5) (o0 : 0 ≤ o) (o1 : o ≤ 10) (hrc : RC law P mk m0 rc (V P r) (p + 1) (L + 9))
    (hfr : o ≠ 10 → ∀ k l m, OI law P mk m0 m → 0 ≤ k → k ≤ 5 → -L ≤ l → l ≤ L → Ok (rc (iI p) (iI k) (iI 10) (iI l) m) (fun v m' => v = pk (fb k) (V P (r + 1) k 10 (sg k l)) ∧ OI law P mk m0 m')) : Ok (F_Od_waysAt_b rc (iI p) (iI k) (iI o) (iI l) m) (fun v m' => v = pk (fb k) (V P (r + 1) k o (sg k l)) ∧ OI law P mk m0 m') := by
  have hn9 := hB.gr.n9
  have hr1 : (P.n - (p + 1)).toNat = r := by omega
  have hV : ∀ k o l, V P (r + 1) k o l = atV P (four r) (V P r) p k o l := by
    intro k o l
    show atV P (four r) (V P r) (P.n - ((r : Int) + 1)) k o l = _
    rw [show P.n - ((r : Int) + 1) = p by omega]
  have hch : ∀ m, OI law P mk m0 m → Ok (F_Od_waysChosen rc (iI p) (iI k) (iI o) (iI l) m) (fun v m' => v = pk (fb k) (V P (r + 1) k o (sg k l)) ∧ OI law P mk m0 m') := by
    intro m hm
    have h1 := chosen_od (pv := V P r) hB hm p0 (by omega) hL l0 l1 k0 k5 o0 o1 hrc (by rw [hr1]; exact V_ok r) (by
      intro ho k l m hm a b c d
      refine ok_of (hfr ho k l m hm a b c d) (fun v m' hv => ⟨?_, hv.2⟩)
      rw [hv.1, hV, hr1]
      unfold atV
      rw [if_pos rfl])
    rw [hr1] at h1
    rw [hV]
    exact h1
  have hcn : gI m 3 0 = iI P.n := (h.1.I (by decide) (by decide) (by decide) (by decide)).trans hB.gr.cn
  have hmk : gL m 2 2 = mk := (h.1.L (by decide) (by decide) (by decide) (by decide)).trans hB.hm
  unfold F_Od_waysAt_b
  rw [hcn]
  refine ok_f ?_ (ok_t ?_ ?_)
  · rw [lt0, iI_lt (by omega) (by omega) (by omega) (by omega)]; omega
  · rw [iI_lt (by omega) (by omega) (by omega) (by omega)]; omega
  rw [bnd_some (placeOf_eq p0 (by omega) k0 k5 o0 o1 (by omega) (by omega))]
  refine ok_lt ?_
  by_cases hin : -162 ≤ l ∧ l ≤ 162
  · rw [if_pos hin]
    have hx := ix_lt p0 (by omega) k0 k5 o0 o1 hin.1 hin.2
    have hne : ¬ iI (ix p k o l : Nat) = (-1 : Int32) := by
      rw [ltm1, iI_eq (by omega) (by omega) (by omega) (by omega)]
      omega
    have hidx : (iI (ix p k o l : Nat)).toNatClampNeg = ix p k o l := by
      rw [iI_idx (by omega) (by omega)]
      exact Int.toNat_natCast _
    have hib : inb (iI (ix p k o l : Nat)) 193050 = true := iI_inb (by omega) (by omega) (by omega)
    refine ok_f hne (ok_ck hib (ok_lt (ok_lt ?_)))
    rw [hidx, hmk, L_shr40]
    have hknlt : kn m (ix p k o l) < 2 ^ 64 := (gL m 15 (ix p k o l)).toBitVec.isLt
    by_cases heq : iL ((gL m 15 (ix p k o l)).toBitVec.toNat / 1099511627776 : Nat) = mk
    · refine ok_t heq (ok_ck hib (ok_lt (ok_some ⟨?_, h⟩)))
      have h2 := h.2.2.1 p k o l p0 (by omega) k0 k5 o0 o1 hin.1 hin.2 (by
        rw [← heq, iL_N _ (by unfold kn at hknlt; omega)]
        rfl)
      rw [show (P.n - p).toNat = r + 1 by omega] at h2
      rw [h2]
      have h3 : gL m 15 (ix p k o l) = iL (kn m (ix p k o l) : Nat) := by
        apply Int64.toBitVec_inj.mp
        rw [iL_bv]
        unfold kn
        rw [BitVec.ofNat_toNat, BitVec.setWidth_eq]
      rw [h3, L_low40 _ hknlt]
    · refine ok_f heq (ok_bnd (ok_of (hch m h) (fun v m1 hv => ?_)))
      obtain ⟨rfl, h1⟩ := hv
      have hmk1 : gL m1 2 2 = mk := (h1.1.L (by decide) (by decide) (by decide) (by decide)).trans hB.hm
      obtain ⟨nn, e1, e2, -, -⟩ := pk_nat (fb k) (V P (r + 1) k o (sg k l)) _ (V_ok (r + 1) k o (sg k l)) (four_le (r + 1) (by omega))
      refine ok_f hne (ok_lt (ok_ck hib (ok_lt (ok_some ⟨rfl, ?_⟩))))
      rw [hmk1, e1]
      have hmix := L_mix nn e2 mk
      obtain ⟨q1, q2, q3, q4⟩ := h1
      refine ⟨fun o' j a b c d => ?_, q2, ?_, ?_⟩
      · obtain ⟨w1, w2, w3⟩ := q1 o' j a b c d
        exact ⟨w1, by rw [gL_sL, if_neg (fun q => d q.1)]; exact w2, w3⟩
      · intro p' k' o' l' a1 a2 a3 a4 a5 a6 a7 a8
        rw [kn_s]
        by_cases hix : ix p' k' o' l' = ix p k o l
        · obtain ⟨rfl, rfl, rfl, rfl⟩ := ix_inj a1 a3 a4 a5 a6 a7 a8 p0 k0 k5 o0 o1 hin.1 hin.2 hix
          rw [if_pos rfl, hmix]
          intro _
          rw [show (P.n - p').toNat = r + 1 by omega, e1, show (nn + 1099511627776 * (mk.toBitVec.toNat % 16777216)) % 1099511627776 = nn by omega]
        · rw [if_neg hix]
          exact q3 p' k' o' l' a1 a2 a3 a4 a5 a6 a7 a8
      · intro i hi
        rw [kn_s]
        by_cases hix : i = ix p k o l
        · rw [if_pos hix, hmix]
          have : mk.toBitVec.toNat % 16777216 ≤ mk.toBitVec.toNat := Nat.mod_le _ _
          omega
        · rw [if_neg hix]
          exact q4 i hi
  · rw [if_neg hin]
    refine ok_t rfl (ok_bnd (ok_of (hch m h) (fun v m1 hv => ?_)))
    exact ok_t rfl (ok_some hv)
theorem at_od {law : Option (List (Int × List Int))} {P : OP} {mg tx bc f dw : Int} {mk : Int64} {bl : Bool} {wd : Int} {m0 : Mem} (hB : OB law P mg tx bc f dw mk bl wd m0) : ∀ (r : Nat) (p : Int), 0 ≤ p → P.n - p = (r : Int) →
    (∀ fu, 2 * r + 1 ≤ fu → ∀ k l m, OI law P mk m0 m → 0 ≤ k → k ≤ 5 → -(200 + 9 * p) ≤ l → l ≤ 200 + 9 * p → Ok (F_Od_waysAt fu (iI p) (iI k) (iI 10) (iI l) m) (fun v m' => v = pk (fb k) (V P r k 10 (sg k l)) ∧ OI law P mk m0 m')) ∧
    ∀ fu, 2 * r + 2 ≤ fu → RC law P mk m0 (F_Od_waysAt fu) (V P r) p (200 + 9 * p) := by
  intro r
  have hn9 := hB.gr.n9
  induction r with
  | zero =>
    intro p p0 hp
    have base : ∀ fu, 1 ≤ fu → ∀ k o l m, OI law P mk m0 m → Ok (F_Od_waysAt fu (iI p) (iI k) (iI o) (iI l) m) (fun v m' => v = pk (fb k) (V P 0 k o (sg k l)) ∧ OI law P mk m0 m') := by
      intro fu hfu k o l m hm
      obtain ⟨fu', rfl⟩ : ∃ x, fu = x + 1 := ⟨fu - 1, by omega⟩
      have hcn : gI m 3 0 = iI P.n := (hm.1.I (by decide) (by decide) (by decide) (by decide)).trans hB.gr.cn
      rw [F_Od_waysAt]
      unfold F_Od_waysAt_b
      rw [hcn]
      refine ok_f ?_ (ok_f ?_ (ok_some ⟨(pk00 _).symm, hm⟩))
      · rw [lt0, iI_lt (by omega) (by omega) (by omega) (by omega)]; omega
      · rw [iI_lt (by omega) (by omega) (by omega) (by omega)]; omega
    exact ⟨fun fu hfu k l m hm _ _ _ _ => base fu (by omega) k 10 l m hm, fun fu hfu k o l m hm _ _ _ _ _ _ => base fu (by omega) k o l m hm⟩
  | succ r ih =>
    intro p p0 hp
    obtain ⟨i1, i2⟩ := ih (p + 1) (by omega) (by omega)
    have e9 : (200 + 9 * (p + 1) : Int) = 200 + 9 * p + 9 := by omega
    have A : ∀ fu, 2 * (r + 1) + 1 ≤ fu → ∀ k l m, OI law P mk m0 m → 0 ≤ k → k ≤ 5 → -(200 + 9 * p) ≤ l → l ≤ 200 + 9 * p → Ok (F_Od_waysAt fu (iI p) (iI k) (iI 10) (iI l) m) (fun v m' => v = pk (fb k) (V P (r + 1) k 10 (sg k l)) ∧ OI law P mk m0 m') := by
      intro fu hfu k l m hm k0 k5 l0 l1
      obtain ⟨fu', rfl⟩ : ∃ x, fu = x + 1 := ⟨fu - 1, by omega⟩
      rw [F_Od_waysAt]
      have h2 := i2 fu' (by omega)
      rw [e9] at h2
      exact at_od1 hB hm p0 (by omega) (by omega) l0 l1 k0 k5 (by omega) (by omega) h2 (fun q => absurd rfl q)
    refine ⟨A, fun fu hfu k o l m hm k0 k5 o0 o1 l0 l1 => ?_⟩
    obtain ⟨fu', rfl⟩ : ∃ x, fu = x + 1 := ⟨fu - 1, by omega⟩
    rw [F_Od_waysAt]
    have h2 := i2 fu' (by omega)
    rw [e9] at h2
    exact at_od1 hB hm p0 (by omega) (by omega) l0 l1 k0 k5 o0 o1 h2 (fun _ k l m hm k0 k5 l0 l1 => A fu' (by omega) k l m hm k0 k5 l0 l1)
end OCLS7
