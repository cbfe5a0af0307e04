section OCLS2
theorem Same.I {m0 m : Mem} (h : Same m0 m) {o j : Nat} (a : o ≠ 10) (b : o ≠ 11) (c : o ≠ 14) (d : o ≠ 15) : gI m o j = gI m0 o j := (h o j a b c d).1
theorem Same.L {m0 m : Mem} (h : Same m0 m) {o j : Nat} (a : o ≠ 10) (b : o ≠ 11) (c : o ≠ 14) (d : o ≠ 15) : gL m o j = gL m0 o j := (h o j a b c d).2.1
theorem Same.Z {m0 m : Mem} (h : Same m0 m) {o j : Nat} (a : o ≠ 10) (b : o ≠ 11) (c : o ≠ 14) (d : o ≠ 15) : gZ m o j = gZ m0 o j := (h o j a b c d).2.2
theorem bit_is1 {w : Nat → Int32} {p : Int} : (((w 8 >>> (iI p &&& 31)) &&& iI 1 : Int32) = iI 1) = (rainB w p = true) := by
  unfold rainB
  rw [decide_eq_true_eq]
  rfl
theorem runsIn_eq {p l s : Int} {m : Mem} {w : Nat → Int32} (hw : w = gI m 79) (hr : gI m 3 3 = gI m 79 8) (hs : SlotRep m 6 7 79) (p0 : 0 ≤ p) (p9 : p < 9) (l0 : 0 ≤ l) (l4 : l < 4) (s0 : 0 ≤ s) (s4 : s < 4) : F_Gr_runsIn (iI p) (iI l) (iI s) m = some (iI (if rainB w p = true then 0 else (w (23 + 2 * (4 * l + s)).toNat).toInt), m) := by
  subst hw
  unfold F_Gr_runsIn
  rw [bnd_some (bitOf_eq p0 p9), hr, lt1]
  by_cases h : rainB (gI m 79) p = true
  · rw [if_pos (by rw [bit_is1]; exact h), if_pos h]
    rfl
  · rw [if_neg (by rw [bit_is1]; exact h), if_neg h, bnd_some (runsOf_eq l0 l4 s0 s4), (hs _ (by omega)).1, show 23 + 2 * (l * 4 + s).toNat = (23 + 2 * (4 * l + s)).toNat by omega, iI_of]
theorem outsIn_eq {p l s : Int} {m : Mem} {w : Nat → Int32} (hw : w = gI m 79) (hr : gI m 3 3 = gI m 79 8) (hs : SlotRep m 6 7 79) (p0 : 0 ≤ p) (p9 : p < 9) (l0 : 0 ≤ l) (l4 : l < 4) (s0 : 0 ≤ s) (s4 : s < 4) : F_Gr_outsIn (iI p) (iI l) (iI s) m = some (iI (if rainB w p = true then 0 else (w (24 + 2 * (4 * l + s)).toNat).toInt), m) := by
  subst hw
  unfold F_Gr_outsIn
  rw [bnd_some (bitOf_eq p0 p9), hr, lt1]
  by_cases h : rainB (gI m 79) p = true
  · rw [if_pos (by rw [bit_is1]; exact h), if_pos h]
    rfl
  · rw [if_neg (by rw [bit_is1]; exact h), if_neg h, bnd_some (outsOf_eq l0 l4 s0 s4), (hs _ (by omega)).2, show 24 + 2 * (l * 4 + s).toNat = (24 + 2 * (4 * l + s)).toNat by omega, iI_of]
/-- a callee that tells what pv says at session p, of leads up to L -/
def RC (law : Option (List (Int × List Int))) (P : OP) (mk : Int64) (m0 : Mem) (rc : Int32 → Int32 → Int32 → Int32 → Mem → Option (Int64 × Mem)) (pv : Int → Int → Int → Int × Int) (p L : Int) : Prop := ∀ k o l m, OI law P mk m0 m → 0 ≤ k → k ≤ 5 → 0 ≤ o → o ≤ 10 → -L ≤ l → l ≤ L → Ok (rc (iI p) (iI k) (iI o) (iI l) m) (fun v m' => v = pk (fb k) (pv k o (sg k l)) ∧ OI law P mk m0 m')
theorem next_od {law : Option (List (Int × List Int))} {P : OP} {mg tx bc f dw : Int} {mk : Int64} {bl : Bool} {wd : Int} {m0 m : Mem} (hB : OB law P mg tx bc f dw mk bl wd m0) (h : OI law P mk m0 m) {rc : Int32 → Int32 → Int32 → Int32 → Mem → Option (Int64 × Mem)} {pv : Int → Int → Int → Int × Int} {p k l L : Int} (p0 : 0 ≤ p) (pn : p ≤ P.n) (hL : L < 1000) (l0 : -L ≤ l) (l1 : l ≤ L) (hk : k = 0 ∨ k = 1 ∨ k = 2 ∨ k = 4)
    (hrc : ∀ m, OI law P mk m0 m → Ok (rc (iI p) (iI (k + 1)) (iI 10) (iI l) m) (fun v m' => v = pk (fb (k + 1)) (pv (k + 1) 10 (sg (k + 1) l)) ∧ OI law P mk m0 m')) : Ok (F_Od_waysOfNext rc (iI p) (iI k) (iI l) m) (fun v m' => v = pk (fb k) (nx (four (P.n - p).toNat) pv k (sg k l)) ∧ OI law P mk m0 m') := by
  have hn9 := hB.gr.n9
  have hcn : gI m 3 0 = iI P.n := (h.1.I (by decide) (by decide) (by decide) (by decide)).trans hB.gr.cn
  have hA := fun b => allTo_eq (m := m) b hcn hn9 p0 pn
  unfold F_Od_waysOfNext
  rw [lt_def, lt1, iI_add, bnd_some (firstBats_eq (by omega) (by omega)), bnd_some (inningsOf_eq (by omega) (by omega))]
  refine ok_lt ?_
  have hgo : ∀ c : Prop, ¬ (inn (k + 1) = 3 ∧ sg k l < 0) → Ok (bnd (rc (iI p) (iI (k + 1)) (10 : Int32) (iI l) m) fun yq11 mq9 => some (yq11, mq9)) (fun v m' => v = pk (fb k) (nx (four (P.n - p).toNat) pv k (sg k l)) ∧ OI law P mk m0 m') := by
    intro _ hc
    refine ok_bnd (ok_of (hrc m h) (fun v m' hv => ok_some ⟨?_, hv.2⟩))
    rw [hv.1]
    unfold nx
    rw [if_neg hc, pk_sw]
    rcases hk with rfl | rfl | rfl | rfl <;> simp [fb, sg]
  have hto : (inn (k + 1) = 3 ∧ sg k l < 0) → Ok (bnd (F_Od_allTo (fb (k + 1)) (iI p) m) fun yq15 mq13 => some (yq15, mq13)) (fun v m' => v = pk (fb k) (nx (four (P.n - p).toNat) pv k (sg k l)) ∧ OI law P mk m0 m') := by
    intro hc
    refine ok_bnd_e (hA _) (ok_some ⟨?_, h⟩)
    unfold nx
    rw [if_pos hc]
    rcases hk with rfl | rfl | rfl | rfl <;> simp [fb, pk]
  rcases hk with rfl | rfl | rfl | rfl
  · exact hgo True (by simp [inn])
  · exact hgo True (by simp [inn])
  · by_cases hl : l < 0
    · refine ok_t (by decide) (ok_lt (ok_f (by decide) (ok_f ?_ ?_)))
      · simp (disch := omega) only [↓lt_def, ↓reduceIte, ckB_true, bnd_e, Int.reduceAdd, Int.reduceSub, Int.reduceMul, Int.reduceNeg, Int.reduceToNat, Bool.false_eq_true, eq_self, not_false_eq_true, not_true_eq_false, Int.toNat_natCast, lt0, lt1, lt2, lt3, lt4, lt5, lt6, lt7, lt8, lt9, lt10, lt11, lt12, lt13, lt14, lt15, lt16, lt17, lt18, lt19, lt20, lt21, lt22, lt23, lt24, lt25, lt26, lt27, lt28, lt29, lt30, lt31, lt32, lt40, lt41, lt43, lt48, lt55, lt57, lt59, lt60, lt62, lt63, lt64, lt70, lt72, lt81, lt97, lt99, lt100, lt122, lt162, lt180, lt235, lt255, lt298, lt299, lt325, lt335, lt400, lt837, lt999, lt1000, lt1001, lt1002, lt1003, lt1004, lt1005, lt1006, lt1007, lt1008, lt1100, lt1101, lt1102, lt1103, lt1104, lt1105, lt1135, lt1136, lt1172, lt2000, lt3278, lt3575, lt10000, lt12345, lt21450, lt32767, lt193050, lt1103515245, ltm162, ltm99, ltm81, ltm8, ltm1, iI_add, iI_sub, iI_mul, iI_neg, iI_divn, iI_lt_t, iI_lt_f, iI_le_t, iI_le_f, iI_eq_t, iI_eq_f, iI_lt, iI_le, iI_eq, iI_idx, iI_inb, gI_sI, gL_sL, gZ_sZ, gI_sL, gI_sZ, gL_sI, gL_sZ, gZ_sI, gZ_sL]
        first | done | omega
      · exact hto ⟨by decide, by simpa [sg, fb] using hl⟩
    · refine ok_t (by decide) (ok_lt (ok_f (by decide) (ok_t ?_ ?_)))
      · simp (disch := omega) only [↓lt_def, ↓reduceIte, ckB_true, bnd_e, Int.reduceAdd, Int.reduceSub, Int.reduceMul, Int.reduceNeg, Int.reduceToNat, Bool.false_eq_true, eq_self, not_false_eq_true, not_true_eq_false, Int.toNat_natCast, lt0, lt1, lt2, lt3, lt4, lt5, lt6, lt7, lt8, lt9, lt10, lt11, lt12, lt13, lt14, lt15, lt16, lt17, lt18, lt19, lt20, lt21, lt22, lt23, lt24, lt25, lt26, lt27, lt28, lt29, lt30, lt31, lt32, lt40, lt41, lt43, lt48, lt55, lt57, lt59, lt60, lt62, lt63, lt64, lt70, lt72, lt81, lt97, lt99, lt100, lt122, lt162, lt180, lt235, lt255, lt298, lt299, lt325, lt335, lt400, lt837, lt999, lt1000, lt1001, lt1002, lt1003, lt1004, lt1005, lt1006, lt1007, lt1008, lt1100, lt1101, lt1102, lt1103, lt1104, lt1105, lt1135, lt1136, lt1172, lt2000, lt3278, lt3575, lt10000, lt12345, lt21450, lt32767, lt193050, lt1103515245, ltm162, ltm99, ltm81, ltm8, ltm1, iI_add, iI_sub, iI_mul, iI_neg, iI_divn, iI_lt_t, iI_lt_f, iI_le_t, iI_le_f, iI_eq_t, iI_eq_f, iI_lt, iI_le, iI_eq, iI_idx, iI_inb, gI_sI, gL_sL, gZ_sZ, gI_sL, gI_sZ, gL_sI, gL_sZ, gZ_sI, gZ_sL]
      · exact hgo True (by simp [sg, fb]; omega)
  · by_cases hl : 0 < l
    · refine ok_t (by decide) (ok_lt (ok_t (by decide) (ok_f ?_ ?_)))
      · simp (disch := omega) only [↓lt_def, ↓reduceIte, ckB_true, bnd_e, Int.reduceAdd, Int.reduceSub, Int.reduceMul, Int.reduceNeg, Int.reduceToNat, Bool.false_eq_true, eq_self, not_false_eq_true, not_true_eq_false, Int.toNat_natCast, lt0, lt1, lt2, lt3, lt4, lt5, lt6, lt7, lt8, lt9, lt10, lt11, lt12, lt13, lt14, lt15, lt16, lt17, lt18, lt19, lt20, lt21, lt22, lt23, lt24, lt25, lt26, lt27, lt28, lt29, lt30, lt31, lt32, lt40, lt41, lt43, lt48, lt55, lt57, lt59, lt60, lt62, lt63, lt64, lt70, lt72, lt81, lt97, lt99, lt100, lt122, lt162, lt180, lt235, lt255, lt298, lt299, lt325, lt335, lt400, lt837, lt999, lt1000, lt1001, lt1002, lt1003, lt1004, lt1005, lt1006, lt1007, lt1008, lt1100, lt1101, lt1102, lt1103, lt1104, lt1105, lt1135, lt1136, lt1172, lt2000, lt3278, lt3575, lt10000, lt12345, lt21450, lt32767, lt193050, lt1103515245, ltm162, ltm99, ltm81, ltm8, ltm1, iI_add, iI_sub, iI_mul, iI_neg, iI_divn, iI_lt_t, iI_lt_f, iI_le_t, iI_le_f, iI_eq_t, iI_eq_f, iI_lt, iI_le, iI_eq, iI_idx, iI_inb, gI_sI, gL_sL, gZ_sZ, gI_sL, gI_sZ, gL_sI, gL_sZ, gZ_sI, gZ_sL]
        first | done | omega
      · exact hto ⟨by decide, by simpa [sg, fb] using hl⟩
    · refine ok_t (by decide) (ok_lt (ok_t (by decide) (ok_t ?_ ?_)))
      · simp (disch := omega) only [↓lt_def, ↓reduceIte, ckB_true, bnd_e, Int.reduceAdd, Int.reduceSub, Int.reduceMul, Int.reduceNeg, Int.reduceToNat, Bool.false_eq_true, eq_self, not_false_eq_true, not_true_eq_false, Int.toNat_natCast, lt0, lt1, lt2, lt3, lt4, lt5, lt6, lt7, lt8, lt9, lt10, lt11, lt12, lt13, lt14, lt15, lt16, lt17, lt18, lt19, lt20, lt21, lt22, lt23, lt24, lt25, lt26, lt27, lt28, lt29, lt30, lt31, lt32, lt40, lt41, lt43, lt48, lt55, lt57, lt59, lt60, lt62, lt63, lt64, lt70, lt72, lt81, lt97, lt99, lt100, lt122, lt162, lt180, lt235, lt255, lt298, lt299, lt325, lt335, lt400, lt837, lt999, lt1000, lt1001, lt1002, lt1003, lt1004, lt1005, lt1006, lt1007, lt1008, lt1100, lt1101, lt1102, lt1103, lt1104, lt1105, lt1135, lt1136, lt1172, lt2000, lt3278, lt3575, lt10000, lt12345, lt21450, lt32767, lt193050, lt1103515245, ltm162, ltm99, ltm81, ltm8, ltm1, iI_add, iI_sub, iI_mul, iI_neg, iI_divn, iI_lt_t, iI_lt_f, iI_le_t, iI_le_f, iI_eq_t, iI_eq_f, iI_lt, iI_le, iI_eq, iI_idx, iI_inb, gI_sI, gL_sL, gZ_sZ, gI_sL, gI_sZ, gL_sI, gL_sZ, gZ_sI, gZ_sL]
      · exact hgo True (by simp [sg, fb]; omega)
end OCLS2
