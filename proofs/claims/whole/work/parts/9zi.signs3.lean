section SIGNSC
theorem signs_op {B : Nat} {law : Option (List (Int × List Int))} {n mg wd tx bc : Int} {t : Mt} {m : Mem} (h : IV B law n mg wd tx bc t m) (a c : Int32) (sg : Bool) : Both B (fun e => if e = 1 then 1 else 0) (F_T_signs a c sg) (F_M_signs a c sg) m := by
  obtain ⟨s, rfl, s1, s2⟩ := iI_ex a
  obtain ⟨v, rfl, v1, v2⟩ := iI_ex c
  obtain ⟨T, b, t1, t2, hB, hR⟩ := tape_b h.tp
  have hT := hB.1
  obtain ⟨mu, hmu⟩ : ∃ x, x = sI m 0 1 0 := ⟨_, rfl⟩
  have eu : F_T_useTape m = some (iI T, mu) := by
    unfold F_T_useTape
    rw [lt_def, lt_def, t1, hmu]
  have fu : Fr [] [(0, 1)] m mu := fr_T_useTape _ _ _ eu
  have hBu : BT mu b T := hB.cg (fun j => fu.gI (by simp) (by simp))
  obtain ⟨vT, hvT, eT1⟩ := tapeIsMorn_ok hBu
  have hu01 : gI mu 0 1 = iI 0 := by rw [hmu]; rfl
  by_cases hg : (0 ≤ s ∧ s ≤ 2 ∧ 0 ≤ v ∧ v ≤ 3) ∧ VM b T
  · obtain ⟨⟨s0, s3, v0, v3⟩, hV⟩ := hg
    rw [hvT.2 hV] at eT1
    obtain ⟨N, hN⟩ : ∃ N, T = 4 * N := ⟨T / 4, by have := hV.1; omega⟩
    have hb : ∀ i, i < T → b i < 4 := fun i hi => (hV.2 i hi).1
    obtain ⟨_, mz, ez, hx, fz⟩ := sort_ok hBu hN hb s0 s3 s0 s3
    obtain ⟨x1, x2⟩ := hx v.toNat (by omega)
    rw [show ((v.toNat : Nat) : Int) = v by omega] at x1 x2
    have e5 : F_Mo_swungWith (iI v) mz = some (iI (swM b s s v N), mz) := by
      unfold F_Mo_swungWith
      rw [if_neg (by simp (disch := omega) only [↓lt_def, ↓reduceIte, ckB_true, bnd_e, Int.reduceAdd, Int.reduceSub, Int.reduceMul, Int.reduceNeg, Int.reduceToNat, Bool.false_eq_true, eq_self, not_false_eq_true, not_true_eq_false, Int.toNat_natCast, lt0, lt1, lt2, lt3, lt4, lt5, lt6, lt7, lt8, lt9, lt10, lt11, lt12, lt13, lt14, lt15, lt16, lt17, lt18, lt19, lt20, lt21, lt22, lt23, lt24, lt25, lt26, lt27, lt28, lt29, lt30, lt31, lt32, lt40, lt41, lt43, lt48, lt55, lt57, lt59, lt60, lt62, lt63, lt64, lt70, lt72, lt81, lt97, lt99, lt100, lt122, lt162, lt180, lt235, lt255, lt298, lt299, lt325, lt335, lt400, lt837, lt999, lt1000, lt1001, lt1002, lt1003, lt1004, lt1005, lt1006, lt1007, lt1008, lt1100, lt1101, lt1102, lt1103, lt1104, lt1105, lt1135, lt1136, lt1172, lt2000, lt3278, lt3575, lt10000, lt12345, lt21450, lt32767, lt193050, lt1103515245, ltm162, ltm99, ltm81, ltm8, ltm1, iI_add, iI_sub, iI_mul, iI_neg, iI_divn, iI_lt_t, iI_lt_f, iI_le_t, iI_le_f, iI_eq_t, iI_eq_f, iI_lt, iI_le, iI_eq, iI_idx, iI_inb, gI_sI, gL_sL, gZ_sZ, gI_sL, gI_sZ, gL_sI, gL_sZ, gZ_sI, gZ_sL]), if_pos (by simp (disch := omega) only [↓lt_def, ↓reduceIte, ckB_true, bnd_e, Int.reduceAdd, Int.reduceSub, Int.reduceMul, Int.reduceNeg, Int.reduceToNat, Bool.false_eq_true, eq_self, not_false_eq_true, not_true_eq_false, Int.toNat_natCast, lt0, lt1, lt2, lt3, lt4, lt5, lt6, lt7, lt8, lt9, lt10, lt11, lt12, lt13, lt14, lt15, lt16, lt17, lt18, lt19, lt20, lt21, lt22, lt23, lt24, lt25, lt26, lt27, lt28, lt29, lt30, lt31, lt32, lt40, lt41, lt43, lt48, lt55, lt57, lt59, lt60, lt62, lt63, lt64, lt70, lt72, lt81, lt97, lt99, lt100, lt122, lt162, lt180, lt235, lt255, lt298, lt299, lt325, lt335, lt400, lt837, lt999, lt1000, lt1001, lt1002, lt1003, lt1004, lt1005, lt1006, lt1007, lt1008, lt1100, lt1101, lt1102, lt1103, lt1104, lt1105, lt1135, lt1136, lt1172, lt2000, lt3278, lt3575, lt10000, lt12345, lt21450, lt32767, lt193050, lt1103515245, ltm162, ltm99, ltm81, ltm8, ltm1, iI_add, iI_sub, iI_mul, iI_neg, iI_divn, iI_lt_t, iI_lt_f, iI_le_t, iI_le_f, iI_eq_t, iI_eq_f, iI_lt, iI_le, iI_eq, iI_idx, iI_inb, gI_sI, gL_sL, gZ_sZ, gI_sL, gI_sZ, gL_sI, gL_sZ, gZ_sI, gZ_sL]), ckB_t (iI_inb (by omega) (by omega) (by omega)), lt_def, iI_idx (by omega) (by omega), x1]
    have e6 : F_Mo_stillWith (iI v) mz = some (iI (stM b s s v N), mz) := by
      unfold F_Mo_stillWith
      rw [if_neg (by simp (disch := omega) only [↓lt_def, ↓reduceIte, ckB_true, bnd_e, Int.reduceAdd, Int.reduceSub, Int.reduceMul, Int.reduceNeg, Int.reduceToNat, Bool.false_eq_true, eq_self, not_false_eq_true, not_true_eq_false, Int.toNat_natCast, lt0, lt1, lt2, lt3, lt4, lt5, lt6, lt7, lt8, lt9, lt10, lt11, lt12, lt13, lt14, lt15, lt16, lt17, lt18, lt19, lt20, lt21, lt22, lt23, lt24, lt25, lt26, lt27, lt28, lt29, lt30, lt31, lt32, lt40, lt41, lt43, lt48, lt55, lt57, lt59, lt60, lt62, lt63, lt64, lt70, lt72, lt81, lt97, lt99, lt100, lt122, lt162, lt180, lt235, lt255, lt298, lt299, lt325, lt335, lt400, lt837, lt999, lt1000, lt1001, lt1002, lt1003, lt1004, lt1005, lt1006, lt1007, lt1008, lt1100, lt1101, lt1102, lt1103, lt1104, lt1105, lt1135, lt1136, lt1172, lt2000, lt3278, lt3575, lt10000, lt12345, lt21450, lt32767, lt193050, lt1103515245, ltm162, ltm99, ltm81, ltm8, ltm1, iI_add, iI_sub, iI_mul, iI_neg, iI_divn, iI_lt_t, iI_lt_f, iI_le_t, iI_le_f, iI_eq_t, iI_eq_f, iI_lt, iI_le, iI_eq, iI_idx, iI_inb, gI_sI, gL_sL, gZ_sZ, gI_sL, gI_sZ, gL_sI, gL_sZ, gZ_sI, gZ_sL]), if_pos (by simp (disch := omega) only [↓lt_def, ↓reduceIte, ckB_true, bnd_e, Int.reduceAdd, Int.reduceSub, Int.reduceMul, Int.reduceNeg, Int.reduceToNat, Bool.false_eq_true, eq_self, not_false_eq_true, not_true_eq_false, Int.toNat_natCast, lt0, lt1, lt2, lt3, lt4, lt5, lt6, lt7, lt8, lt9, lt10, lt11, lt12, lt13, lt14, lt15, lt16, lt17, lt18, lt19, lt20, lt21, lt22, lt23, lt24, lt25, lt26, lt27, lt28, lt29, lt30, lt31, lt32, lt40, lt41, lt43, lt48, lt55, lt57, lt59, lt60, lt62, lt63, lt64, lt70, lt72, lt81, lt97, lt99, lt100, lt122, lt162, lt180, lt235, lt255, lt298, lt299, lt325, lt335, lt400, lt837, lt999, lt1000, lt1001, lt1002, lt1003, lt1004, lt1005, lt1006, lt1007, lt1008, lt1100, lt1101, lt1102, lt1103, lt1104, lt1105, lt1135, lt1136, lt1172, lt2000, lt3278, lt3575, lt10000, lt12345, lt21450, lt32767, lt193050, lt1103515245, ltm162, ltm99, ltm81, ltm8, ltm1, iI_add, iI_sub, iI_mul, iI_neg, iI_divn, iI_lt_t, iI_lt_f, iI_le_t, iI_le_f, iI_eq_t, iI_eq_f, iI_lt, iI_le, iI_eq, iI_idx, iI_inb, gI_sI, gL_sL, gZ_sZ, gI_sL, gI_sZ, gL_sI, gL_sZ, gZ_sI, gZ_sL]), ckB_t (iI_inb (by omega) (by omega) (by omega)), lt_def, iI_idx (by omega) (by omega), x2]
    have eT : F_T_signs (iI s) (iI v) sg m = some (.inr (iI (swM b s s v N + (if sg = true then 0 else stM b s s v N) : Nat)), mz) := by
      unfold F_T_signs
      rw [bnd_some eu, bnd_some eT1, lt_def, if_pos rfl, if_neg (by simp (disch := omega) only [↓lt_def, ↓reduceIte, ckB_true, bnd_e, Int.reduceAdd, Int.reduceSub, Int.reduceMul, Int.reduceNeg, Int.reduceToNat, Bool.false_eq_true, eq_self, not_false_eq_true, not_true_eq_false, Int.toNat_natCast, lt0, lt1, lt2, lt3, lt4, lt5, lt6, lt7, lt8, lt9, lt10, lt11, lt12, lt13, lt14, lt15, lt16, lt17, lt18, lt19, lt20, lt21, lt22, lt23, lt24, lt25, lt26, lt27, lt28, lt29, lt30, lt31, lt32, lt40, lt41, lt43, lt48, lt55, lt57, lt59, lt60, lt62, lt63, lt64, lt70, lt72, lt81, lt97, lt99, lt100, lt122, lt162, lt180, lt235, lt255, lt298, lt299, lt325, lt335, lt400, lt837, lt999, lt1000, lt1001, lt1002, lt1003, lt1004, lt1005, lt1006, lt1007, lt1008, lt1100, lt1101, lt1102, lt1103, lt1104, lt1105, lt1135, lt1136, lt1172, lt2000, lt3278, lt3575, lt10000, lt12345, lt21450, lt32767, lt193050, lt1103515245, ltm162, ltm99, ltm81, ltm8, ltm1, iI_add, iI_sub, iI_mul, iI_neg, iI_divn, iI_lt_t, iI_lt_f, iI_le_t, iI_le_f, iI_eq_t, iI_eq_f, iI_lt, iI_le, iI_eq, iI_idx, iI_inb, gI_sI, gL_sL, gZ_sZ, gI_sL, gI_sZ, gL_sI, gL_sZ, gZ_sI, gZ_sL]), if_neg (by simp (disch := omega) only [↓lt_def, ↓reduceIte, ckB_true, bnd_e, Int.reduceAdd, Int.reduceSub, Int.reduceMul, Int.reduceNeg, Int.reduceToNat, Bool.false_eq_true, eq_self, not_false_eq_true, not_true_eq_false, Int.toNat_natCast, lt0, lt1, lt2, lt3, lt4, lt5, lt6, lt7, lt8, lt9, lt10, lt11, lt12, lt13, lt14, lt15, lt16, lt17, lt18, lt19, lt20, lt21, lt22, lt23, lt24, lt25, lt26, lt27, lt28, lt29, lt30, lt31, lt32, lt40, lt41, lt43, lt48, lt55, lt57, lt59, lt60, lt62, lt63, lt64, lt70, lt72, lt81, lt97, lt99, lt100, lt122, lt162, lt180, lt235, lt255, lt298, lt299, lt325, lt335, lt400, lt837, lt999, lt1000, lt1001, lt1002, lt1003, lt1004, lt1005, lt1006, lt1007, lt1008, lt1100, lt1101, lt1102, lt1103, lt1104, lt1105, lt1135, lt1136, lt1172, lt2000, lt3278, lt3575, lt10000, lt12345, lt21450, lt32767, lt193050, lt1103515245, ltm162, ltm99, ltm81, ltm8, ltm1, iI_add, iI_sub, iI_mul, iI_neg, iI_divn, iI_lt_t, iI_lt_f, iI_le_t, iI_le_f, iI_eq_t, iI_eq_f, iI_lt, iI_le, iI_eq, iI_idx, iI_inb, gI_sI, gL_sL, gZ_sZ, gI_sL, gI_sZ, gL_sI, gL_sZ, gZ_sI, gZ_sL]), if_neg (by simp (disch := omega) only [↓lt_def, ↓reduceIte, ckB_true, bnd_e, Int.reduceAdd, Int.reduceSub, Int.reduceMul, Int.reduceNeg, Int.reduceToNat, Bool.false_eq_true, eq_self, not_false_eq_true, not_true_eq_false, Int.toNat_natCast, lt0, lt1, lt2, lt3, lt4, lt5, lt6, lt7, lt8, lt9, lt10, lt11, lt12, lt13, lt14, lt15, lt16, lt17, lt18, lt19, lt20, lt21, lt22, lt23, lt24, lt25, lt26, lt27, lt28, lt29, lt30, lt31, lt32, lt40, lt41, lt43, lt48, lt55, lt57, lt59, lt60, lt62, lt63, lt64, lt70, lt72, lt81, lt97, lt99, lt100, lt122, lt162, lt180, lt235, lt255, lt298, lt299, lt325, lt335, lt400, lt837, lt999, lt1000, lt1001, lt1002, lt1003, lt1004, lt1005, lt1006, lt1007, lt1008, lt1100, lt1101, lt1102, lt1103, lt1104, lt1105, lt1135, lt1136, lt1172, lt2000, lt3278, lt3575, lt10000, lt12345, lt21450, lt32767, lt193050, lt1103515245, ltm162, ltm99, ltm81, ltm8, ltm1, iI_add, iI_sub, iI_mul, iI_neg, iI_divn, iI_lt_t, iI_lt_f, iI_le_t, iI_le_f, iI_eq_t, iI_eq_f, iI_lt, iI_le, iI_eq, iI_idx, iI_inb, gI_sI, gL_sL, gZ_sZ, gI_sL, gI_sZ, gL_sI, gL_sZ, gZ_sI, gZ_sL]), if_pos (by simp (disch := omega) only [↓lt_def, ↓reduceIte, ckB_true, bnd_e, Int.reduceAdd, Int.reduceSub, Int.reduceMul, Int.reduceNeg, Int.reduceToNat, Bool.false_eq_true, eq_self, not_false_eq_true, not_true_eq_false, Int.toNat_natCast, lt0, lt1, lt2, lt3, lt4, lt5, lt6, lt7, lt8, lt9, lt10, lt11, lt12, lt13, lt14, lt15, lt16, lt17, lt18, lt19, lt20, lt21, lt22, lt23, lt24, lt25, lt26, lt27, lt28, lt29, lt30, lt31, lt32, lt40, lt41, lt43, lt48, lt55, lt57, lt59, lt60, lt62, lt63, lt64, lt70, lt72, lt81, lt97, lt99, lt100, lt122, lt162, lt180, lt235, lt255, lt298, lt299, lt325, lt335, lt400, lt837, lt999, lt1000, lt1001, lt1002, lt1003, lt1004, lt1005, lt1006, lt1007, lt1008, lt1100, lt1101, lt1102, lt1103, lt1104, lt1105, lt1135, lt1136, lt1172, lt2000, lt3278, lt3575, lt10000, lt12345, lt21450, lt32767, lt193050, lt1103515245, ltm162, ltm99, ltm81, ltm8, ltm1, iI_add, iI_sub, iI_mul, iI_neg, iI_divn, iI_lt_t, iI_lt_f, iI_le_t, iI_le_f, iI_eq_t, iI_eq_f, iI_lt, iI_le, iI_eq, iI_idx, iI_inb, gI_sI, gL_sL, gZ_sZ, gI_sL, gI_sZ, gL_sI, gL_sZ, gZ_sI, gZ_sL]), bnd_some ez, bnd_some e5, lt_def]
      cases sg with
      | true =>
        rw [if_pos rfl, if_pos rfl]
        dsimp only
        rw [lt0, iI_add]
        rfl
      | false =>
        rw [if_neg (by decide), if_neg (by decide), bnd_some e6]
        dsimp only
        rw [iI_add]
        rfl
    have fT := fr_T_signs _ _ _ _ _ _ eT
    obtain ⟨vM, mr, hvM, eM1, h10, h8, h0, hRr, fr1⟩ := readSigns_ok (m := mz) (b := b) (T := T) (hR.cg (fun j => (fT.gI (by simp) (by simp)))) ((fT.gI (by simp) (by simp)).trans t2)
    rw [hvM.2 hV] at eM1
    have eM2 := mornings_ok hRr hN hb h10 (one := s) (v := v) (two := -1) (u := 0) sg s0 s3 (by omega) (by omega) v0 v3 (by omega) (by omega)
    have eM : F_M_signs (iI s) (iI v) sg mz = some (iI (cn (mrM b s v (-1) 0 sg) N), mr) := by
      unfold F_M_signs
      rw [bnd_some eM1, lt_def, lt_def, if_pos rfl, lt0, show (2 : Int32) = iI 2 from rfl, bnd_some (in_eq s1 s2 (by omega) (by omega) (by omega) (by omega)), decide_eq_true ⟨s0, s3⟩, if_pos rfl, lt3, bnd_some (in_eq v1 v2 (by omega) (by omega) (by omega) (by omega)), decide_eq_true ⟨v0, v3⟩, if_pos rfl]
      dsimp only
      rw [bnd_some throwsIf_f, if_neg (by decide), show (-1 : Int32) = iI (-1) from rfl, bnd_some eM2]
    refine ok_e eT (ok_e eM ⟨⟨h0, ?_⟩, (h.use0 (Fr_tr (Fr_wk fT (by decide) (by decide)) fr1 (by decide) (by decide)) ?_ h8).inv⟩)
    · congr 2
      have e3 := cn_split (keyM b s s v) (swgM b) N
      have e4 : swM b s s v N + stM b s s v N = cn (keyM b s s v) N := e3
      cases sg with
      | true =>
        rw [if_pos rfl]
        unfold swM
        refine cn_cg (fun i hi => ?_)
        rw [mrM_sg, mrM_one]
        simp
      | false =>
        rw [if_neg (by decide), e4]
        exact cn_cg (fun i hi => mrM_one.symm)
    · rw [fr1.gI (by simp) (by simp), fz.gI (by simp) (by simp), hu01]
  · have eT : F_T_signs (iI s) (iI v) sg m = some (.inl 1, mu) := by
      unfold F_T_signs
      rw [bnd_some eu, bnd_some eT1, lt_def]
      cases vT with
      | false => rw [if_neg (by decide)]
      | true =>
        have hV := hvT.1 rfl
        rw [if_pos rfl]
        by_cases q1 : s < 0
        · rw [if_pos (by rw [lt0, iI_lt (by omega) (by omega) (by omega) (by omega)]; exact q1)]
        · rw [if_neg (by rw [lt0, iI_lt (by omega) (by omega) (by omega) (by omega)]; exact q1)]
          by_cases q2 : 2 < s
          · rw [if_pos (by rw [show (2 : Int32) = iI 2 from rfl, iI_lt (by omega) (by omega) (by omega) (by omega)]; exact q2)]
          · rw [if_neg (by rw [show (2 : Int32) = iI 2 from rfl, iI_lt (by omega) (by omega) (by omega) (by omega)]; exact q2)]
            by_cases q3 : v < 0
            · rw [if_pos (by rw [lt0, iI_lt (by omega) (by omega) (by omega) (by omega)]; exact q3)]
            · rw [if_neg (by rw [lt0, iI_lt (by omega) (by omega) (by omega) (by omega)]; exact q3), if_neg (by rw [lt3, iI_le (by omega) (by omega) (by omega) (by omega)]; exact fun q => hg ⟨⟨by omega, by omega, by omega, q⟩, hV⟩)]
    obtain ⟨vM, mr, hvM, eM1, h10, h8, h0, hRr, fr1⟩ := readSigns_ok (m := mu) (b := b) (T := T) (hR.cg (fun j => (fu.gI (by simp) (by simp)))) ((fu.gI (by simp) (by simp)).trans t2)
    have eM : F_M_signs (iI s) (iI v) sg mu = some (iI 0, sI mr 78 0 1) := by
      unfold F_M_signs
      rw [bnd_some eM1, lt_def, lt_def]
      cases vM with
      | false => rw [if_neg (by decide)]; rfl
      | true =>
        have hV := hvM.1 rfl
        rw [if_pos rfl, lt0, show (2 : Int32) = iI 2 from rfl, bnd_some (in_eq s1 s2 (by omega) (by omega) (by omega) (by omega))]
        by_cases q1 : 0 ≤ s ∧ s ≤ 2
        · rw [decide_eq_true q1, if_pos rfl, lt3, bnd_some (in_eq v1 v2 (by omega) (by omega) (by omega) (by omega)), decide_eq_false (fun q => hg ⟨⟨q1.1, q1.2, q.1, q.2⟩, hV⟩), if_neg (by decide)]
          rfl
        · rw [decide_eq_false q1, if_neg (by decide)]
          rfl
    refine ok_e eT (ok_e eM ⟨ans_l (by decide) rfl, (h.use0 (Fr_sI rfl (Fr_tr (Fr_wk fu (by decide) (by decide)) fr1 (by decide) (by decide)) (by decide)) ?_ ?_).inv⟩)
    · rw [gI_sI, if_neg (fun q => absurd q.1 (by decide)), fr1.gI (by simp) (by simp), hu01]
    · rw [gI_sI, if_neg (fun q => absurd q.2 (by decide)), h8]
def oneC (rule : Bool) (k : Nat) : Int := if rule = true then (if k = 2 then 1 else 0) else k
def twoC (rule : Bool) (k : Nat) : Int := if rule = true then (if k = 0 then 1 else 2) else k
def bsR (b : Nat → Int) (N : Nat) (rule : Bool) (k : Nat) : Nat := TRn b (oneC rule k) (twoC rule k) N
theorem Tbest_step {b : Nat → Int} {T N : Nat} (hN : T = 4 * N) (hb : ∀ i, i < T → b i < 4) (rule : Bool) (kk : Int32 → Int32 → Mem → Option ((Nat ⊕ Int32) × Mem)) (Q : (Nat ⊕ Int32) → Mem → Prop) {k nf : Nat} (hk : k < 3) {f mo : Int} (m0 : -1 ≤ mo) (m1 : mo ≤ 2000) {z : Mem} (hB : BT z b T) (h : ∀ z', BT z' b T → Fr [62, 63] [] z z' → Ok (F_T_best_L33 rule (iI T) kk nf (iI (if (bsR b N rule k : Int) ≤ mo then f else k)) (iI (if (bsR b N rule k : Int) ≤ mo then mo else bsR b N rule k)) (iI (k + 1 : Nat)) z') Q) : Ok (F_T_best_L33 rule (iI T) kk (nf + 1) (iI f) (iI mo) (iI k) z) Q := by
  have hT := hB.1
  have ho : 0 ≤ oneC rule k ∧ oneC rule k ≤ 2 := by unfold oneC; (repeat' split) <;> omega
  have ht : 0 ≤ twoC rule k ∧ twoC rule k ≤ 2 := by unfold twoC; (repeat' split) <;> omega
  have hle := TRn_le b (oneC rule k) (twoC rule k) N
  obtain ⟨_, z1, e1, hx, f1⟩ := sort_ok hB hN hb ho.1 ho.2 ht.1 ht.2
  have e2 := toldRight_ok (m := z1) (by omega) hx
  have hB1 : BT z1 b T := hB.cg (fun j => f1.gI (by simp) (by simp))
  have h' := h z1 hB1 f1
  have hR : bsR b N rule k = TRn b (oneC rule k) (twoC rule k) N := rfl
  rw [F_T_best_L33, if_neg (by simp (disch := omega) only [↓lt_def, ↓reduceIte, ckB_true, bnd_e, Int.reduceAdd, Int.reduceSub, Int.reduceMul, Int.reduceNeg, Int.reduceToNat, Bool.false_eq_true, eq_self, not_false_eq_true, not_true_eq_false, Int.toNat_natCast, lt0, lt1, lt2, lt3, lt4, lt5, lt6, lt7, lt8, lt9, lt10, lt11, lt12, lt13, lt14, lt15, lt16, lt17, lt18, lt19, lt20, lt21, lt22, lt23, lt24, lt25, lt26, lt27, lt28, lt29, lt30, lt31, lt32, lt40, lt41, lt43, lt48, lt55, lt57, lt59, lt60, lt62, lt63, lt64, lt70, lt72, lt81, lt97, lt99, lt100, lt122, lt162, lt180, lt235, lt255, lt298, lt299, lt325, lt335, lt400, lt837, lt999, lt1000, lt1001, lt1002, lt1003, lt1004, lt1005, lt1006, lt1007, lt1008, lt1100, lt1101, lt1102, lt1103, lt1104, lt1105, lt1135, lt1136, lt1172, lt2000, lt3278, lt3575, lt10000, lt12345, lt21450, lt32767, lt193050, lt1103515245, ltm162, ltm99, ltm81, ltm8, ltm1, iI_add, iI_sub, iI_mul, iI_neg, iI_divn, iI_lt_t, iI_lt_f, iI_le_t, iI_le_f, iI_eq_t, iI_eq_f, iI_lt, iI_le, iI_eq, iI_idx, iI_inb, gI_sI, gL_sL, gZ_sZ, gI_sL, gI_sZ, gL_sI, gL_sZ, gZ_sI, gZ_sL])]
  refine ok_ltk (fun k59 h59 => ?_)
  have e59 : Ok (k59 (iI (oneC rule k)) z) Q := by
    rw [h59]
    dsimp only
    refine ok_ltk (fun k80 h80 => ?_)
    have e80 : Ok (k80 (iI (twoC rule k)) z) Q := by
      rw [h80]
      dsimp only
      rw [bnd_some e1, bnd_some e2]
      refine ok_ltk (fun k122 h122 => ?_)
      by_cases hle2 : (bsR b N rule k : Int) ≤ mo
      · rw [if_pos hle2, if_pos hle2] at h'
        rw [hR] at hle2
        rw [if_pos (by rw [iI_le (by omega) (by omega) (by omega) (by omega)]; exact hle2), h122]
        dsimp only
        rw [lt_def, lt1, iI_add]
        exact h'
      · rw [if_neg hle2, if_neg hle2] at h'
        rw [hR] at hle2
        rw [if_neg (by rw [iI_le (by omega) (by omega) (by omega) (by omega)]; exact hle2), h122]
        dsimp only
        rw [lt_def, lt1, iI_add]
        exact h'
    cases rule with
    | false => rw [if_neg (by decide)]; exact e80
    | true =>
      rw [if_pos rfl]
      by_cases hk0 : k = 0
      · subst hk0
        rw [if_pos (by decide)]
        exact e80
      · rw [if_neg (by rw [lt0, iI_eq (by omega) (by omega) (by omega) (by omega)]; omega)]
        have e : twoC true k = 2 := by unfold twoC; rw [if_pos rfl, if_neg hk0]
        rw [e] at e80
        exact e80
  cases rule with
  | false => rw [if_neg (by decide)]; exact e59
  | true =>
    rw [if_pos rfl]
    by_cases hk2 : k = 2
    · subst hk2
      rw [if_pos (by decide)]
      exact e59
    · rw [if_neg (by rw [show (2 : Int32) = iI 2 from rfl, iI_eq (by omega) (by omega) (by omega) (by omega)]; omega)]
      have e : oneC true k = 0 := by unfold oneC; rw [if_pos rfl, if_neg hk2]
      rw [e] at e59
      exact e59
theorem Mbest_step {b : Nat → Int} {T N : Nat} (hN : T = 4 * N) (hb : ∀ i, i < T → b i < 4) (rule : Bool) (kk : Int32 → Int32 → Mem → Option (Int32 × Mem)) (Q : Int32 → Mem → Prop) {k nf : Nat} (hk : k < 3) {f mo : Int} (f0 : -1 ≤ f) (f3 : f ≤ 3) (m0 : -1 ≤ mo) (m1 : mo ≤ 2000) {z : Mem} (hB : RT z b T) (h10 : gI z 78 10 = iI T) (h : Ok (F_M_best_L33 rule kk nf (iI (if 0 ≤ f ∧ (bsR b N rule k : Int) ≤ mo then f else k)) (iI (if 0 ≤ f ∧ (bsR b N rule k : Int) ≤ mo then mo else bsR b N rule k)) (iI (k + 1 : Nat)) z) Q) : Ok (F_M_best_L33 rule kk (nf + 1) (iI f) (iI mo) (iI k) z) Q := by
  have hT := hB.1
  have hR : bsR b N rule k = TRn b (oneC rule k) (twoC rule k) N := rfl
  have hle := TRn_le b (oneC rule k) (twoC rule k) N
  rw [F_M_best_L33, if_neg (by simp (disch := omega) only [↓lt_def, ↓reduceIte, ckB_true, bnd_e, Int.reduceAdd, Int.reduceSub, Int.reduceMul, Int.reduceNeg, Int.reduceToNat, Bool.false_eq_true, eq_self, not_false_eq_true, not_true_eq_false, Int.toNat_natCast, lt0, lt1, lt2, lt3, lt4, lt5, lt6, lt7, lt8, lt9, lt10, lt11, lt12, lt13, lt14, lt15, lt16, lt17, lt18, lt19, lt20, lt21, lt22, lt23, lt24, lt25, lt26, lt27, lt28, lt29, lt30, lt31, lt32, lt40, lt41, lt43, lt48, lt55, lt57, lt59, lt60, lt62, lt63, lt64, lt70, lt72, lt81, lt97, lt99, lt100, lt122, lt162, lt180, lt235, lt255, lt298, lt299, lt325, lt335, lt400, lt837, lt999, lt1000, lt1001, lt1002, lt1003, lt1004, lt1005, lt1006, lt1007, lt1008, lt1100, lt1101, lt1102, lt1103, lt1104, lt1105, lt1135, lt1136, lt1172, lt2000, lt3278, lt3575, lt10000, lt12345, lt21450, lt32767, lt193050, lt1103515245, ltm162, ltm99, ltm81, ltm8, ltm1, iI_add, iI_sub, iI_mul, iI_neg, iI_divn, iI_lt_t, iI_lt_f, iI_le_t, iI_le_f, iI_eq_t, iI_eq_f, iI_lt, iI_le, iI_eq, iI_idx, iI_inb, gI_sI, gL_sL, gZ_sZ, gI_sL, gI_sZ, gL_sI, gL_sZ, gZ_sI, gZ_sL])]
  refine ok_ltk (fun k78 h78 => ?_)
  have e78 : Ok (k78 (iI (bsR b N rule k)) z) Q := by
    rw [h78]
    dsimp only
    refine ok_ltk (fun k103 h103 => ?_)
    refine ok_ltk (fun k95 h95 => ?_)
    have e103 : ∀ f' mo' : Int, Ok (F_M_best_L33 rule kk nf (iI f') (iI mo') (iI (k + 1 : Nat)) z) Q → Ok (k103 (iI f') (iI mo') z) Q := by
      intro f' mo' q
      rw [h103]
      dsimp only
      rw [lt_def, lt1, iI_add]
      exact q
    by_cases hf : f < 0
    · rw [if_neg (by omega), if_neg (by omega)] at h
      rw [if_pos (by rw [lt0, iI_lt (by omega) (by omega) (by omega) (by omega)]; exact hf), h95]
      exact e103 _ _ h
    · rw [if_neg (by rw [lt0, iI_lt (by omega) (by omega) (by omega) (by omega)]; exact hf)]
      by_cases hm : (bsR b N rule k : Int) ≤ mo
      · rw [if_pos ⟨by omega, hm⟩, if_pos ⟨by omega, hm⟩] at h
        rw [hR] at hm
        rw [if_neg (by rw [hR, iI_lt (by omega) (by omega) (by omega) (by omega)]; omega)]
        exact e103 _ _ h
      · rw [if_neg (fun q => hm q.2), if_neg (fun q => hm q.2)] at h
        rw [hR] at hm
        rw [if_pos (by rw [hR, iI_lt (by omega) (by omega) (by omega) (by omega)]; omega), h95]
        exact e103 _ _ h
  cases rule with
  | false =>
    have e := rightBy_one hB hN hb h10 (one := k) (by omega) (by omega)
    rw [if_neg (by decide), show (-1 : Int32) = iI (-1) from rfl, bnd_some e]
    exact e78
  | true =>
    rw [if_pos rfl]
    refine ok_ltk (fun k65 h65 => ?_)
    have e65 : ∀ z2 : Bool, b2i z2 = iI (oneC true k) → Ok (k65 z2 z) Q := by
      intro z2 hz2
      rw [h65]
      dsimp only
      refine ok_ltk (fun k75 h75 => ?_)
      have e75 : Ok (k75 (iI (twoC true k)) z) Q := by
        rw [h75]
        dsimp only
        have ho : 0 ≤ oneC true k ∧ oneC true k ≤ 2 := by unfold oneC; (repeat' split) <;> omega
        have ht : 0 ≤ twoC true k ∧ twoC true k ≤ 2 := by unfold twoC; (repeat' split) <;> omega
        have hne : oneC true k ≠ twoC true k := by unfold oneC twoC; rw [if_pos rfl, if_pos rfl]; (repeat' split) <;> omega
        rw [hz2, bnd_some (rightBy_two hB hN hb h10 ho.1 ho.2 ht.1 ht.2 hne)]
        exact e78
      by_cases hk0 : k = 0
      · subst hk0
        rw [if_pos (by decide)]
        exact e75
      · rw [if_neg (by rw [lt0, iI_eq (by omega) (by omega) (by omega) (by omega)]; omega)]
        have e : twoC true k = 2 := by unfold twoC; rw [if_pos rfl, if_neg hk0]
        rw [e] at e75
        exact e75
    by_cases hk2 : k = 2
    · subst hk2
      rw [if_pos (by decide)]
      exact e65 true rfl
    · rw [if_neg (by rw [show (2 : Int32) = iI 2 from rfl, iI_eq (by omega) (by omega) (by omega) (by omega)]; omega)]
      refine e65 false ?_
      unfold oneC
      rw [if_pos rfl, if_neg hk2]
      rfl
theorem best_op {B : Nat} {law : Option (List (Int × List Int))} {n mg wd tx bc : Int} {t : Mt} {m : Mem} (h : IV B law n mg wd tx bc t m) (rule many : Bool) : Both B (fun e => if e = 1 then 1 else 0) (F_T_best rule many) (F_M_best rule many) m := by
  obtain ⟨F, hF⟩ : ∃ F : Nat, F = 1000000 := ⟨_, rfl⟩
  obtain ⟨T, b, t1, t2, hB, hR⟩ := tape_b h.tp
  have hT := hB.1
  obtain ⟨mu, hmu⟩ : ∃ x, x = sI m 0 1 0 := ⟨_, rfl⟩
  have eu : F_T_useTape m = some (iI T, mu) := by
    unfold F_T_useTape
    rw [lt_def, lt_def, t1, hmu]
  have fu : Fr [] [(0, 1)] m mu := fr_T_useTape _ _ _ eu
  have hBu : BT mu b T := hB.cg (fun j => fu.gI (by simp) (by simp))
  obtain ⟨vT, hvT, eT1⟩ := tapeIsMorn_ok hBu
  have hu01 : gI mu 0 1 = iI 0 := by rw [hmu]; rfl
  by_cases hV : VM b T
  · rw [hvT.2 hV] at eT1
    obtain ⟨N, hN⟩ : ∃ N, T = 4 * N := ⟨T / 4, by have := hV.1; omega⟩
    have hb : ∀ i, i < T → b i < 4 := fun i hi => (hV.2 i hi).1
    have hl : ∀ k, bsR b N rule k ≤ 16 * N := fun k => TRn_le b _ _ N
    have l0 := hl 0
    have l1 := hl 1
    have l2 := hl 2
    obtain ⟨R0, hR0⟩ : ∃ x : Nat, x = bsR b N rule 0 := ⟨_, rfl⟩
    obtain ⟨R1, hR1⟩ : ∃ x : Nat, x = bsR b N rule 1 := ⟨_, rfl⟩
    obtain ⟨R2, hR2⟩ : ∃ x : Nat, x = bsR b N rule 2 := ⟨_, rfl⟩
    rw [← hR0] at l0
    rw [← hR1] at l1
    rw [← hR2] at l2
    obtain ⟨fd, hfd⟩ : ∃ x : Int, x = if (R2 : Int) ≤ (if (R1 : Int) ≤ R0 then (R0 : Int) else R1) then (if (R1 : Int) ≤ R0 then 0 else 1) else 2 := ⟨_, rfl⟩
    obtain ⟨mo, hmo⟩ : ∃ x : Int, x = if (R2 : Int) ≤ (if (R1 : Int) ≤ R0 then (R0 : Int) else R1) then (if (R1 : Int) ≤ R0 then (R0 : Int) else R1) else R2 := ⟨_, rfl⟩
    obtain ⟨rs, hrs⟩ : ∃ x : Int32, x = if many = true then iI mo else iI fd := ⟨_, rfl⟩
    have eT : Ok (F_T_best rule many m) (fun r m1 => r = .inr rs ∧ gI m1 0 1 = iI 0) := by
      unfold F_T_best
      rw [← hF, bnd_some eu, bnd_some eT1, if_pos rfl]
      refine ok_ltk (fun kk hkk => ?_)
      obtain ⟨F', rfl⟩ : ∃ x, F = x + 1 + 1 + 1 + 1 := ⟨999996, by omega⟩
      rw [show (0 : Int32) = iI ((0 : Nat) : Int) from rfl, show (-1 : Int32) = iI (-1) from rfl]
      refine Tbest_step hN hb rule kk _ (k := 0) (f := ((0 : Nat) : Int)) (mo := -1) (by omega) (by omega) (by omega) hBu (fun z1 hB1 f1 => ?_)
      rw [← hR0, if_neg (by omega), if_neg (by omega)]
      refine Tbest_step hN hb rule kk _ (k := 1) (by omega) (by omega) (by omega) hB1 (fun z2 hB2 f2 => ?_)
      rw [← hR1]
      refine Tbest_step hN hb rule kk _ (k := 2) (by omega) (by split <;> omega) (by split <;> omega) hB2 (fun z3 hB3 f3 => ?_)
      have h31 : gI z3 0 1 = iI 0 := by rw [f3.gI (by simp) (by simp), f2.gI (by simp) (by simp), f1.gI (by simp) (by simp), hu01]
      rw [← hR2, F_T_best_L33, if_pos (by decide), hkk]
      dsimp only
      cases many with
      | true =>
        rw [if_pos rfl]
        refine ok_some ⟨?_, h31⟩
        rw [hrs, if_pos rfl, hmo]
      | false =>
        rw [if_neg (by decide)]
        refine ok_some ⟨?_, h31⟩
        rw [hrs, if_neg (show ¬ false = true by decide), hfd]
        rfl
    obtain ⟨_, m1, eT, rfl, hm01⟩ := eT
    have fT := fr_T_best _ _ _ _ _ eT
    obtain ⟨vM, mr, hvM, eM1, h10, h8, h0, hRr, fr1⟩ := readSigns_ok (m := m1) (b := b) (T := T) (hR.cg (fun j => (fT.gI (by simp) (by simp)))) ((fT.gI (by simp) (by simp)).trans t2)
    rw [hvM.2 hV] at eM1
    have eM : Ok (F_M_best rule many m1) (fun r m2 => r = rs ∧ m2 = mr) := by
      unfold F_M_best
      rw [← hF, bnd_some eM1, lt_def, if_pos rfl]
      dsimp only
      rw [bnd_some throwsIf_f, if_neg (by decide)]
      refine ok_ltk (fun kk hkk => ?_)
      obtain ⟨F', rfl⟩ : ∃ x, F = x + 1 + 1 + 1 + 1 := ⟨999996, by omega⟩
      rw [show (0 : Int32) = iI ((0 : Nat) : Int) from rfl, show (-1 : Int32) = iI (-1) from rfl]
      refine Mbest_step hN hb rule kk _ (k := 0) (f := -1) (mo := ((0 : Nat) : Int)) (by omega) (by omega) (by omega) (by omega) (by omega) hRr h10 ?_
      rw [← hR0, if_neg (by omega), if_neg (by omega)]
      refine Mbest_step hN hb rule kk _ (k := 1) (by omega) (by omega) (by omega) (by omega) (by omega) hRr h10 ?_
      rw [← hR1]
      have c1 : ∀ x y : Int, (if 0 ≤ ((0 : Nat) : Int) ∧ (R1 : Int) ≤ (R0 : Int) then x else y) = if (R1 : Int) ≤ R0 then x else y := by
        intro x y
        by_cases q : (R1 : Int) ≤ R0
        · rw [if_pos q, if_pos ⟨by omega, q⟩]
        · rw [if_neg q, if_neg (fun w => q w.2)]
      rw [c1, c1]
      refine Mbest_step hN hb rule kk _ (k := 2) (by omega) (by split <;> omega) (by split <;> omega) (by split <;> omega) (by split <;> omega) hRr h10 ?_
      rw [← hR2]
      have c2 : ∀ x y : Int, (if 0 ≤ (if (R1 : Int) ≤ R0 then ((0 : Nat) : Int) else ((1 : Nat) : Int)) ∧ (R2 : Int) ≤ (if (R1 : Int) ≤ R0 then (R0 : Int) else R1) then x else y) = if (R2 : Int) ≤ (if (R1 : Int) ≤ R0 then (R0 : Int) else R1) then x else y := by
        intro x y
        by_cases q : (R2 : Int) ≤ (if (R1 : Int) ≤ R0 then (R0 : Int) else R1)
        · rw [if_pos q, if_pos ⟨by split <;> omega, q⟩]
        · rw [if_neg q, if_neg (fun w => q w.2)]
      rw [c2, c2, F_M_best_L33, if_pos (by decide), hkk]
      dsimp only
      cases many with
      | true =>
        rw [if_pos rfl]
        refine ok_some ⟨?_, rfl⟩
        rw [hrs, if_pos rfl, hmo]
      | false =>
        rw [if_neg (by decide)]
        refine ok_some ⟨?_, rfl⟩
        rw [hrs, if_neg (show ¬ false = true by decide), hfd]
        rfl
    obtain ⟨_, m2, eM, rfl, rfl⟩ := eM
    refine ok_e eT (ok_e eM ⟨⟨h0, rfl⟩, (h.use0 (Fr_tr (Fr_wk fT (by decide) (by decide)) fr1 (by decide) (by decide)) ?_ h8).inv⟩)
    rw [fr1.gI (by simp) (by simp)]
    exact hm01
  · have eT : F_T_best rule many m = some (.inl 1, mu) := by
      unfold F_T_best
      rw [bnd_some eu, bnd_some eT1]
      cases vT with
      | false => rw [if_neg (by decide)]
      | true => exact absurd (hvT.1 rfl) hV
    obtain ⟨vM, mr, hvM, eM1, h10, h8, h0, hRr, fr1⟩ := readSigns_ok (m := mu) (b := b) (T := T) (hR.cg (fun j => (fu.gI (by simp) (by simp)))) ((fu.gI (by simp) (by simp)).trans t2)
    have eM : F_M_best rule many mu = some (iI 0, sI mr 78 0 1) := by
      unfold F_M_best
      rw [bnd_some eM1, lt_def]
      cases vM with
      | false =>
        rw [if_neg (by decide)]
        dsimp only
        rw [bnd_some throwsIf_t, if_pos rfl]
        rfl
      | true => exact absurd (hvM.1 rfl) hV
    refine ok_e eT (ok_e eM ⟨ans_l (by decide) rfl, (h.use0 (Fr_sI rfl (Fr_tr (Fr_wk fu (by decide) (by decide)) fr1 (by decide) (by decide)) (by decide)) ?_ ?_).inv⟩)
    · rw [gI_sI, if_neg (fun q => absurd q.1 (by decide)), fr1.gI (by simp) (by simp), hu01]
    · rw [gI_sI, if_neg (fun q => absurd q.2 (by decide)), h8]
end SIGNSC
