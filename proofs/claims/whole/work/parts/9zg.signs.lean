section SIGNS
def VM (b : Nat → Int) (T : Nat) : Prop := T % 4 = 0 ∧ ∀ i, i < T → b i < 4 ∧ (i % 4 = 3 → b i ≤ 1)
theorem mod4_eq {k : Nat} (h : k ≤ 1000) : (iI k - iI k / (4 : Int32) * (4 : Int32)) = iI ((k % 4 : Nat) : Int) := by
  rw [lt4, iI_divn (by omega) (by omega) (by omega) (by omega), iI_mul, iI_sub]
  congr 1
  omega
theorem tapeIsMorn_ok {m : Mem} {b : Nat → Int} {T : Nat} (h : BT m b T) : ∃ v : Bool, (v = true ↔ VM b T) ∧ F_T_tapeIsMornings (iI T) m = some (v, m) := by
  have hT := h.1
  unfold F_T_tapeIsMornings
  rw [mod4_eq (by omega)]
  by_cases h4 : T % 4 = 0
  · rw [if_pos (by rw [h4]; rfl), bnd_some (tapeIsBelow_eq h)]
    by_cases hb : ∀ i, i < T → b i < 4
    · rw [decide_eq_true hb, if_pos rfl]
      have up : ∀ (d k nf : Nat), 4 * k + 4 * d = T → d < nf → (∀ i, i < 4 * k → i % 4 = 3 → b i ≤ 1) → ∃ v : Bool, (v = true ↔ VM b T) ∧ F_T_tapeIsMornings_L19 (iI T) nf (iI (4 * k + 3 : Nat)) m = some (v, m) := by
        intro d
        induction d with
        | zero =>
          intro k nf hk hnf hq
          obtain ⟨nf, rfl⟩ : ∃ x, nf = x + 1 := ⟨nf - 1, by omega⟩
          refine ⟨true, ⟨fun _ => ⟨h4, fun i hi => ⟨hb i hi, fun hm => hq i (by omega) hm⟩⟩, fun _ => rfl⟩, ?_⟩
          rw [F_T_tapeIsMornings_L19, if_pos (by simp (disch := omega) only [↓lt_def, ↓reduceIte, ckB_true, bnd_e, Int.reduceAdd, Int.reduceSub, Int.reduceMul, Int.reduceNeg, Int.reduceToNat, Bool.false_eq_true, eq_self, not_false_eq_true, not_true_eq_false, Int.toNat_natCast, lt0, lt1, lt2, lt3, lt4, lt5, lt6, lt7, lt8, lt9, lt10, lt11, lt12, lt13, lt14, lt15, lt16, lt17, lt18, lt19, lt20, lt21, lt22, lt23, lt24, lt25, lt26, lt27, lt28, lt29, lt30, lt31, lt32, lt40, lt41, lt43, lt48, lt55, lt57, lt59, lt60, lt62, lt63, lt64, lt70, lt72, lt81, lt97, lt99, lt100, lt122, lt162, lt180, lt235, lt255, lt298, lt299, lt325, lt335, lt400, lt837, lt999, lt1000, lt1001, lt1002, lt1003, lt1004, lt1005, lt1006, lt1007, lt1008, lt1100, lt1101, lt1102, lt1103, lt1104, lt1105, lt1135, lt1136, lt1172, lt2000, lt3278, lt3575, lt10000, lt12345, lt21450, lt32767, lt193050, lt1103515245, ltm162, ltm99, ltm81, ltm8, ltm1, iI_add, iI_sub, iI_mul, iI_neg, iI_divn, iI_lt_t, iI_lt_f, iI_le_t, iI_le_f, iI_eq_t, iI_eq_f, iI_lt, iI_le, iI_eq, iI_idx, iI_inb, gI_sI, gL_sL, gZ_sZ, gI_sL, gI_sZ, gL_sI, gL_sZ, gZ_sI, gZ_sL])]
        | succ d ih =>
          intro k nf hk hnf hq
          obtain ⟨nf, rfl⟩ : ∃ x, nf = x + 1 := ⟨nf - 1, by omega⟩
          obtain ⟨e1, e2, e3⟩ := h.2 (4 * k + 3) (by omega)
          rw [F_T_tapeIsMornings_L19, if_neg (by simp (disch := omega) only [↓lt_def, ↓reduceIte, ckB_true, bnd_e, Int.reduceAdd, Int.reduceSub, Int.reduceMul, Int.reduceNeg, Int.reduceToNat, Bool.false_eq_true, eq_self, not_false_eq_true, not_true_eq_false, Int.toNat_natCast, lt0, lt1, lt2, lt3, lt4, lt5, lt6, lt7, lt8, lt9, lt10, lt11, lt12, lt13, lt14, lt15, lt16, lt17, lt18, lt19, lt20, lt21, lt22, lt23, lt24, lt25, lt26, lt27, lt28, lt29, lt30, lt31, lt32, lt40, lt41, lt43, lt48, lt55, lt57, lt59, lt60, lt62, lt63, lt64, lt70, lt72, lt81, lt97, lt99, lt100, lt122, lt162, lt180, lt235, lt255, lt298, lt299, lt325, lt335, lt400, lt837, lt999, lt1000, lt1001, lt1002, lt1003, lt1004, lt1005, lt1006, lt1007, lt1008, lt1100, lt1101, lt1102, lt1103, lt1104, lt1105, lt1135, lt1136, lt1172, lt2000, lt3278, lt3575, lt10000, lt12345, lt21450, lt32767, lt193050, lt1103515245, ltm162, ltm99, ltm81, ltm8, ltm1, iI_add, iI_sub, iI_mul, iI_neg, iI_divn, iI_lt_t, iI_lt_f, iI_le_t, iI_le_f, iI_eq_t, iI_eq_f, iI_lt, iI_le, iI_eq, iI_idx, iI_inb, gI_sI, gL_sL, gZ_sZ, gI_sL, gI_sZ, gL_sI, gL_sZ, gZ_sI, gZ_sL]), if_neg (by simp (disch := omega) only [↓lt_def, ↓reduceIte, ckB_true, bnd_e, Int.reduceAdd, Int.reduceSub, Int.reduceMul, Int.reduceNeg, Int.reduceToNat, Bool.false_eq_true, eq_self, not_false_eq_true, not_true_eq_false, Int.toNat_natCast, lt0, lt1, lt2, lt3, lt4, lt5, lt6, lt7, lt8, lt9, lt10, lt11, lt12, lt13, lt14, lt15, lt16, lt17, lt18, lt19, lt20, lt21, lt22, lt23, lt24, lt25, lt26, lt27, lt28, lt29, lt30, lt31, lt32, lt40, lt41, lt43, lt48, lt55, lt57, lt59, lt60, lt62, lt63, lt64, lt70, lt72, lt81, lt97, lt99, lt100, lt122, lt162, lt180, lt235, lt255, lt298, lt299, lt325, lt335, lt400, lt837, lt999, lt1000, lt1001, lt1002, lt1003, lt1004, lt1005, lt1006, lt1007, lt1008, lt1100, lt1101, lt1102, lt1103, lt1104, lt1105, lt1135, lt1136, lt1172, lt2000, lt3278, lt3575, lt10000, lt12345, lt21450, lt32767, lt193050, lt1103515245, ltm162, ltm99, ltm81, ltm8, ltm1, iI_add, iI_sub, iI_mul, iI_neg, iI_divn, iI_lt_t, iI_lt_f, iI_le_t, iI_le_f, iI_eq_t, iI_eq_f, iI_lt, iI_le, iI_eq, iI_idx, iI_inb, gI_sI, gL_sL, gZ_sZ, gI_sL, gI_sZ, gL_sI, gL_sZ, gZ_sI, gZ_sL]), ckB_t (iI_inb (by omega) (by omega) (by omega)), lt_def, iI_idx (by omega) (by omega), Int.toNat_natCast, e1]
          by_cases h1 : b (4 * k + 3) ≤ 1
          · rw [if_pos (by simp (disch := omega) only [↓lt_def, ↓reduceIte, ckB_true, bnd_e, Int.reduceAdd, Int.reduceSub, Int.reduceMul, Int.reduceNeg, Int.reduceToNat, Bool.false_eq_true, eq_self, not_false_eq_true, not_true_eq_false, Int.toNat_natCast, lt0, lt1, lt2, lt3, lt4, lt5, lt6, lt7, lt8, lt9, lt10, lt11, lt12, lt13, lt14, lt15, lt16, lt17, lt18, lt19, lt20, lt21, lt22, lt23, lt24, lt25, lt26, lt27, lt28, lt29, lt30, lt31, lt32, lt40, lt41, lt43, lt48, lt55, lt57, lt59, lt60, lt62, lt63, lt64, lt70, lt72, lt81, lt97, lt99, lt100, lt122, lt162, lt180, lt235, lt255, lt298, lt299, lt325, lt335, lt400, lt837, lt999, lt1000, lt1001, lt1002, lt1003, lt1004, lt1005, lt1006, lt1007, lt1008, lt1100, lt1101, lt1102, lt1103, lt1104, lt1105, lt1135, lt1136, lt1172, lt2000, lt3278, lt3575, lt10000, lt12345, lt21450, lt32767, lt193050, lt1103515245, ltm162, ltm99, ltm81, ltm8, ltm1, iI_add, iI_sub, iI_mul, iI_neg, iI_divn, iI_lt_t, iI_lt_f, iI_le_t, iI_le_f, iI_eq_t, iI_eq_f, iI_lt, iI_le, iI_eq, iI_idx, iI_inb, gI_sI, gL_sL, gZ_sZ, gI_sL, gI_sZ, gL_sI, gL_sZ, gZ_sI, gZ_sL]), lt_def, lt4, iI_add, show (((4 * k + 3 : Nat) : Int) + 4) = ((4 * (k + 1) + 3 : Nat) : Int) by omega]
            refine ih (k + 1) nf (by omega) (by omega) (fun i hi hm => ?_)
            by_cases hik : i = 4 * k + 3
            · rw [hik]; exact h1
            · exact hq i (by omega) hm
          · refine ⟨false, ⟨fun q => Bool.noConfusion q, fun q => absurd ((q.2 (4 * k + 3) (by omega)).2 (by omega)) h1⟩, ?_⟩
            rw [if_neg (by simp (disch := omega) only [↓lt_def, ↓reduceIte, ckB_true, bnd_e, Int.reduceAdd, Int.reduceSub, Int.reduceMul, Int.reduceNeg, Int.reduceToNat, Bool.false_eq_true, eq_self, not_false_eq_true, not_true_eq_false, Int.toNat_natCast, lt0, lt1, lt2, lt3, lt4, lt5, lt6, lt7, lt8, lt9, lt10, lt11, lt12, lt13, lt14, lt15, lt16, lt17, lt18, lt19, lt20, lt21, lt22, lt23, lt24, lt25, lt26, lt27, lt28, lt29, lt30, lt31, lt32, lt40, lt41, lt43, lt48, lt55, lt57, lt59, lt60, lt62, lt63, lt64, lt70, lt72, lt81, lt97, lt99, lt100, lt122, lt162, lt180, lt235, lt255, lt298, lt299, lt325, lt335, lt400, lt837, lt999, lt1000, lt1001, lt1002, lt1003, lt1004, lt1005, lt1006, lt1007, lt1008, lt1100, lt1101, lt1102, lt1103, lt1104, lt1105, lt1135, lt1136, lt1172, lt2000, lt3278, lt3575, lt10000, lt12345, lt21450, lt32767, lt193050, lt1103515245, ltm162, ltm99, ltm81, ltm8, ltm1, iI_add, iI_sub, iI_mul, iI_neg, iI_divn, iI_lt_t, iI_lt_f, iI_le_t, iI_le_f, iI_eq_t, iI_eq_f, iI_lt, iI_le, iI_eq, iI_idx, iI_inb, gI_sI, gL_sL, gZ_sZ, gI_sL, gI_sZ, gL_sI, gL_sZ, gZ_sI, gZ_sL])]
      obtain ⟨N, hN⟩ : ∃ N : Nat, N = 1000000 := ⟨_, rfl⟩
      rw [← hN]
      exact up (T / 4) 0 N (by omega) (by omega) (fun i hi => by omega)
    · rw [decide_eq_false hb, if_neg (by decide)]
      exact ⟨false, ⟨fun q => Bool.noConfusion q, fun q => absurd (fun i hi => (q.2 i hi).1) hb⟩, rfl⟩
  · rw [if_neg (by rw [lt0, iI_eq (by omega) (by omega) (by omega) (by omega)]; omega)]
    exact ⟨false, ⟨fun q => Bool.noConfusion q, fun q => absurd q.1 h4⟩, rfl⟩
/-- the reference behind its tape being used -/
theorem readSigns_ok {m : Mem} {b : Nat → Int} {T : Nat} (h : RT m b T) (h8 : gI m 78 8 = iI T) : ∃ (v : Bool) (m' : Mem), (v = true ↔ VM b T) ∧ F_M_readSigns m = some (v, m') ∧ gI m' 78 10 = iI T ∧ gI m' 78 8 = iI 0 ∧ gI m' 78 0 = iI 0 ∧ RT m' b T ∧ Fr [] [(78, 0), (78, 8), (78, 9), (78, 10)] m m' := by
  have hT := h.1
  obtain ⟨mr, hmr⟩ : ∃ x, x = sI (sI (sI (sI m 78 0 0) 78 10 (iI T)) 78 8 0) 78 9 0 := ⟨_, rfl⟩
  have er : F_M_uses m = some ((), mr) := by
    unfold F_M_uses
    rw [lt_def, lt_def, lt_def, lt_def, gI_sI, if_neg (fun q => absurd q.2 (by decide)), h8, hmr]
  have fr1 := fr_M_uses _ _ _ er
  have hR : RT mr b T := h.cg (fun j => fr1.gI (by simp) (by simp))
  have h10 : gI mr 78 10 = iI T := by rw [hmr]; rfl
  have up : ∀ (d k nf : Nat) (is : Bool), k + d = T → d < nf → ∃ v : Bool, (v = true ↔ (is = true ∧ ∀ i, k ≤ i → i < T → b i < 4 ∧ (i % 4 = 3 → b i ≤ 1))) ∧ F_M_readSigns_L21 nf is (iI k) mr = some (v, mr) := by
    intro d
    induction d with
    | zero =>
      intro k nf is hk hnf
      obtain ⟨nf, rfl⟩ : ∃ x, nf = x + 1 := ⟨nf - 1, by omega⟩
      refine ⟨is, ⟨fun q => ⟨q, fun i h1 h2 => by omega⟩, fun q => q.1⟩, ?_⟩
      rw [F_M_readSigns_L21, if_pos (by rw [h10]; simp (disch := omega) only [↓lt_def, ↓reduceIte, ckB_true, bnd_e, Int.reduceAdd, Int.reduceSub, Int.reduceMul, Int.reduceNeg, Int.reduceToNat, Bool.false_eq_true, eq_self, not_false_eq_true, not_true_eq_false, Int.toNat_natCast, lt0, lt1, lt2, lt3, lt4, lt5, lt6, lt7, lt8, lt9, lt10, lt11, lt12, lt13, lt14, lt15, lt16, lt17, lt18, lt19, lt20, lt21, lt22, lt23, lt24, lt25, lt26, lt27, lt28, lt29, lt30, lt31, lt32, lt40, lt41, lt43, lt48, lt55, lt57, lt59, lt60, lt62, lt63, lt64, lt70, lt72, lt81, lt97, lt99, lt100, lt122, lt162, lt180, lt235, lt255, lt298, lt299, lt325, lt335, lt400, lt837, lt999, lt1000, lt1001, lt1002, lt1003, lt1004, lt1005, lt1006, lt1007, lt1008, lt1100, lt1101, lt1102, lt1103, lt1104, lt1105, lt1135, lt1136, lt1172, lt2000, lt3278, lt3575, lt10000, lt12345, lt21450, lt32767, lt193050, lt1103515245, ltm162, ltm99, ltm81, ltm8, ltm1, iI_add, iI_sub, iI_mul, iI_neg, iI_divn, iI_lt_t, iI_lt_f, iI_le_t, iI_le_f, iI_eq_t, iI_eq_f, iI_lt, iI_le, iI_eq, iI_idx, iI_inb, gI_sI, gL_sL, gZ_sZ, gI_sL, gI_sZ, gL_sI, gL_sZ, gZ_sI, gZ_sL])]
    | succ d ih =>
      intro k nf is hk hnf
      obtain ⟨nf, rfl⟩ : ∃ x, nf = x + 1 := ⟨nf - 1, by omega⟩
      rw [F_M_readSigns_L21, if_neg (by rw [h10]; simp (disch := omega) only [↓lt_def, ↓reduceIte, ckB_true, bnd_e, Int.reduceAdd, Int.reduceSub, Int.reduceMul, Int.reduceNeg, Int.reduceToNat, Bool.false_eq_true, eq_self, not_false_eq_true, not_true_eq_false, Int.toNat_natCast, lt0, lt1, lt2, lt3, lt4, lt5, lt6, lt7, lt8, lt9, lt10, lt11, lt12, lt13, lt14, lt15, lt16, lt17, lt18, lt19, lt20, lt21, lt22, lt23, lt24, lt25, lt26, lt27, lt28, lt29, lt30, lt31, lt32, lt40, lt41, lt43, lt48, lt55, lt57, lt59, lt60, lt62, lt63, lt64, lt70, lt72, lt81, lt97, lt99, lt100, lt122, lt162, lt180, lt235, lt255, lt298, lt299, lt325, lt335, lt400, lt837, lt999, lt1000, lt1001, lt1002, lt1003, lt1004, lt1005, lt1006, lt1007, lt1008, lt1100, lt1101, lt1102, lt1103, lt1104, lt1105, lt1135, lt1136, lt1172, lt2000, lt3278, lt3575, lt10000, lt12345, lt21450, lt32767, lt193050, lt1103515245, ltm162, ltm99, ltm81, ltm8, ltm1, iI_add, iI_sub, iI_mul, iI_neg, iI_divn, iI_lt_t, iI_lt_f, iI_le_t, iI_le_f, iI_eq_t, iI_eq_f, iI_lt, iI_le, iI_eq, iI_idx, iI_inb, gI_sI, gL_sL, gZ_sZ, gI_sL, gI_sZ, gL_sI, gL_sZ, gZ_sI, gZ_sL]), lt_def, lt_def]
      cases is with
      | false =>
        obtain ⟨v, hv, e⟩ := ih (k + 1) nf false (by omega) (by omega)
        refine ⟨v, ⟨fun q => absurd (hv.1 q).1 (by decide), fun q => absurd q.1 (by decide)⟩, ?_⟩
        rw [if_neg (by decide)]
        dsimp only
        rw [lt_def, lt1, iI_add]
        exact e
      | true =>
        obtain ⟨e1, e2, e3⟩ := hR.2 k (by omega)
        have hr := sb_rng e2 e3
        have hs : sb (b k) ≤ 3 ∧ 0 ≤ sb (b k) ↔ b k < 4 := by unfold sb; split <;> omega
        have hs1 : sb (b k) ≤ 1 ∧ 0 ≤ sb (b k) ↔ b k < 2 := by unfold sb; split <;> omega
        rw [if_pos rfl, ckB_t (iI_inb (by omega) (by omega) (by omega)), lt_def, iI_idx (by omega) (by omega), Int.toNat_natCast, e1, lt_def, mod4_eq (by omega)]
        have fin : ∀ c : Int, (c = 1 ∨ c = 3) → (c = 1 ↔ k % 4 = 3) → ∃ v : Bool, (v = true ↔ (true = true ∧ ∀ i, k ≤ i → i < T → b i < 4 ∧ (i % 4 = 3 → b i ≤ 1))) ∧ (bnd (F_M_in (iI (sb (b k))) (0 : Int32) (iI c) mr) fun zq22 mq20 => if zq22 = true then lt (iI k + (1 : Int32)) fun xq14 => F_M_readSigns_L21 nf true xq14 mq20 else lt (iI k + (1 : Int32)) fun xq14 => F_M_readSigns_L21 nf false xq14 mq20) = some (v, mr) := by
          intro c hc hc2
          rw [lt0, bnd_some (in_eq (by omega) (by omega) (by omega) (by omega) (by omega) (by omega))]
          by_cases hin : 0 ≤ sb (b k) ∧ sb (b k) ≤ c
          · obtain ⟨v, hv, e⟩ := ih (k + 1) nf true (by omega) (by omega)
            refine ⟨v, ?_, ?_⟩
            · rw [hv]
              constructor
              · rintro ⟨-, q⟩
                refine ⟨rfl, fun i h1 h2 => ?_⟩
                by_cases hik : i = k
                · subst hik
                  exact ⟨by omega, fun hm => by omega⟩
                · exact q i (by omega) h2
              · rintro ⟨-, q⟩
                exact ⟨rfl, fun i h1 h2 => q i (by omega) h2⟩
            · rw [decide_eq_true hin, if_pos rfl, lt_def, lt1, iI_add]
              exact e
          · obtain ⟨v, hv, e⟩ := ih (k + 1) nf false (by omega) (by omega)
            refine ⟨v, ⟨fun q => absurd (hv.1 q).1 (by decide), fun q => ?_⟩, ?_⟩
            · have := q.2 k (by omega) (by omega)
              exfalso
              omega
            · rw [decide_eq_false hin, if_neg (by decide), lt_def, lt1, iI_add]
              exact e
        by_cases h3 : k % 4 = 3
        · rw [if_pos (by rw [h3]; rfl)]
          exact fin 1 (Or.inl rfl) ⟨fun _ => h3, fun _ => rfl⟩
        · rw [if_neg (by rw [lt3, iI_eq (by omega) (by omega) (by omega) (by omega)]; omega)]
          exact fin 3 (Or.inr rfl) ⟨fun q => absurd q (by decide), fun q => absurd q h3⟩
  obtain ⟨N, hN⟩ : ∃ N : Nat, N = 1000000 := ⟨_, rfl⟩
  obtain ⟨v, hv, e⟩ := up T 0 N (decide (T % 4 = 0)) (by omega) (by omega)
  refine ⟨v, mr, ?_, ?_, h10, by rw [hmr]; rfl, by rw [hmr]; rfl, hR, fr1⟩
  · rw [hv, decide_eq_true_eq]
    exact ⟨fun q => ⟨q.1, fun i hi => q.2 i (by omega) hi⟩, fun q => ⟨q.1, fun i _ hi => q.2 i hi⟩⟩
  · unfold F_M_readSigns
    rw [← hN, bnd_some er, lt_def, lt_def, h10, mod4_eq (by omega)]
    by_cases h4 : T % 4 = 0
    · rw [decide_eq_true h4] at e
      rw [if_pos (by rw [h4]; rfl)]
      exact e
    · rw [decide_eq_false h4] at e
      rw [if_neg (by rw [lt0, iI_eq (by omega) (by omega) (by omega) (by omega)]; omega)]
      exact e
/-- how many of the first ones are so -/
def cn (P : Nat → Bool) : Nat → Nat
  | 0 => 0
  | k + 1 => cn P k + (if P k = true then 1 else 0)
theorem cn_s (P : Nat → Bool) (k : Nat) : cn P (k + 1) = cn P k + (if P k = true then 1 else 0) := rfl
theorem cn_le (P : Nat → Bool) : ∀ k, cn P k ≤ k
  | 0 => Nat.le_refl _
  | k + 1 => by
    have := cn_le P k
    rw [cn_s]
    split <;> omega
theorem cn_split (A C : Nat → Bool) : ∀ k, cn (fun i => A i && C i) k + cn (fun i => A i && !C i) k = cn A k
  | 0 => rfl
  | k + 1 => by
    have := cn_split A C k
    rw [cn_s, cn_s, cn_s]
    cases A k <;> cases C k <;> simp <;> omega
theorem cn_cg {P Q : Nat → Bool} : ∀ {k : Nat}, (∀ i, i < k → P i = Q i) → cn P k = cn Q k
  | 0, _ => rfl
  | k + 1, h => by rw [cn_s, cn_s, cn_cg (fun i hi => h i (by omega)), h k (by omega)]
theorem cn_none {P : Nat → Bool} : ∀ {k : Nat}, (∀ i, i < k → P i = false) → cn P k = 0
  | 0, _ => rfl
  | k + 1, h => by rw [cn_s, cn_none (fun i hi => h i (by omega)), h k (by omega)]; rfl
/-- a morning's place by two signs, by one if they are the same -/
def vlM (b : Nat → Int) (one two : Int) (i : Nat) : Int := b (4 * i + one.toNat) + (if one = two then 0 else 4 * b (4 * i + two.toNat))
def keyM (b : Nat → Int) (one two x : Int) (i : Nat) : Bool := decide (vlM b one two i = x)
def swgM (b : Nat → Int) (i : Nat) : Bool := decide (b (4 * i + 3) = 1)
def swM (b : Nat → Int) (one two x : Int) (N : Nat) : Nat := cn (fun i => keyM b one two x i && swgM b i) N
def stM (b : Nat → Int) (one two x : Int) (N : Nat) : Nat := cn (fun i => keyM b one two x i && !swgM b i) N
theorem signAt_eq {m : Mem} {b : Nat → Int} {T : Nat} (h : BT m b T) {i : Nat} {s : Int} (s0 : 0 ≤ s) (s2 : s ≤ 2) (hi : 4 * i + 3 < T) : F_Mo_signAt (iI (4 * i : Nat)) (iI s) m = some (iI (b (4 * i + s.toNat)), m) := by
  have hT := h.1
  unfold F_Mo_signAt
  rw [iI_add, lt_def, if_neg (by simp (disch := omega) only [↓lt_def, ↓reduceIte, ckB_true, bnd_e, Int.reduceAdd, Int.reduceSub, Int.reduceMul, Int.reduceNeg, Int.reduceToNat, Bool.false_eq_true, eq_self, not_false_eq_true, not_true_eq_false, Int.toNat_natCast, lt0, lt1, lt2, lt3, lt4, lt5, lt6, lt7, lt8, lt9, lt10, lt11, lt12, lt13, lt14, lt15, lt16, lt17, lt18, lt19, lt20, lt21, lt22, lt23, lt24, lt25, lt26, lt27, lt28, lt29, lt30, lt31, lt32, lt40, lt41, lt43, lt48, lt55, lt57, lt59, lt60, lt62, lt63, lt64, lt70, lt72, lt81, lt97, lt99, lt100, lt122, lt162, lt180, lt235, lt255, lt298, lt299, lt325, lt335, lt400, lt837, lt999, lt1000, lt1001, lt1002, lt1003, lt1004, lt1005, lt1006, lt1007, lt1008, lt1100, lt1101, lt1102, lt1103, lt1104, lt1105, lt1135, lt1136, lt1172, lt2000, lt3278, lt3575, lt10000, lt12345, lt21450, lt32767, lt193050, lt1103515245, ltm162, ltm99, ltm81, ltm8, ltm1, iI_add, iI_sub, iI_mul, iI_neg, iI_divn, iI_lt_t, iI_lt_f, iI_le_t, iI_le_f, iI_eq_t, iI_eq_f, iI_lt, iI_le, iI_eq, iI_idx, iI_inb, gI_sI, gL_sL, gZ_sZ, gI_sL, gI_sZ, gL_sI, gL_sZ, gZ_sI, gZ_sL]), if_pos (by simp (disch := omega) only [↓lt_def, ↓reduceIte, ckB_true, bnd_e, Int.reduceAdd, Int.reduceSub, Int.reduceMul, Int.reduceNeg, Int.reduceToNat, Bool.false_eq_true, eq_self, not_false_eq_true, not_true_eq_false, Int.toNat_natCast, lt0, lt1, lt2, lt3, lt4, lt5, lt6, lt7, lt8, lt9, lt10, lt11, lt12, lt13, lt14, lt15, lt16, lt17, lt18, lt19, lt20, lt21, lt22, lt23, lt24, lt25, lt26, lt27, lt28, lt29, lt30, lt31, lt32, lt40, lt41, lt43, lt48, lt55, lt57, lt59, lt60, lt62, lt63, lt64, lt70, lt72, lt81, lt97, lt99, lt100, lt122, lt162, lt180, lt235, lt255, lt298, lt299, lt325, lt335, lt400, lt837, lt999, lt1000, lt1001, lt1002, lt1003, lt1004, lt1005, lt1006, lt1007, lt1008, lt1100, lt1101, lt1102, lt1103, lt1104, lt1105, lt1135, lt1136, lt1172, lt2000, lt3278, lt3575, lt10000, lt12345, lt21450, lt32767, lt193050, lt1103515245, ltm162, ltm99, ltm81, ltm8, ltm1, iI_add, iI_sub, iI_mul, iI_neg, iI_divn, iI_lt_t, iI_lt_f, iI_le_t, iI_le_f, iI_eq_t, iI_eq_f, iI_lt, iI_le, iI_eq, iI_idx, iI_inb, gI_sI, gL_sL, gZ_sZ, gI_sL, gI_sZ, gL_sI, gL_sZ, gZ_sI, gZ_sL]), ckB_t (iI_inb (by omega) (by omega) (by omega)), lt_def, iI_idx (by omega) (by omega), show (((4 * i : Nat) : Int) + s).toNat = 4 * i + s.toNat by omega, (h.2 _ (by omega)).1]
theorem b2i_d (c : Prop) [inst : Decidable c] (x : Nat) : iI x + b2i (decide c) = iI ((x + (if decide c = true then 1 else 0) : Nat) : Int) := b2i_add x (decide c)
theorem g2a (z : Mem) (y x : Nat) (A B : Int32) : gI (sI (sI z 62 y A) 63 y B) 62 x = if x = y then A else gI z 62 x := by
  show (if 62 = 63 ∧ x = y then B else if 62 = 62 ∧ x = y then A else gI z 62 x) = _
  simp
theorem g2b (z : Mem) (y x : Nat) (A B : Int32) : gI (sI (sI z 62 y A) 63 y B) 63 x = if x = y then B else gI z 63 x := by
  show (if 63 = 63 ∧ x = y then B else if 63 = 62 ∧ x = y then A else gI z 63 x) = _
  simp
/-- mornings are sorted -/
theorem sort_ok {m : Mem} {b : Nat → Int} {T N : Nat} (h : BT m b T) (hN : T = 4 * N) (hb : ∀ i, i < T → b i < 4) {one two : Int} (o0 : 0 ≤ one) (o2 : one ≤ 2) (t0 : 0 ≤ two) (t2 : two ≤ 2) : Ok (F_Mo_sort (iI T) (iI one) (iI two) m) (fun _ m' => (∀ x : Nat, x < 16 → gI m' 62 x = iI (swM b one two x N) ∧ gI m' 63 x = iI (stM b one two x N)) ∧ Fr [62, 63] [] m m') := by
  have hT := h.1
  obtain ⟨F, hF⟩ : ∃ F : Nat, F = 1000000 := ⟨_, rfl⟩
  have up : ∀ (d i nf : Nat) (z : Mem), i + d = N → d < nf → (∀ x : Nat, x < 16 → gI z 62 x = iI (swM b one two x i) ∧ gI z 63 x = iI (stM b one two x i)) → Fr [62, 63] [] m z → Ok (F_Mo_sort_L35 (iI T) (iI one) (iI two) nf (iI (4 * i : Nat)) z) (fun _ z' => (∀ x : Nat, x < 16 → gI z' 62 x = iI (swM b one two x N) ∧ gI z' 63 x = iI (stM b one two x N)) ∧ Fr [62, 63] [] m z') := by
    intro d
    induction d with
    | zero =>
      intro i nf z hi hnf hx hf
      obtain ⟨nf, rfl⟩ : ∃ x, nf = x + 1 := ⟨nf - 1, by omega⟩
      have e : i = N := by omega
      subst e
      rw [F_Mo_sort_L35, if_pos (by rw [lt3, iI_add]; simp (disch := omega) only [↓lt_def, ↓reduceIte, ckB_true, bnd_e, Int.reduceAdd, Int.reduceSub, Int.reduceMul, Int.reduceNeg, Int.reduceToNat, Bool.false_eq_true, eq_self, not_false_eq_true, not_true_eq_false, Int.toNat_natCast, lt0, lt1, lt2, lt3, lt4, lt5, lt6, lt7, lt8, lt9, lt10, lt11, lt12, lt13, lt14, lt15, lt16, lt17, lt18, lt19, lt20, lt21, lt22, lt23, lt24, lt25, lt26, lt27, lt28, lt29, lt30, lt31, lt32, lt40, lt41, lt43, lt48, lt55, lt57, lt59, lt60, lt62, lt63, lt64, lt70, lt72, lt81, lt97, lt99, lt100, lt122, lt162, lt180, lt235, lt255, lt298, lt299, lt325, lt335, lt400, lt837, lt999, lt1000, lt1001, lt1002, lt1003, lt1004, lt1005, lt1006, lt1007, lt1008, lt1100, lt1101, lt1102, lt1103, lt1104, lt1105, lt1135, lt1136, lt1172, lt2000, lt3278, lt3575, lt10000, lt12345, lt21450, lt32767, lt193050, lt1103515245, ltm162, ltm99, ltm81, ltm8, ltm1, iI_add, iI_sub, iI_mul, iI_neg, iI_divn, iI_lt_t, iI_lt_f, iI_le_t, iI_le_f, iI_eq_t, iI_eq_f, iI_lt, iI_le, iI_eq, iI_idx, iI_inb, gI_sI, gL_sL, gZ_sZ, gI_sL, gI_sZ, gL_sI, gL_sZ, gZ_sI, gZ_sL])]
      exact ok_some ⟨hx, hf⟩
    | succ d ih =>
      intro i nf z hi hnf hx hf
      obtain ⟨nf, rfl⟩ : ∃ x, nf = x + 1 := ⟨nf - 1, by omega⟩
      have hz : BT z b T := h.cg (fun j => hf.gI (by simp) (by simp))
      have r1 := h.2 (4 * i + one.toNat) (by omega)
      have r2 := h.2 (4 * i + two.toNat) (by omega)
      have r3 := h.2 (4 * i + 3) (by omega)
      have r4 := hb (4 * i + one.toNat) (by omega)
      have r5 := hb (4 * i + two.toNat) (by omega)
      have g3 := hz.2 (4 * i + 3) (by omega)
      have hv : 0 ≤ vlM b one two i ∧ vlM b one two i < 16 := by unfold vlM; split <;> omega
      rw [F_Mo_sort_L35, if_neg (by rw [lt3, iI_add]; simp (disch := omega) only [↓lt_def, ↓reduceIte, ckB_true, bnd_e, Int.reduceAdd, Int.reduceSub, Int.reduceMul, Int.reduceNeg, Int.reduceToNat, Bool.false_eq_true, eq_self, not_false_eq_true, not_true_eq_false, Int.toNat_natCast, lt0, lt1, lt2, lt3, lt4, lt5, lt6, lt7, lt8, lt9, lt10, lt11, lt12, lt13, lt14, lt15, lt16, lt17, lt18, lt19, lt20, lt21, lt22, lt23, lt24, lt25, lt26, lt27, lt28, lt29, lt30, lt31, lt32, lt40, lt41, lt43, lt48, lt55, lt57, lt59, lt60, lt62, lt63, lt64, lt70, lt72, lt81, lt97, lt99, lt100, lt122, lt162, lt180, lt235, lt255, lt298, lt299, lt325, lt335, lt400, lt837, lt999, lt1000, lt1001, lt1002, lt1003, lt1004, lt1005, lt1006, lt1007, lt1008, lt1100, lt1101, lt1102, lt1103, lt1104, lt1105, lt1135, lt1136, lt1172, lt2000, lt3278, lt3575, lt10000, lt12345, lt21450, lt32767, lt193050, lt1103515245, ltm162, ltm99, ltm81, ltm8, ltm1, iI_add, iI_sub, iI_mul, iI_neg, iI_divn, iI_lt_t, iI_lt_f, iI_le_t, iI_le_f, iI_eq_t, iI_eq_f, iI_lt, iI_le, iI_eq, iI_idx, iI_inb, gI_sI, gL_sL, gZ_sZ, gI_sL, gI_sZ, gL_sI, gL_sZ, gZ_sI, gZ_sL]), if_neg (by rw [lt3, iI_add]; simp (disch := omega) only [↓lt_def, ↓reduceIte, ckB_true, bnd_e, Int.reduceAdd, Int.reduceSub, Int.reduceMul, Int.reduceNeg, Int.reduceToNat, Bool.false_eq_true, eq_self, not_false_eq_true, not_true_eq_false, Int.toNat_natCast, lt0, lt1, lt2, lt3, lt4, lt5, lt6, lt7, lt8, lt9, lt10, lt11, lt12, lt13, lt14, lt15, lt16, lt17, lt18, lt19, lt20, lt21, lt22, lt23, lt24, lt25, lt26, lt27, lt28, lt29, lt30, lt31, lt32, lt40, lt41, lt43, lt48, lt55, lt57, lt59, lt60, lt62, lt63, lt64, lt70, lt72, lt81, lt97, lt99, lt100, lt122, lt162, lt180, lt235, lt255, lt298, lt299, lt325, lt335, lt400, lt837, lt999, lt1000, lt1001, lt1002, lt1003, lt1004, lt1005, lt1006, lt1007, lt1008, lt1100, lt1101, lt1102, lt1103, lt1104, lt1105, lt1135, lt1136, lt1172, lt2000, lt3278, lt3575, lt10000, lt12345, lt21450, lt32767, lt193050, lt1103515245, ltm162, ltm99, ltm81, ltm8, ltm1, iI_add, iI_sub, iI_mul, iI_neg, iI_divn, iI_lt_t, iI_lt_f, iI_le_t, iI_le_f, iI_eq_t, iI_eq_f, iI_lt, iI_le, iI_eq, iI_idx, iI_inb, gI_sI, gL_sL, gZ_sZ, gI_sL, gI_sZ, gL_sI, gL_sZ, gZ_sI, gZ_sL]), bnd_some (signAt_eq hz o0 o2 (by omega))]
      refine ok_ltk (fun k79 h79 => ?_)
      suffices hh : ∀ c : Int, b (4 * i + one.toNat) + c = vlM b one two i → Ok (k79 (iI c) z) (fun _ z' => (∀ x : Nat, x < 16 → gI z' 62 x = iI (swM b one two x N) ∧ gI z' 63 x = iI (stM b one two x N)) ∧ Fr [62, 63] [] m z') by
        by_cases ho : one = two
        · rw [if_pos (by rw [ho])]
          exact hh 0 (by unfold vlM; rw [if_pos ho])
        · rw [if_neg (by rw [iI_eq (by omega) (by omega) (by omega) (by omega)]; exact ho), bnd_some (signAt_eq hz t0 t2 (by omega)), lt4, iI_mul]
          exact hh _ (by unfold vlM; rw [if_neg ho])
      intro c hc
      rw [h79]
      dsimp only
      rw [iI_add, hc, lt_def]
      generalize hV : vlM b one two i = V at *
      obtain ⟨y, rfl⟩ : ∃ y : Nat, V = y := ⟨V.toNat, by omega⟩
      obtain ⟨x1, x2⟩ := hx y (by omega)
      refine ok_ltk (fun k144 h144 => ?_)
      rw [if_neg (by simp (disch := omega) only [↓lt_def, ↓reduceIte, ckB_true, bnd_e, Int.reduceAdd, Int.reduceSub, Int.reduceMul, Int.reduceNeg, Int.reduceToNat, Bool.false_eq_true, eq_self, not_false_eq_true, not_true_eq_false, Int.toNat_natCast, lt0, lt1, lt2, lt3, lt4, lt5, lt6, lt7, lt8, lt9, lt10, lt11, lt12, lt13, lt14, lt15, lt16, lt17, lt18, lt19, lt20, lt21, lt22, lt23, lt24, lt25, lt26, lt27, lt28, lt29, lt30, lt31, lt32, lt40, lt41, lt43, lt48, lt55, lt57, lt59, lt60, lt62, lt63, lt64, lt70, lt72, lt81, lt97, lt99, lt100, lt122, lt162, lt180, lt235, lt255, lt298, lt299, lt325, lt335, lt400, lt837, lt999, lt1000, lt1001, lt1002, lt1003, lt1004, lt1005, lt1006, lt1007, lt1008, lt1100, lt1101, lt1102, lt1103, lt1104, lt1105, lt1135, lt1136, lt1172, lt2000, lt3278, lt3575, lt10000, lt12345, lt21450, lt32767, lt193050, lt1103515245, ltm162, ltm99, ltm81, ltm8, ltm1, iI_add, iI_sub, iI_mul, iI_neg, iI_divn, iI_lt_t, iI_lt_f, iI_le_t, iI_le_f, iI_eq_t, iI_eq_f, iI_lt, iI_le, iI_eq, iI_idx, iI_inb, gI_sI, gL_sL, gZ_sZ, gI_sL, gI_sZ, gL_sI, gL_sZ, gZ_sI, gZ_sL]), if_neg (by simp (disch := omega) only [↓lt_def, ↓reduceIte, ckB_true, bnd_e, Int.reduceAdd, Int.reduceSub, Int.reduceMul, Int.reduceNeg, Int.reduceToNat, Bool.false_eq_true, eq_self, not_false_eq_true, not_true_eq_false, Int.toNat_natCast, lt0, lt1, lt2, lt3, lt4, lt5, lt6, lt7, lt8, lt9, lt10, lt11, lt12, lt13, lt14, lt15, lt16, lt17, lt18, lt19, lt20, lt21, lt22, lt23, lt24, lt25, lt26, lt27, lt28, lt29, lt30, lt31, lt32, lt40, lt41, lt43, lt48, lt55, lt57, lt59, lt60, lt62, lt63, lt64, lt70, lt72, lt81, lt97, lt99, lt100, lt122, lt162, lt180, lt235, lt255, lt298, lt299, lt325, lt335, lt400, lt837, lt999, lt1000, lt1001, lt1002, lt1003, lt1004, lt1005, lt1006, lt1007, lt1008, lt1100, lt1101, lt1102, lt1103, lt1104, lt1105, lt1135, lt1136, lt1172, lt2000, lt3278, lt3575, lt10000, lt12345, lt21450, lt32767, lt193050, lt1103515245, ltm162, ltm99, ltm81, ltm8, ltm1, iI_add, iI_sub, iI_mul, iI_neg, iI_divn, iI_lt_t, iI_lt_f, iI_le_t, iI_le_f, iI_eq_t, iI_eq_f, iI_lt, iI_le, iI_eq, iI_idx, iI_inb, gI_sI, gL_sL, gZ_sZ, gI_sL, gI_sZ, gL_sI, gL_sZ, gZ_sI, gZ_sL]), ckB_t (iI_inb (by omega) (by omega) (by omega)), lt_def, lt3, iI_add, ckB_t (iI_inb (by omega) (by omega) (by omega)), lt_def, iI_idx (by omega) (by omega), iI_idx (by omega) (by omega), Int.toNat_natCast, show (((4 * i : Nat) : Int) + 3).toNat = 4 * i + 3 by omega, g3.1, x1]
      refine ok_ltk (fun k117 h117 => ?_)
      have e117 : ∀ sw : Bool, k117 sw z = k144 (sI (sI z 62 y (iI (swM b one two y i) + b2i sw)) 63 y (iI (stM b one two y i) + b2i (!decide (b (4 * i + 3) = 1)))) := by
        intro sw
        rw [h117]
        dsimp only
        have y1 : ∀ W, gI (sI z 62 y W) 63 y = iI (stM b one two y i) := fun W => by
          rw [gI_sI, if_neg (fun q => absurd q.1 (by decide))]
          exact x2
        have y2 : ∀ W, gI (sI z 62 y W) 1 (4 * i + 3) = iI (b (4 * i + 3)) := fun W => by
          rw [gI_sI, if_neg (fun q => absurd q.1 (by decide))]
          exact g3.1
        rw [ckB_t (iI_inb (by omega) (by omega) (by omega)), lt_def, ckB_t (iI_inb (by omega) (by omega) (by omega)), lt_def, y1, ckB_t (iI_inb (by omega) (by omega) (by omega)), lt_def, y2, lt_def]
        by_cases h1 : b (4 * i + 3) = 1
        · rw [if_pos (by rw [h1]; rfl)]
          dsimp only
          rw [ckB_t (iI_inb (by omega) (by omega) (by omega)), lt_def, decide_eq_true h1]
          rfl
        · rw [if_neg (by rw [lt1, iI_eq (by omega) (by omega) (by omega) (by omega)]; exact h1)]
          dsimp only
          rw [ckB_t (iI_inb (by omega) (by omega) (by omega)), lt_def, decide_eq_false h1]
          rfl
      have fin : Ok (k117 (decide (b (4 * i + 3) = 1)) z) (fun _ z' => (∀ x : Nat, x < 16 → gI z' 62 x = iI (swM b one two x N) ∧ gI z' 63 x = iI (stM b one two x N)) ∧ Fr [62, 63] [] m z') := by
        rw [e117, h144]
        dsimp only
        rw [lt_def, lt4, iI_add, show (((4 * i : Nat) : Int) + 4) = ((4 * (i + 1) : Nat) : Int) by omega]
        refine ih (i + 1) nf _ (by omega) (by omega) (fun x hxx => ?_) (Fr_sI rfl (Fr_sI rfl hf (by simp)) (by simp))
        have q1 : swM b one two x (i + 1) = swM b one two x i + (if (keyM b one two x i && swgM b i) = true then 1 else 0) := rfl
        have q2 : stM b one two x (i + 1) = stM b one two x i + (if (keyM b one two x i && !swgM b i) = true then 1 else 0) := rfl
        have hke : keyM b one two x i = decide (y = x) := by
          unfold keyM
          rw [hV, decide_eq_decide]
          omega
        rw [q1, q2, hke, g2a, g2b]
        by_cases hxy : x = y
        · subst hxy
          rw [if_pos rfl, if_pos rfl, decide_eq_true (show x = x from rfl), Bool.true_and, Bool.true_and]
          exact ⟨b2i_add _ _, b2i_add _ _⟩
        · rw [if_neg hxy, if_neg hxy, decide_eq_false (show ¬ y = x from fun q => hxy q.symm), Bool.false_and, Bool.false_and]
          exact hx x hxx
      by_cases h1 : b (4 * i + 3) = 1
      · rw [if_pos (by rw [h1]; rfl)]
        rw [decide_eq_true h1] at fin
        exact fin
      · rw [if_neg (by rw [lt1, iI_eq (by omega) (by omega) (by omega) (by omega)]; exact h1)]
        rw [decide_eq_false h1] at fin
        exact fin
  unfold F_Mo_sort
  rw [← hF, lt_def]
  obtain ⟨nf, mz, ⟨z1, z2⟩, ez⟩ := lpc (F_Mo_sort_L3 (fun (mq1 : Mem) => ((F_Mo_sort_L35 (iI T) (iI one) (iI two) F (0 : Int32) mq1) : Option (Unit × Mem)))) 16 (fun k s => (∀ x : Nat, x < k → gI s 62 x = iI 0 ∧ gI s 63 x = iI 0) ∧ Fr [62, 63] [] m s) (by
    intro nf k s hk ⟨q1, q2⟩
    refine ⟨sI (sI s 62 k 0) 63 k 0, ⟨fun x hx => ?_, Fr_sI rfl (Fr_sI rfl q2 (by simp)) (by simp)⟩, ?_⟩
    · rw [gI_sI, if_neg (fun q => absurd q.1 (by decide)), gI_sI, gI_sI, gI_sI]
      by_cases hxk : x = k
      · rw [if_pos ⟨rfl, hxk⟩, if_pos ⟨rfl, hxk⟩]
        exact ⟨rfl, rfl⟩
      · rw [if_neg (fun q => hxk q.2), if_neg (fun q => hxk q.2), if_neg (fun q => absurd q.1 (by decide))]
        exact q1 x (by omega)
    · rw [F_Mo_sort_L3, if_neg (by simp (disch := omega) only [↓lt_def, ↓reduceIte, ckB_true, bnd_e, Int.reduceAdd, Int.reduceSub, Int.reduceMul, Int.reduceNeg, Int.reduceToNat, Bool.false_eq_true, eq_self, not_false_eq_true, not_true_eq_false, Int.toNat_natCast, lt0, lt1, lt2, lt3, lt4, lt5, lt6, lt7, lt8, lt9, lt10, lt11, lt12, lt13, lt14, lt15, lt16, lt17, lt18, lt19, lt20, lt21, lt22, lt23, lt24, lt25, lt26, lt27, lt28, lt29, lt30, lt31, lt32, lt40, lt41, lt43, lt48, lt55, lt57, lt59, lt60, lt62, lt63, lt64, lt70, lt72, lt81, lt97, lt99, lt100, lt122, lt162, lt180, lt235, lt255, lt298, lt299, lt325, lt335, lt400, lt837, lt999, lt1000, lt1001, lt1002, lt1003, lt1004, lt1005, lt1006, lt1007, lt1008, lt1100, lt1101, lt1102, lt1103, lt1104, lt1105, lt1135, lt1136, lt1172, lt2000, lt3278, lt3575, lt10000, lt12345, lt21450, lt32767, lt193050, lt1103515245, ltm162, ltm99, ltm81, ltm8, ltm1, iI_add, iI_sub, iI_mul, iI_neg, iI_divn, iI_lt_t, iI_lt_f, iI_le_t, iI_le_f, iI_eq_t, iI_eq_f, iI_lt, iI_le, iI_eq, iI_idx, iI_inb, gI_sI, gL_sL, gZ_sZ, gI_sL, gI_sZ, gL_sI, gL_sZ, gZ_sI, gZ_sL]), ckB_t (iI_inb (by omega) (by omega) (by omega)), lt_def, ckB_t (iI_inb (by omega) (by omega) (by omega)), lt_def, lt_def, iI_idx (by omega) (by omega), Int.toNat_natCast, lt1, iI_add]) F 0 m (by omega) ⟨fun x hx => by omega, Fr_rf⟩ (by omega)
  obtain ⟨_, z', e1, e2, e3⟩ := up N 0 F mz (by omega) (by omega) z1 z2
  refine ok_e (a := ()) (m' := z') ?_ ⟨e2, e3⟩
  refine (show _ = _ from ez).trans ?_
  rw [F_Mo_sort_L3, if_pos (by decide)]
  exact e1
end SIGNS
