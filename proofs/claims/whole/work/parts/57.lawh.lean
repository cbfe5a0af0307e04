section LAWH
/-- the loop of a line: its end -/
theorem mo_exit (s i b : Int) (x1 : Int) (kk : Int32 → Mem → Option (Bool × Mem)) (k e : Nat) (t : Int32) (m : Mem) (nf : Nat) (hx : 0 ≤ x1) (hx2 : x1 < 1900) (he : gI m 79 (x1 + 2).toNat = iI e) (h4 : e ≤ 400) (hi : e ≤ k) (hk : k ≤ 400) : F_M_holdsLine_L23 (iI s) (iI i) (iI b) (iI x1) kk (nf + 1) t (iI k) m = kk t m := by
  rw [F_M_holdsLine_L23]
  refine ckB_go (by simp (disch := omega) only [↓lt_def, ↓reduceIte, ckB_true, bnd_e, Int.reduceAdd, Int.reduceSub, Int.reduceMul, Int.reduceNeg, Int.reduceToNat, Bool.false_eq_true, eq_self, not_false_eq_true, not_true_eq_false, Int.toNat_natCast, lt0, lt1, lt2, lt3, lt4, lt5, lt6, lt7, lt8, lt9, lt10, lt11, lt12, lt13, lt14, lt15, lt16, lt17, lt18, lt19, lt20, lt21, lt22, lt23, lt24, lt25, lt26, lt27, lt28, lt29, lt30, lt31, lt32, lt40, lt41, lt43, lt48, lt55, lt57, lt59, lt60, lt62, lt63, lt64, lt70, lt72, lt81, lt97, lt99, lt100, lt122, lt162, lt180, lt235, lt255, lt298, lt299, lt325, lt335, lt400, lt837, lt999, lt1000, lt1001, lt1002, lt1003, lt1004, lt1005, lt1006, lt1007, lt1008, lt1100, lt1101, lt1102, lt1103, lt1104, lt1105, lt1135, lt1136, lt1172, lt2000, lt3278, lt3575, lt10000, lt12345, lt21450, lt32767, lt193050, lt1103515245, ltm162, ltm99, ltm81, ltm8, ltm1, iI_add, iI_sub, iI_mul, iI_neg, iI_divn, iI_lt_t, iI_lt_f, iI_le_t, iI_le_f, iI_eq_t, iI_eq_f, iI_lt, iI_le, iI_eq, iI_idx, iI_inb, gI_sI, gL_sL, gZ_sZ, gI_sL, gI_sZ, gL_sI, gL_sZ, gZ_sI, gZ_sL, he]) ?_
  refine lt_go (fun xq12 hxq12 => ?_)
  try (simp (disch := omega) only [↓lt_def, ↓reduceIte, ckB_true, bnd_e, Int.reduceAdd, Int.reduceSub, Int.reduceMul, Int.reduceNeg, Int.reduceToNat, Bool.false_eq_true, eq_self, not_false_eq_true, not_true_eq_false, Int.toNat_natCast, lt0, lt1, lt2, lt3, lt4, lt5, lt6, lt7, lt8, lt9, lt10, lt11, lt12, lt13, lt14, lt15, lt16, lt17, lt18, lt19, lt20, lt21, lt22, lt23, lt24, lt25, lt26, lt27, lt28, lt29, lt30, lt31, lt32, lt40, lt41, lt43, lt48, lt55, lt57, lt59, lt60, lt62, lt63, lt64, lt70, lt72, lt81, lt97, lt99, lt100, lt122, lt162, lt180, lt235, lt255, lt298, lt299, lt325, lt335, lt400, lt837, lt999, lt1000, lt1001, lt1002, lt1003, lt1004, lt1005, lt1006, lt1007, lt1008, lt1100, lt1101, lt1102, lt1103, lt1104, lt1105, lt1135, lt1136, lt1172, lt2000, lt3278, lt3575, lt10000, lt12345, lt21450, lt32767, lt193050, lt1103515245, ltm162, ltm99, ltm81, ltm8, ltm1, iI_add, iI_sub, iI_mul, iI_neg, iI_divn, iI_lt_t, iI_lt_f, iI_le_t, iI_le_f, iI_eq_t, iI_eq_f, iI_lt, iI_le, iI_eq, iI_idx, iI_inb, gI_sI, gL_sL, gZ_sZ, gI_sL, gI_sZ, gL_sI, gL_sZ, gZ_sI, gZ_sL, he] at hxq12)
  subst hxq12
  refine if_go_t (by simp (disch := omega) only [↓lt_def, ↓reduceIte, ckB_true, bnd_e, Int.reduceAdd, Int.reduceSub, Int.reduceMul, Int.reduceNeg, Int.reduceToNat, Bool.false_eq_true, eq_self, not_false_eq_true, not_true_eq_false, Int.toNat_natCast, lt0, lt1, lt2, lt3, lt4, lt5, lt6, lt7, lt8, lt9, lt10, lt11, lt12, lt13, lt14, lt15, lt16, lt17, lt18, lt19, lt20, lt21, lt22, lt23, lt24, lt25, lt26, lt27, lt28, lt29, lt30, lt31, lt32, lt40, lt41, lt43, lt48, lt55, lt57, lt59, lt60, lt62, lt63, lt64, lt70, lt72, lt81, lt97, lt99, lt100, lt122, lt162, lt180, lt235, lt255, lt298, lt299, lt325, lt335, lt400, lt837, lt999, lt1000, lt1001, lt1002, lt1003, lt1004, lt1005, lt1006, lt1007, lt1008, lt1100, lt1101, lt1102, lt1103, lt1104, lt1105, lt1135, lt1136, lt1172, lt2000, lt3278, lt3575, lt10000, lt12345, lt21450, lt32767, lt193050, lt1103515245, ltm162, ltm99, ltm81, ltm8, ltm1, iI_add, iI_sub, iI_mul, iI_neg, iI_divn, iI_lt_t, iI_lt_f, iI_le_t, iI_le_f, iI_eq_t, iI_eq_f, iI_lt, iI_le, iI_eq, iI_idx, iI_inb, gI_sI, gL_sL, gZ_sZ, gI_sL, gI_sZ, gL_sI, gL_sZ, gZ_sI, gZ_sL, he]) ?_
  rfl
theorem mo_line (s i b : Int) (k st : Nat) (cs : List Int) (m : Mem) (s0 : 0 ≤ s) (s9 : s < 9) (b0 : 0 ≤ b) (b1 : b < 2) (hk : k < 12) (hst : gI m 79 (300 + 3 * k) = iI st) (hen : gI m 79 (301 + 3 * k) = iI (st + cs.length : Nat)) (h4 : st + cs.length ≤ 400) (hr : MRow m 79 335 st cs) (hok : cs = [] ∨ okT cs []) (hb : ∀ q : Int, q = 1006 ∨ q = 1007 → fcW (gI m 79) s i b q = 0 ∨ fcW (gI m 79) s i b q = 1) : ∃ m', F_M_holdsLine (iI k) (iI s) (iI i) (iI b) m = some (holdsL (fcW (gI m 79) s i b) cs, m') ∧ ∀ o j, o ≠ 85 → gI m' o j = gI m o j := by
  have q1 : (299 + 3 * (k : Int) + 1).toNat = 300 + 3 * k := by omega
  have q2 : (299 + 3 * (k : Int) + 2).toNat = 301 + 3 * k := by omega
  have hen' : gI m 79 (299 + 3 * (k : Int) + 2).toNat = iI (st + cs.length : Nat) := by rw [q2]; exact hen
  have main : ∀ kk : Int32 → Mem → Option (Bool × Mem), (kk = fun (xq5 : Int32) (mq4 : Mem) => if xq5 = 0 then some (true, mq4) else if gI mq4 85 0 = 1 then some (true, mq4) else some (false, mq4)) → ∃ m', F_M_holdsLine_L23 (iI s) (iI i) (iI b) (iI (299 + 3 * (k : Int))) kk 1000000 0 (iI st) m = some (holdsL (fcW (gI m 79) s i b) cs, m') ∧ ∀ o j, o ≠ 85 → gI m' o j = gI m o j := by
    intro kk hkk
    rcases hok with rfl | hok
    · refine ⟨m, ?_, fun _ _ _ => rfl⟩
      refine (mo_exit s i b (299 + 3 * (k : Int)) kk st (st + [].length : Nat) 0 m 999999 (by omega) (by omega) hen' h4 (by simp) (by simp at h4; omega)).trans ?_
      rw [hkk]
      dsimp only
      rw [if_pos rfl]
      rfl
    · obtain ⟨m1, v, e1, e2, e3, e4, f1⟩ := mo_run s i b (299 + 3 * (k : Int)) kk (st + cs.length) s0 s9 b0 b1 (by omega) (by omega) h4 _ hb cs [] st [] m (1000000 - cs.length) hen' (Nat.le_refl _) hr trivial trivial hok rfl
      refine ⟨m1, ?_, f1⟩
      rw [show 1000000 - cs.length + cs.length = 1000000 by omega] at e1
      refine (show _ = _ from e1).trans ?_
      rw [show 1000000 - cs.length = (999999 - cs.length) + 1 by omega]
      refine (mo_exit s i b (299 + 3 * (k : Int)) kk (st + cs.length) (st + cs.length : Nat) 1 m1 _ (by omega) (by omega) (by rw [f1 79 _ (by decide)]; exact hen') h4 (Nat.le_refl _) (by omega)).trans ?_
      have hne : cs ≠ [] := fun h => by
        rw [h] at hok
        exact absurd hok (by simp [okT])
      rw [hkk]
      dsimp only
      rw [if_neg (by decide), e4]
      rcases e3 with rfl | rfl
      · rw [if_neg (by decide)]
        simp [holdsL, hne, e2]
      · rw [if_pos rfl]
        simp [holdsL, hne, e2]
  obtain ⟨m', e, f⟩ := main _ rfl
  refine ⟨m', ?_, f⟩
  unfold F_M_holdsLine
  refine lt_go (fun x1 hx1 => ?_)
  (try simp (disch := omega) only [↓lt_def, ↓reduceIte, ckB_true, bnd_e, Int.reduceAdd, Int.reduceSub, Int.reduceMul, Int.reduceNeg, Int.reduceToNat, Bool.false_eq_true, eq_self, not_false_eq_true, not_true_eq_false, Int.toNat_natCast, lt0, lt1, lt2, lt3, lt4, lt5, lt6, lt7, lt8, lt9, lt10, lt11, lt12, lt13, lt14, lt15, lt16, lt17, lt18, lt19, lt20, lt21, lt22, lt23, lt24, lt25, lt26, lt27, lt28, lt29, lt30, lt31, lt32, lt40, lt41, lt43, lt48, lt55, lt57, lt59, lt60, lt62, lt63, lt64, lt70, lt72, lt81, lt97, lt99, lt100, lt122, lt162, lt180, lt235, lt255, lt298, lt299, lt325, lt335, lt400, lt837, lt999, lt1000, lt1001, lt1002, lt1003, lt1004, lt1005, lt1006, lt1007, lt1008, lt1100, lt1101, lt1102, lt1103, lt1104, lt1105, lt1135, lt1136, lt1172, lt2000, lt3278, lt3575, lt10000, lt12345, lt21450, lt32767, lt193050, lt1103515245, ltm162, ltm99, ltm81, ltm8, ltm1, iI_add, iI_sub, iI_mul, iI_neg, iI_divn, iI_lt_t, iI_lt_f, iI_le_t, iI_le_f, iI_eq_t, iI_eq_f, iI_lt, iI_le, iI_eq, iI_idx, iI_inb, gI_sI, gL_sL, gZ_sZ, gI_sL, gI_sZ, gL_sI, gL_sZ, gZ_sI, gZ_sL] at hx1)
  subst hx1
  refine ckB_go (by simp (disch := omega) only [↓lt_def, ↓reduceIte, ckB_true, bnd_e, Int.reduceAdd, Int.reduceSub, Int.reduceMul, Int.reduceNeg, Int.reduceToNat, Bool.false_eq_true, eq_self, not_false_eq_true, not_true_eq_false, Int.toNat_natCast, lt0, lt1, lt2, lt3, lt4, lt5, lt6, lt7, lt8, lt9, lt10, lt11, lt12, lt13, lt14, lt15, lt16, lt17, lt18, lt19, lt20, lt21, lt22, lt23, lt24, lt25, lt26, lt27, lt28, lt29, lt30, lt31, lt32, lt40, lt41, lt43, lt48, lt55, lt57, lt59, lt60, lt62, lt63, lt64, lt70, lt72, lt81, lt97, lt99, lt100, lt122, lt162, lt180, lt235, lt255, lt298, lt299, lt325, lt335, lt400, lt837, lt999, lt1000, lt1001, lt1002, lt1003, lt1004, lt1005, lt1006, lt1007, lt1008, lt1100, lt1101, lt1102, lt1103, lt1104, lt1105, lt1135, lt1136, lt1172, lt2000, lt3278, lt3575, lt10000, lt12345, lt21450, lt32767, lt193050, lt1103515245, ltm162, ltm99, ltm81, ltm8, ltm1, iI_add, iI_sub, iI_mul, iI_neg, iI_divn, iI_lt_t, iI_lt_f, iI_le_t, iI_le_f, iI_eq_t, iI_eq_f, iI_lt, iI_le, iI_eq, iI_idx, iI_inb, gI_sI, gL_sL, gZ_sZ, gI_sL, gI_sZ, gL_sI, gL_sZ, gZ_sI, gZ_sL]) ?_
  refine lt_go (fun xst hxst => ?_)
  (try simp (disch := omega) only [↓lt_def, ↓reduceIte, ckB_true, bnd_e, Int.reduceAdd, Int.reduceSub, Int.reduceMul, Int.reduceNeg, Int.reduceToNat, Bool.false_eq_true, eq_self, not_false_eq_true, not_true_eq_false, Int.toNat_natCast, lt0, lt1, lt2, lt3, lt4, lt5, lt6, lt7, lt8, lt9, lt10, lt11, lt12, lt13, lt14, lt15, lt16, lt17, lt18, lt19, lt20, lt21, lt22, lt23, lt24, lt25, lt26, lt27, lt28, lt29, lt30, lt31, lt32, lt40, lt41, lt43, lt48, lt55, lt57, lt59, lt60, lt62, lt63, lt64, lt70, lt72, lt81, lt97, lt99, lt100, lt122, lt162, lt180, lt235, lt255, lt298, lt299, lt325, lt335, lt400, lt837, lt999, lt1000, lt1001, lt1002, lt1003, lt1004, lt1005, lt1006, lt1007, lt1008, lt1100, lt1101, lt1102, lt1103, lt1104, lt1105, lt1135, lt1136, lt1172, lt2000, lt3278, lt3575, lt10000, lt12345, lt21450, lt32767, lt193050, lt1103515245, ltm162, ltm99, ltm81, ltm8, ltm1, iI_add, iI_sub, iI_mul, iI_neg, iI_divn, iI_lt_t, iI_lt_f, iI_le_t, iI_le_f, iI_eq_t, iI_eq_f, iI_lt, iI_le, iI_eq, iI_idx, iI_inb, gI_sI, gL_sL, gZ_sZ, gI_sL, gI_sZ, gL_sI, gL_sZ, gZ_sI, gZ_sL, q1, hst] at hxst)
  subst hxst
  exact e
/-- where the reference's lines stand -/
def LinesAt (m : Mem) (o off : Nat) : Nat → Nat → List (Int × List Int) → Prop
  | _, _, [] => True
  | k, st, x :: r => gI m o (off + 1 + 3 * k) = iI x.1 ∧ gI m o (off + 2 + 3 * k) = iI st ∧ gI m o (off + 3 + 3 * k) = iI (st + x.2.length : Nat) ∧ MRow m o (off + 37) st x.2 ∧ LinesAt m o off (k + 1) (st + x.2.length) r
theorem LinesAt_congr {m m' : Mem} {o off o' off' : Nat} (h : ∀ j, gI m' o' (off' + j) = gI m o (off + j)) : ∀ {law : List (Int × List Int)} {k st : Nat}, LinesAt m o off k st law → LinesAt m' o' off' k st law
  | [], _, _, _ => trivial
  | x :: r, k, st, ⟨h1, h2, h3, h4, h5⟩ => ⟨by rw [Nat.add_assoc, h, ← Nat.add_assoc]; exact h1, by rw [Nat.add_assoc, h, ← Nat.add_assoc]; exact h2, by rw [Nat.add_assoc, h, ← Nat.add_assoc]; exact h3, MRow_congr (fun j => by rw [Nat.add_assoc, h, ← Nat.add_assoc]) h4, LinesAt_congr h h5⟩
def stepsL : List (Int × List Int) → Nat
  | [] => 0
  | x :: r => x.2.length + stepsL r
theorem mo_levels (s i b : Int) (s0 : 0 ≤ s) (s9 : s < 9) (b0 : 0 ≤ b) (b1 : b < 2) (kk : Int32 → Mem → Option (Int32 × Mem)) (fact : Int → Int32) (hb : ∀ q : Int, q = 1006 ∨ q = 1007 → fact q = 0 ∨ fact q = 1) (n : Nat) (hn : n ≤ 12) : ∀ (law : List (Int × List Int)) (k st : Nat) (S : Int) (m : Mem) (nf : Nat), (∀ x ∈ law, 0 ≤ x.1 ∧ x.1 ≤ 9 ∧ (x.2 = [] ∨ okT x.2 [])) → gI m 79 298 = iI n → k + law.length = n → LinesAt m 79 298 k st law → st + stepsL law ≤ 400 → fcW (gI m 79) s i b = fact →
    ∃ m', F_M_levelOf_L17 (iI s) (iI i) (iI b) kk (nf + law.length + 1) (iI S) (iI k) m = kk (iI (S + sumL fact law)) m' ∧ ∀ o j, o ≠ 85 → gI m' o j = gI m o j
  | [], k, st, S, m, nf, _, hN, hk, _, _, _ => by
    refine ⟨m, ?_, fun _ _ _ => rfl⟩
    rw [F_M_levelOf_L17]
    simp only [List.length_nil] at hk
    rw [if_pos (by rw [hN, show k = n by omega]; simp), sumL, Int.add_zero]
  | x :: r, k, st, S, m, nf, hok, hN, hk, hl, h4, hf => by
    obtain ⟨x1, x2, x3⟩ := hok x List.mem_cons_self
    obtain ⟨l1, l2, l3, l4, l5⟩ := hl
    rw [List.length_cons] at hk
    simp only [stepsL] at h4
    obtain ⟨m1, e1, f1⟩ := mo_line s i b k st x.2 m s0 s9 b0 b1 (by omega) l2 l3 (by omega) l4 x3 (by rw [hf]; exact hb)
    rw [hf] at e1
    have f79 : gI m1 79 = gI m 79 := by funext j; exact f1 79 j (by decide)
    obtain ⟨m2, e2, f2⟩ := mo_levels s i b s0 s9 b0 b1 kk fact hb n hn r (k + 1) (st + x.2.length) (S + (if holdsL fact x.2 = true then x.1 else 0)) m1 nf (fun y hy => hok y (List.mem_cons_of_mem _ hy)) (by rw [f79]; exact hN) (by omega) (LinesAt_congr (fun j => by rw [f79]) l5) (by omega) (by rw [f79]; exact hf)
    refine ⟨m2, ?_, fun o j ho => (f2 o j ho).trans (f1 o j ho)⟩
    rw [F_M_levelOf_L17, List.length_cons]
    have q1 : (299 + 3 * (k : Int)).toNat = 298 + 1 + 3 * k := by omega
    refine if_go_f (by simp (disch := omega) only [↓lt_def, ↓reduceIte, ckB_true, bnd_e, Int.reduceAdd, Int.reduceSub, Int.reduceMul, Int.reduceNeg, Int.reduceToNat, Bool.false_eq_true, eq_self, not_false_eq_true, not_true_eq_false, Int.toNat_natCast, lt0, lt1, lt2, lt3, lt4, lt5, lt6, lt7, lt8, lt9, lt10, lt11, lt12, lt13, lt14, lt15, lt16, lt17, lt18, lt19, lt20, lt21, lt22, lt23, lt24, lt25, lt26, lt27, lt28, lt29, lt30, lt31, lt32, lt40, lt41, lt43, lt48, lt55, lt57, lt59, lt60, lt62, lt63, lt64, lt70, lt72, lt81, lt97, lt99, lt100, lt122, lt162, lt180, lt235, lt255, lt298, lt299, lt325, lt335, lt400, lt837, lt999, lt1000, lt1001, lt1002, lt1003, lt1004, lt1005, lt1006, lt1007, lt1008, lt1100, lt1101, lt1102, lt1103, lt1104, lt1105, lt1135, lt1136, lt1172, lt2000, lt3278, lt3575, lt10000, lt12345, lt21450, lt32767, lt193050, lt1103515245, ltm162, ltm99, ltm81, ltm8, ltm1, iI_add, iI_sub, iI_mul, iI_neg, iI_divn, iI_lt_t, iI_lt_f, iI_le_t, iI_le_f, iI_eq_t, iI_eq_f, iI_lt, iI_le, iI_eq, iI_idx, iI_inb, gI_sI, gL_sL, gZ_sZ, gI_sL, gI_sZ, gL_sI, gL_sZ, gZ_sI, gZ_sL, hN]) ?_
    refine bnd_go e1 ?_
    refine lt_go (fun kj hkj => ?_)
    rw [show S + sumL fact (x :: r) = S + (if holdsL fact x.2 = true then x.1 else 0) + sumL fact r by simp only [sumL]; omega, ← e2]
    by_cases hh : holdsL fact x.2 = true
    · refine if_go_t hh ?_
      rw [if_pos hh]
      refine ckB_go (by simp (disch := omega) only [↓lt_def, ↓reduceIte, ckB_true, bnd_e, Int.reduceAdd, Int.reduceSub, Int.reduceMul, Int.reduceNeg, Int.reduceToNat, Bool.false_eq_true, eq_self, not_false_eq_true, not_true_eq_false, Int.toNat_natCast, lt0, lt1, lt2, lt3, lt4, lt5, lt6, lt7, lt8, lt9, lt10, lt11, lt12, lt13, lt14, lt15, lt16, lt17, lt18, lt19, lt20, lt21, lt22, lt23, lt24, lt25, lt26, lt27, lt28, lt29, lt30, lt31, lt32, lt40, lt41, lt43, lt48, lt55, lt57, lt59, lt60, lt62, lt63, lt64, lt70, lt72, lt81, lt97, lt99, lt100, lt122, lt162, lt180, lt235, lt255, lt298, lt299, lt325, lt335, lt400, lt837, lt999, lt1000, lt1001, lt1002, lt1003, lt1004, lt1005, lt1006, lt1007, lt1008, lt1100, lt1101, lt1102, lt1103, lt1104, lt1105, lt1135, lt1136, lt1172, lt2000, lt3278, lt3575, lt10000, lt12345, lt21450, lt32767, lt193050, lt1103515245, ltm162, ltm99, ltm81, ltm8, ltm1, iI_add, iI_sub, iI_mul, iI_neg, iI_divn, iI_lt_t, iI_lt_f, iI_le_t, iI_le_f, iI_eq_t, iI_eq_f, iI_lt, iI_le, iI_eq, iI_idx, iI_inb, gI_sI, gL_sL, gZ_sZ, gI_sL, gI_sZ, gL_sI, gL_sZ, gZ_sI, gZ_sL]) ?_
      refine lt_go (fun xv hxv => ?_)
      simp (disch := omega) only [↓lt_def, ↓reduceIte, ckB_true, bnd_e, Int.reduceAdd, Int.reduceSub, Int.reduceMul, Int.reduceNeg, Int.reduceToNat, Bool.false_eq_true, eq_self, not_false_eq_true, not_true_eq_false, Int.toNat_natCast, lt0, lt1, lt2, lt3, lt4, lt5, lt6, lt7, lt8, lt9, lt10, lt11, lt12, lt13, lt14, lt15, lt16, lt17, lt18, lt19, lt20, lt21, lt22, lt23, lt24, lt25, lt26, lt27, lt28, lt29, lt30, lt31, lt32, lt40, lt41, lt43, lt48, lt55, lt57, lt59, lt60, lt62, lt63, lt64, lt70, lt72, lt81, lt97, lt99, lt100, lt122, lt162, lt180, lt235, lt255, lt298, lt299, lt325, lt335, lt400, lt837, lt999, lt1000, lt1001, lt1002, lt1003, lt1004, lt1005, lt1006, lt1007, lt1008, lt1100, lt1101, lt1102, lt1103, lt1104, lt1105, lt1135, lt1136, lt1172, lt2000, lt3278, lt3575, lt10000, lt12345, lt21450, lt32767, lt193050, lt1103515245, ltm162, ltm99, ltm81, ltm8, ltm1, iI_add, iI_sub, iI_mul, iI_neg, iI_divn, iI_lt_t, iI_lt_f, iI_le_t, iI_le_f, iI_eq_t, iI_eq_f, iI_lt, iI_le, iI_eq, iI_idx, iI_inb, gI_sI, gL_sL, gZ_sZ, gI_sL, gI_sZ, gL_sI, gL_sZ, gZ_sI, gZ_sL, q1, f79, l1] at hxv
      subst hxv
      subst hkj
      refine lt_go (fun xs hxs => ?_)
      refine lt_go (fun xn hxn => ?_)
      rw [hxs, hxn, lt1, iI_add, iI_add, show nf + (r.length + 1) = nf + r.length + 1 by omega]
      rfl
    · refine if_go_f hh ?_
      rw [if_neg hh]
      subst hkj
      refine lt_go (fun xs hxs => ?_)
      refine lt_go (fun xn hxn => ?_)
      rw [hxs, hxn, lt1, lt0, iI_add, iI_add, show nf + (r.length + 1) = nf + r.length + 1 by omega]
      rfl
end LAWH
