section BOOK
def soB (x y z a : Int32) : Bool := if a = 1 then decide (y = x) else if a = 2 then decide (y = x ∧ z = x) else if a = 3 then decide (z = y) else if a = 4 then decide (z = x) else if a = 5 then decide (z = 2) else true
def soW (w : Nat → Int32) (a : Int32) (i : Nat) : Bool := soB (w (55 + 3 * i)) (w (55 + 3 * i + 1)) (w (55 + 3 * i + 2)) a
theorem soT_leaf {x y z a : Int32} {m : Mem} : (if a = 1 then (if y = x then some (true, m) else some (false, m)) else if a = 2 then (if y = x then (if z = x then some (true, m) else some (false, m)) else some (false, m)) else if a = 3 then (if z = y then some (true, m) else some (false, m)) else if a = 4 then (if z = x then some (true, m) else some (false, m)) else if a = 5 then (if z = (2 : Int32) then some (true, m) else some (false, m)) else some (true, m)) = some (soB x y z a, m) := by
  have e : ∀ c : Prop, [inst : Decidable c] → (if c then some (true, m) else some (false, m)) = some (decide c, m) := by
    intro c inst
    by_cases h : c
    · rw [if_pos h, decide_eq_true h]
    · rw [if_neg h, decide_eq_false h]
  unfold soB
  by_cases h1 : a = 1
  · rw [if_pos h1, if_pos h1, e]
  · rw [if_neg h1, if_neg h1]
    by_cases h2 : a = 2
    · rw [if_pos h2, if_pos h2]
      by_cases h3 : y = x
      · rw [if_pos h3, e]
        by_cases h4 : z = x
        · rw [decide_eq_true h4, decide_eq_true ⟨h3, h4⟩]
        · rw [decide_eq_false h4, decide_eq_false (fun q => h4 q.2)]
      · rw [if_neg h3, decide_eq_false (fun q => h3 q.1)]
    · rw [if_neg h2, if_neg h2]
      by_cases h3 : a = 3
      · rw [if_pos h3, if_pos h3, e]
      · rw [if_neg h3, if_neg h3]
        by_cases h4 : a = 4
        · rw [if_pos h4, if_pos h4, e]
        · rw [if_neg h4, if_neg h4]
          by_cases h5 : a = 5
          · rw [if_pos h5, if_pos h5, e]
          · rw [if_neg h5, if_neg h5]
theorem cellB_eq {m : Mem} {i c : Nat} (hi : i < 60) (hc : c < 3) : F_Bk_cell (iI i) (iI c) m = some (gI m 13 (3 * i + c), m) := by
  unfold F_Bk_cell
  rw [lt_def, lt3, iI_mul, iI_add, if_neg (by simp (disch := omega) only [↓lt_def, ↓reduceIte, ckB_true, bnd_e, Int.reduceAdd, Int.reduceSub, Int.reduceMul, Int.reduceNeg, Int.reduceToNat, Bool.false_eq_true, eq_self, not_false_eq_true, not_true_eq_false, Int.toNat_natCast, lt0, lt1, lt2, lt3, lt4, lt5, lt6, lt7, lt8, lt9, lt10, lt11, lt12, lt13, lt14, lt15, lt16, lt17, lt18, lt19, lt20, lt21, lt22, lt23, lt24, lt25, lt26, lt27, lt28, lt29, lt30, lt31, lt32, lt40, lt41, lt43, lt48, lt55, lt57, lt59, lt60, lt62, lt63, lt64, lt70, lt72, lt81, lt97, lt99, lt100, lt122, lt162, lt180, lt235, lt255, lt298, lt299, lt325, lt335, lt400, lt837, lt999, lt1000, lt1001, lt1002, lt1003, lt1004, lt1005, lt1006, lt1007, lt1008, lt1100, lt1101, lt1102, lt1103, lt1104, lt1105, lt1135, lt1136, lt1172, lt2000, lt3278, lt3575, lt10000, lt12345, lt21450, lt32767, lt193050, lt1103515245, ltm162, ltm99, ltm81, ltm8, ltm1, iI_add, iI_sub, iI_mul, iI_neg, iI_divn, iI_lt_t, iI_lt_f, iI_le_t, iI_le_f, iI_eq_t, iI_eq_f, iI_lt, iI_le, iI_eq, iI_idx, iI_inb, gI_sI, gL_sL, gZ_sZ, gI_sL, gI_sZ, gL_sI, gL_sZ, gZ_sI, gZ_sL]), if_pos (by simp (disch := omega) only [↓lt_def, ↓reduceIte, ckB_true, bnd_e, Int.reduceAdd, Int.reduceSub, Int.reduceMul, Int.reduceNeg, Int.reduceToNat, Bool.false_eq_true, eq_self, not_false_eq_true, not_true_eq_false, Int.toNat_natCast, lt0, lt1, lt2, lt3, lt4, lt5, lt6, lt7, lt8, lt9, lt10, lt11, lt12, lt13, lt14, lt15, lt16, lt17, lt18, lt19, lt20, lt21, lt22, lt23, lt24, lt25, lt26, lt27, lt28, lt29, lt30, lt31, lt32, lt40, lt41, lt43, lt48, lt55, lt57, lt59, lt60, lt62, lt63, lt64, lt70, lt72, lt81, lt97, lt99, lt100, lt122, lt162, lt180, lt235, lt255, lt298, lt299, lt325, lt335, lt400, lt837, lt999, lt1000, lt1001, lt1002, lt1003, lt1004, lt1005, lt1006, lt1007, lt1008, lt1100, lt1101, lt1102, lt1103, lt1104, lt1105, lt1135, lt1136, lt1172, lt2000, lt3278, lt3575, lt10000, lt12345, lt21450, lt32767, lt193050, lt1103515245, ltm162, ltm99, ltm81, ltm8, ltm1, iI_add, iI_sub, iI_mul, iI_neg, iI_divn, iI_lt_t, iI_lt_f, iI_le_t, iI_le_f, iI_eq_t, iI_eq_f, iI_lt, iI_le, iI_eq, iI_idx, iI_inb, gI_sI, gL_sL, gZ_sZ, gI_sL, gI_sZ, gL_sI, gL_sZ, gZ_sI, gZ_sL]), ckB_t (iI_inb (by omega) (by omega) (by omega)), lt_def, iI_idx (by omega) (by omega), show ((i : Int) * 3 + c).toNat = 3 * i + c by omega]
theorem isSo_eq {m : Mem} {bc : Int} {i : Nat} {a : Int32} (hb : bc ≤ 60) (hbo : ∀ j : Nat, (j : Int) < 3 * bc → gI m 13 j = gI m 79 (55 + j)) (hi : (i : Int) < bc) : F_Bk_isSo (iI i) a m = some (soW (gI m 79) a i, m) := by
  unfold F_Bk_isSo soW
  have e := fun c (hc : c < 3) => (cellB_eq (m := m) (i := i) (c := c) (by omega) hc)
  rw [show (0 : Int32) = iI (0 : Nat) from rfl, bnd_some (e 0 (by omega)), show F_Bk_cell (iI i) 1 m = _ from e 1 (by omega), bnd_e, show F_Bk_cell (iI i) 2 m = _ from e 2 (by omega), bnd_e, hbo _ (by omega), hbo _ (by omega), hbo _ (by omega), soT_leaf]
  rfl
theorem ofBook_eq {m : Mem} {i c : Nat} (hi : i < 60) (hc : c < 3) : F_M_ofBook (iI i) (iI c) m = some (gI m 79 (55 + 3 * i + c), m) := by
  unfold F_M_ofBook
  rw [lt3, show (55 : Int32) = iI 55 from rfl, iI_mul, iI_add, iI_add, ckB_t (iI_inb (by omega) (by omega) (by omega)), lt_def, iI_idx (by omega) (by omega), show ((55 : Int) + 3 * i + c).toNat = 55 + 3 * i + c by omega]
theorem isSuch_eq {m : Mem} {i : Nat} {a : Int32} (hi : i < 60) : F_M_isSuch (iI i) a m = some (soW (gI m 79) a i, m) := by
  unfold F_M_isSuch soW
  have e := fun c (hc : c < 3) => (ofBook_eq (m := m) (i := i) (c := c) hi hc)
  rw [show (0 : Int32) = iI (0 : Nat) from rfl, bnd_some (e 0 (by omega)), show F_M_ofBook (iI i) 1 m = _ from e 1 (by omega), bnd_e, show F_M_ofBook (iI i) 2 m = _ from e 2 (by omega), bnd_e, soT_leaf]
  rfl
def tl (w : Nat → Int32) (a : Int32) : Nat → Nat
  | 0 => 0
  | k + 1 => tl w a k + (if soW w a k = true then 1 else 0)
theorem tl_le (w : Nat → Int32) (a : Int32) : ∀ k, tl w a k ≤ k
  | 0 => Nat.le_refl _
  | k + 1 => by
    have := tl_le w a k
    simp only [tl]
    split <;> omega
theorem b2i_add (x : Nat) (b : Bool) : iI x + b2i b = iI ((x + (if b = true then 1 else 0) : Nat) : Int) := by
  cases b
  · rw [b2i_f, iI_add]; rfl
  · rw [b2i_t, iI_add]; rfl
theorem tally_eq {m : Mem} {bc : Int} {a : Int32} (hc : gI m 12 0 = iI bc) (h0 : 0 ≤ bc) (hb : bc ≤ 60) (hbo : ∀ j : Nat, (j : Int) < 3 * bc → gI m 13 j = gI m 79 (55 + j)) : F_Bk_tally a m = some (iI (tl (gI m 79) a bc.toNat : Nat), m) := by
  have key : ∀ (d k nf : Nat), (k : Int) + d = bc → d < nf → F_Bk_tally_L4 a nf (iI (tl (gI m 79) a k : Nat)) (iI k) m = some (iI (tl (gI m 79) a bc.toNat : Nat), m) := by
    intro d
    induction d with
    | zero =>
      intro k nf hk hnf
      obtain ⟨nf, rfl⟩ : ∃ x, nf = x + 1 := ⟨nf - 1, by omega⟩
      rw [F_Bk_tally_L4, hc, if_pos (by rw [iI_le (by omega) (by omega) (by omega) (by omega)]; omega), show bc.toNat = k by omega]
    | succ d ih =>
      intro k nf hk hnf
      obtain ⟨nf, rfl⟩ : ∃ x, nf = x + 1 := ⟨nf - 1, by omega⟩
      rw [F_Bk_tally_L4, hc, if_neg (by rw [iI_le (by omega) (by omega) (by omega) (by omega)]; omega), bnd_some (isSo_eq hb hbo (by omega)), lt_def]
      have h1 := ih (k + 1) nf (by omega) (by omega)
      simp only [tl] at h1
      rw [← b2i_add] at h1
      cases hs : soW (gI m 79) a k
      · rw [if_neg (by decide)]
        dsimp only
        rw [lt_def, lt_def, lt1, iI_add]
        rw [hs] at h1
        exact h1
      · rw [if_pos rfl]
        dsimp only
        rw [lt_def, lt_def, lt1, iI_add]
        rw [hs] at h1
        exact h1
  exact key bc.toNat 0 1000000 (by omega) (by omega)
theorem bookOf_eq {m : Mem} {bc : Int} {a : Int32} (hc : gI m 79 5 = iI bc) (h0 : 0 ≤ bc) (hb : bc ≤ 60) : F_M_bookOf a m = some (iI (tl (gI m 79) a bc.toNat : Nat), m) := by
  have key : ∀ (d k nf : Nat), (k : Int) + d = bc → d < nf → F_M_bookOf_L4 a nf (iI (tl (gI m 79) a k : Nat)) (iI k) m = some (iI (tl (gI m 79) a bc.toNat : Nat), m) := by
    intro d
    induction d with
    | zero =>
      intro k nf hk hnf
      obtain ⟨nf, rfl⟩ : ∃ x, nf = x + 1 := ⟨nf - 1, by omega⟩
      rw [F_M_bookOf_L4, hc, if_pos (by rw [iI_le (by omega) (by omega) (by omega) (by omega)]; omega), show bc.toNat = k by omega]
    | succ d ih =>
      intro k nf hk hnf
      obtain ⟨nf, rfl⟩ : ∃ x, nf = x + 1 := ⟨nf - 1, by omega⟩
      rw [F_M_bookOf_L4, hc, if_neg (by rw [iI_le (by omega) (by omega) (by omega) (by omega)]; omega), bnd_some (isSuch_eq (by omega)), lt_def]
      have h1 := ih (k + 1) nf (by omega) (by omega)
      simp only [tl] at h1
      rw [← b2i_add] at h1
      cases hs : soW (gI m 79) a k
      · rw [if_neg (by decide)]
        dsimp only
        rw [lt_def, lt_def, lt1, iI_add]
        rw [hs] at h1
        exact h1
      · rw [if_pos rfl]
        dsimp only
        rw [lt_def, lt_def, lt1, iI_add]
        rw [hs] at h1
        exact h1
  exact key bc.toNat 0 1000000 (by omega) (by omega)
/-- the longest run and the run that goes on -/
def rn (w : Nat → Int32) (a : Int32) : Nat → Nat × Nat
  | 0 => (0, 0)
  | k + 1 => let r := if soW w a k = true then (rn w a k).2 + 1 else 0; (max (rn w a k).1 r, r)
theorem rn_le (w : Nat → Int32) (a : Int32) : ∀ k, (rn w a k).1 ≤ k ∧ (rn w a k).2 ≤ k
  | 0 => ⟨Nat.le_refl _, Nat.le_refl _⟩
  | k + 1 => by
    have := rn_le w a k
    simp only [rn]
    split <;> omega
theorem run_eq {m : Mem} {bc : Int} {a : Int32} (hc : gI m 12 0 = iI bc) (h0 : 0 ≤ bc) (hb : bc ≤ 60) (hbo : ∀ j : Nat, (j : Int) < 3 * bc → gI m 13 j = gI m 79 (55 + j)) : F_Bk_longestRun a m = some (iI ((rn (gI m 79) a bc.toNat).1 : Nat), m) := by
  have key : ∀ (d k nf : Nat), (k : Int) + d = bc → d < nf → F_Bk_longestRun_L7 a nf (iI ((rn (gI m 79) a k).1 : Nat)) (iI ((rn (gI m 79) a k).2 : Nat)) (iI k) m = some (iI ((rn (gI m 79) a bc.toNat).1 : Nat), m) := by
    intro d
    induction d with
    | zero =>
      intro k nf hk hnf
      obtain ⟨nf, rfl⟩ : ∃ x, nf = x + 1 := ⟨nf - 1, by omega⟩
      rw [F_Bk_longestRun_L7, hc, if_pos (by rw [iI_le (by omega) (by omega) (by omega) (by omega)]; omega), show bc.toNat = k by omega]
    | succ d ih =>
      intro k nf hk hnf
      obtain ⟨nf, rfl⟩ : ∃ x, nf = x + 1 := ⟨nf - 1, by omega⟩
      have hr := rn_le (gI m 79) a k
      rw [F_Bk_longestRun_L7, hc, if_neg (by rw [iI_le (by omega) (by omega) (by omega) (by omega)]; omega), bnd_some (isSo_eq hb hbo (by omega)), lt_def]
      have h1 := ih (k + 1) nf (by omega) (by omega)
      simp only [rn] at h1
      cases hs : soW (gI m 79) a k
      · rw [if_neg (by decide)]
        dsimp only
        rw [hs, if_neg (by decide)] at h1
        rw [lt_def, lt_def, lt1, lt0, iI_add, mxI_iI (by omega) (by omega) (by omega) (by omega)]
        rw [show ((max (rn (gI m 79) a k).1 0 : Nat) : Int) = max ((rn (gI m 79) a k).1 : Int) 0 by omega] at h1
        exact h1
      · rw [if_pos rfl]
        dsimp only
        rw [hs, if_pos rfl] at h1
        rw [lt_def, lt_def, lt1, iI_add, iI_add, mxI_iI (by omega) (by omega) (by omega) (by omega)]
        rw [show ((max (rn (gI m 79) a k).1 ((rn (gI m 79) a k).2 + 1) : Nat) : Int) = max ((rn (gI m 79) a k).1 : Int) (((rn (gI m 79) a k).2 : Int) + 1) by omega] at h1
        exact h1
  exact key bc.toNat 0 1000000 (by omega) (by omega)
theorem Mrun_eq {m : Mem} {bc z : Int} (hc : gI m 79 5 = iI bc) (h0 : 0 ≤ bc) (hb : bc ≤ 60) : F_M_streak_L36 (iI z) 1000000 0 0 0 m = some (iI ((rn (gI m 79) (iI (z + 3)) bc.toNat).1 : Nat), m) := by
  have key : ∀ (d k nf : Nat), (k : Int) + d = bc → d < nf → F_M_streak_L36 (iI z) nf (iI ((rn (gI m 79) (iI (z + 3)) k).1 : Nat)) (iI ((rn (gI m 79) (iI (z + 3)) k).2 : Nat)) (iI k) m = some (iI ((rn (gI m 79) (iI (z + 3)) bc.toNat).1 : Nat), m) := by
    intro d
    induction d with
    | zero =>
      intro k nf hk hnf
      obtain ⟨nf, rfl⟩ : ∃ x, nf = x + 1 := ⟨nf - 1, by omega⟩
      rw [F_M_streak_L36, hc, if_pos (by rw [iI_le (by omega) (by omega) (by omega) (by omega)]; omega), show bc.toNat = k by omega]
    | succ d ih =>
      intro k nf hk hnf
      obtain ⟨nf, rfl⟩ : ∃ x, nf = x + 1 := ⟨nf - 1, by omega⟩
      have hr := rn_le (gI m 79) (iI (z + 3)) k
      rw [F_M_streak_L36, hc, if_neg (by rw [iI_le (by omega) (by omega) (by omega) (by omega)]; omega), lt3, iI_add, show 3 + z = z + 3 by omega, bnd_some (isSuch_eq (by omega)), lt_def]
      have h1 := ih (k + 1) nf (by omega) (by omega)
      simp only [rn] at h1
      cases hs : soW (gI m 79) (iI (z + 3)) k
      · rw [if_neg (by decide)]
        dsimp only
        rw [hs, if_neg (by decide)] at h1
        rw [lt_def, lt_def, lt1, lt0, iI_add, mxI_iI (by omega) (by omega) (by omega) (by omega)]
        rw [show ((max (rn (gI m 79) (iI (z + 3)) k).1 0 : Nat) : Int) = max ((rn (gI m 79) (iI (z + 3)) k).1 : Int) 0 by omega] at h1
        exact h1
      · rw [if_pos rfl]
        dsimp only
        rw [hs, if_pos rfl] at h1
        rw [lt_def, lt_def, lt1, iI_add, iI_add, mxI_iI (by omega) (by omega) (by omega) (by omega)]
        rw [show ((max (rn (gI m 79) (iI (z + 3)) k).1 ((rn (gI m 79) (iI (z + 3)) k).2 + 1) : Nat) : Int) = max ((rn (gI m 79) (iI (z + 3)) k).1 : Int) (((rn (gI m 79) (iI (z + 3)) k).2 : Int) + 1) by omega] at h1
        exact h1
  exact key bc.toNat 0 1000000 (by omega) (by omega)
theorem book_op {B : Nat} {law : Option (List (Int × List Int))} {n mg wd tx bc : Int} {t : Mt} {m : Mem} (h : IV B law n mg wd tx bc t m) (a : Int32) : Both B cdN (F_T_book a) (F_M_book a) m := by
  obtain ⟨z, rfl, z1, z2⟩ := iI_ex a
  unfold Both
  have e1 := tally_eq (a := iI z) h.gr.cbc h.gr.bc0 h.gr.bc9 h.gr.bo
  have e2 : F_M_bookOf (iI z) (sI m 78 0 0) = some (iI (tl (gI m 79) (iI z) bc.toNat : Nat), sI m 78 0 0) := bookOf_eq (m := sI m 78 0 0) h.gr.wbc h.gr.bc0 h.gr.bc9
  repeat' (first
    | (with_reducible refine ok_ck ?_ ?_; focus (simp (disch := omega) only [↓lt_def, ↓reduceIte, ckB_true, bnd_e, Int.reduceAdd, Int.reduceSub, Int.reduceMul, Int.reduceNeg, Int.reduceToNat, Bool.false_eq_true, eq_self, not_false_eq_true, not_true_eq_false, Int.toNat_natCast, lt0, lt1, lt2, lt3, lt4, lt5, lt6, lt7, lt8, lt9, lt10, lt11, lt12, lt13, lt14, lt15, lt16, lt17, lt18, lt19, lt20, lt21, lt22, lt23, lt24, lt25, lt26, lt27, lt28, lt29, lt30, lt31, lt32, lt40, lt41, lt43, lt48, lt55, lt57, lt59, lt60, lt62, lt63, lt64, lt70, lt72, lt81, lt97, lt99, lt100, lt122, lt162, lt180, lt235, lt255, lt298, lt299, lt325, lt335, lt400, lt837, lt999, lt1000, lt1001, lt1002, lt1003, lt1004, lt1005, lt1006, lt1007, lt1008, lt1100, lt1101, lt1102, lt1103, lt1104, lt1105, lt1135, lt1136, lt1172, lt2000, lt3278, lt3575, lt10000, lt12345, lt21450, lt32767, lt193050, lt1103515245, ltm162, ltm99, ltm81, ltm8, ltm1, iI_add, iI_sub, iI_mul, iI_neg, iI_divn, iI_lt_t, iI_lt_f, iI_le_t, iI_le_f, iI_eq_t, iI_eq_f, iI_lt, iI_le, iI_eq, iI_idx, iI_inb, gI_sI, gL_sL, gZ_sZ, gI_sL, gI_sZ, gL_sI, gL_sZ, gZ_sI, gZ_sL, Nat.reduceEqDiff, false_and, and_false, and_true, true_and, and_self]; done))
    | (with_reducible refine ok_bnd_e (e1) ?_)
    | (with_reducible refine ok_bnd_e (e2) ?_)
    | (with_reducible refine ok_bnd ?_)
    | (with_reducible refine ok_bndX ?_)
    | (with_reducible refine ok_lt ?_)
    | (with_reducible refine ok_t ?_ ?_; focus (simp (disch := omega) only [↓lt_def, ↓reduceIte, ckB_true, bnd_e, Int.reduceAdd, Int.reduceSub, Int.reduceMul, Int.reduceNeg, Int.reduceToNat, Bool.false_eq_true, eq_self, not_false_eq_true, not_true_eq_false, Int.toNat_natCast, lt0, lt1, lt2, lt3, lt4, lt5, lt6, lt7, lt8, lt9, lt10, lt11, lt12, lt13, lt14, lt15, lt16, lt17, lt18, lt19, lt20, lt21, lt22, lt23, lt24, lt25, lt26, lt27, lt28, lt29, lt30, lt31, lt32, lt40, lt41, lt43, lt48, lt55, lt57, lt59, lt60, lt62, lt63, lt64, lt70, lt72, lt81, lt97, lt99, lt100, lt122, lt162, lt180, lt235, lt255, lt298, lt299, lt325, lt335, lt400, lt837, lt999, lt1000, lt1001, lt1002, lt1003, lt1004, lt1005, lt1006, lt1007, lt1008, lt1100, lt1101, lt1102, lt1103, lt1104, lt1105, lt1135, lt1136, lt1172, lt2000, lt3278, lt3575, lt10000, lt12345, lt21450, lt32767, lt193050, lt1103515245, ltm162, ltm99, ltm81, ltm8, ltm1, iI_add, iI_sub, iI_mul, iI_neg, iI_divn, iI_lt_t, iI_lt_f, iI_le_t, iI_le_f, iI_eq_t, iI_eq_f, iI_lt, iI_le, iI_eq, iI_idx, iI_inb, gI_sI, gL_sL, gZ_sZ, gI_sL, gI_sZ, gL_sI, gL_sZ, gZ_sI, gZ_sL, Nat.reduceEqDiff, false_and, and_false, and_true, true_and, and_self]; done))
    | (with_reducible refine ok_f ?_ ?_; focus (simp (disch := omega) only [↓lt_def, ↓reduceIte, ckB_true, bnd_e, Int.reduceAdd, Int.reduceSub, Int.reduceMul, Int.reduceNeg, Int.reduceToNat, Bool.false_eq_true, eq_self, not_false_eq_true, not_true_eq_false, Int.toNat_natCast, lt0, lt1, lt2, lt3, lt4, lt5, lt6, lt7, lt8, lt9, lt10, lt11, lt12, lt13, lt14, lt15, lt16, lt17, lt18, lt19, lt20, lt21, lt22, lt23, lt24, lt25, lt26, lt27, lt28, lt29, lt30, lt31, lt32, lt40, lt41, lt43, lt48, lt55, lt57, lt59, lt60, lt62, lt63, lt64, lt70, lt72, lt81, lt97, lt99, lt100, lt122, lt162, lt180, lt235, lt255, lt298, lt299, lt325, lt335, lt400, lt837, lt999, lt1000, lt1001, lt1002, lt1003, lt1004, lt1005, lt1006, lt1007, lt1008, lt1100, lt1101, lt1102, lt1103, lt1104, lt1105, lt1135, lt1136, lt1172, lt2000, lt3278, lt3575, lt10000, lt12345, lt21450, lt32767, lt193050, lt1103515245, ltm162, ltm99, ltm81, ltm8, ltm1, iI_add, iI_sub, iI_mul, iI_neg, iI_divn, iI_lt_t, iI_lt_f, iI_le_t, iI_le_f, iI_eq_t, iI_eq_f, iI_lt, iI_le, iI_eq, iI_idx, iI_inb, gI_sI, gL_sL, gZ_sZ, gI_sL, gI_sZ, gL_sI, gL_sZ, gZ_sI, gZ_sL, Nat.reduceEqDiff, false_and, and_false, and_true, true_and, and_self]; done))
    | ((with_reducible refine ok_ite (fun hc => ?_) (fun hc => ?_)) <;> (try simp (disch := omega) only [↓lt_def, ↓reduceIte, ckB_true, bnd_e, Int.reduceAdd, Int.reduceSub, Int.reduceMul, Int.reduceNeg, Int.reduceToNat, Bool.false_eq_true, eq_self, not_false_eq_true, not_true_eq_false, Int.toNat_natCast, lt0, lt1, lt2, lt3, lt4, lt5, lt6, lt7, lt8, lt9, lt10, lt11, lt12, lt13, lt14, lt15, lt16, lt17, lt18, lt19, lt20, lt21, lt22, lt23, lt24, lt25, lt26, lt27, lt28, lt29, lt30, lt31, lt32, lt40, lt41, lt43, lt48, lt55, lt57, lt59, lt60, lt62, lt63, lt64, lt70, lt72, lt81, lt97, lt99, lt100, lt122, lt162, lt180, lt235, lt255, lt298, lt299, lt325, lt335, lt400, lt837, lt999, lt1000, lt1001, lt1002, lt1003, lt1004, lt1005, lt1006, lt1007, lt1008, lt1100, lt1101, lt1102, lt1103, lt1104, lt1105, lt1135, lt1136, lt1172, lt2000, lt3278, lt3575, lt10000, lt12345, lt21450, lt32767, lt193050, lt1103515245, ltm162, ltm99, ltm81, ltm8, ltm1, iI_add, iI_sub, iI_mul, iI_neg, iI_divn, iI_lt_t, iI_lt_f, iI_le_t, iI_le_f, iI_eq_t, iI_eq_f, iI_lt, iI_le, iI_eq, iI_idx, iI_inb, gI_sI, gL_sL, gZ_sZ, gI_sL, gI_sZ, gL_sI, gL_sZ, gZ_sI, gZ_sL, Nat.reduceEqDiff, false_and, and_false, and_true, true_and, and_self] at hc) <;> (try (exfalso; omega)))
    | (with_reducible refine ok_some ?_)
    | (with_reducible refine ok_xr ?_)
    | (with_reducible refine ok_xl ?_)
    | (unfold F_T_book)
    | (unfold F_M_book)
    | (unfold F_M_in)
    | (unfold F_M_throwsIf))
  all_goals first | exact ⟨ans_l (by decide) rfl, (h.thr thr_ss).inv⟩ | exact ⟨ans_r rfl, (h.thr thr_s).inv⟩ | (refine ⟨ans_r ?_, (h.thr thr_s).inv⟩; simp (disch := omega) only [↓lt_def, ↓reduceIte, ckB_true, bnd_e, Int.reduceAdd, Int.reduceSub, Int.reduceMul, Int.reduceNeg, Int.reduceToNat, Bool.false_eq_true, eq_self, not_false_eq_true, not_true_eq_false, Int.toNat_natCast, lt0, lt1, lt2, lt3, lt4, lt5, lt6, lt7, lt8, lt9, lt10, lt11, lt12, lt13, lt14, lt15, lt16, lt17, lt18, lt19, lt20, lt21, lt22, lt23, lt24, lt25, lt26, lt27, lt28, lt29, lt30, lt31, lt32, lt40, lt41, lt43, lt48, lt55, lt57, lt59, lt60, lt62, lt63, lt64, lt70, lt72, lt81, lt97, lt99, lt100, lt122, lt162, lt180, lt235, lt255, lt298, lt299, lt325, lt335, lt400, lt837, lt999, lt1000, lt1001, lt1002, lt1003, lt1004, lt1005, lt1006, lt1007, lt1008, lt1100, lt1101, lt1102, lt1103, lt1104, lt1105, lt1135, lt1136, lt1172, lt2000, lt3278, lt3575, lt10000, lt12345, lt21450, lt32767, lt193050, lt1103515245, ltm162, ltm99, ltm81, ltm8, ltm1, iI_add, iI_sub, iI_mul, iI_neg, iI_divn, iI_lt_t, iI_lt_f, iI_le_t, iI_le_f, iI_eq_t, iI_eq_f, iI_lt, iI_le, iI_eq, iI_idx, iI_inb, gI_sI, gL_sL, gZ_sZ, gI_sL, gI_sZ, gL_sI, gL_sZ, gZ_sI, gZ_sL, Nat.reduceEqDiff, false_and, and_false, and_true, true_and, and_self, h]; done)
theorem share_op {B : Nat} {law : Option (List (Int × List Int))} {n mg wd tx bc : Int} {t : Mt} {m : Mem} (h : IV B law n mg wd tx bc t m) (a b : Int32) : Both B cdN (F_T_share a b) (F_M_share a b) m := by
  obtain ⟨z, rfl, z1, z2⟩ := iI_ex a
  obtain ⟨y, rfl, y1, y2⟩ := iI_ex b
  unfold Both
  have bc9 := h.gr.bc9
  have e1 := tally_eq (a := iI z) h.gr.cbc h.gr.bc0 h.gr.bc9 h.gr.bo
  have e2 : F_M_bookOf (iI z) (sI m 78 0 0) = some (iI (tl (gI m 79) (iI z) bc.toNat : Nat), sI m 78 0 0) := bookOf_eq (m := sI m 78 0 0) h.gr.wbc h.gr.bc0 h.gr.bc9
  have e3 := tally_eq (a := iI y) h.gr.cbc h.gr.bc0 h.gr.bc9 h.gr.bo
  have e4 : F_M_bookOf (iI y) (sI m 78 0 0) = some (iI (tl (gI m 79) (iI y) bc.toNat : Nat), sI m 78 0 0) := bookOf_eq (m := sI m 78 0 0) h.gr.wbc h.gr.bc0 h.gr.bc9
  have l1 := tl_le (gI m 79) (iI z) bc.toNat
  have l2 := tl_le (gI m 79) (iI y) bc.toNat
  generalize tl (gI m 79) (iI z) bc.toNat = p at *
  generalize tl (gI m 79) (iI y) bc.toNat = q at *
  repeat' (first
    | (with_reducible refine ok_ck ?_ ?_; focus (simp (disch := omega) only [↓lt_def, ↓reduceIte, ckB_true, bnd_e, Int.reduceAdd, Int.reduceSub, Int.reduceMul, Int.reduceNeg, Int.reduceToNat, Bool.false_eq_true, eq_self, not_false_eq_true, not_true_eq_false, Int.toNat_natCast, lt0, lt1, lt2, lt3, lt4, lt5, lt6, lt7, lt8, lt9, lt10, lt11, lt12, lt13, lt14, lt15, lt16, lt17, lt18, lt19, lt20, lt21, lt22, lt23, lt24, lt25, lt26, lt27, lt28, lt29, lt30, lt31, lt32, lt40, lt41, lt43, lt48, lt55, lt57, lt59, lt60, lt62, lt63, lt64, lt70, lt72, lt81, lt97, lt99, lt100, lt122, lt162, lt180, lt235, lt255, lt298, lt299, lt325, lt335, lt400, lt837, lt999, lt1000, lt1001, lt1002, lt1003, lt1004, lt1005, lt1006, lt1007, lt1008, lt1100, lt1101, lt1102, lt1103, lt1104, lt1105, lt1135, lt1136, lt1172, lt2000, lt3278, lt3575, lt10000, lt12345, lt21450, lt32767, lt193050, lt1103515245, ltm162, ltm99, ltm81, ltm8, ltm1, iI_add, iI_sub, iI_mul, iI_neg, iI_divn, iI_lt_t, iI_lt_f, iI_le_t, iI_le_f, iI_eq_t, iI_eq_f, iI_lt, iI_le, iI_eq, iI_idx, iI_inb, gI_sI, gL_sL, gZ_sZ, gI_sL, gI_sZ, gL_sI, gL_sZ, gZ_sI, gZ_sL, Nat.reduceEqDiff, false_and, and_false, and_true, true_and, and_self, Bool.not_eq_true', decide_eq_false_iff_not]; done))
    | (with_reducible refine ok_bnd_e (e1) ?_)
    | (with_reducible refine ok_bnd_e (e2) ?_)
    | (with_reducible refine ok_bnd_e (e3) ?_)
    | (with_reducible refine ok_bnd_e (e4) ?_)
    | (with_reducible refine ok_bnd ?_)
    | (with_reducible refine ok_bndX ?_)
    | (with_reducible refine ok_lt ?_)
    | (with_reducible refine ok_t ?_ ?_; focus (simp (disch := omega) only [↓lt_def, ↓reduceIte, ckB_true, bnd_e, Int.reduceAdd, Int.reduceSub, Int.reduceMul, Int.reduceNeg, Int.reduceToNat, Bool.false_eq_true, eq_self, not_false_eq_true, not_true_eq_false, Int.toNat_natCast, lt0, lt1, lt2, lt3, lt4, lt5, lt6, lt7, lt8, lt9, lt10, lt11, lt12, lt13, lt14, lt15, lt16, lt17, lt18, lt19, lt20, lt21, lt22, lt23, lt24, lt25, lt26, lt27, lt28, lt29, lt30, lt31, lt32, lt40, lt41, lt43, lt48, lt55, lt57, lt59, lt60, lt62, lt63, lt64, lt70, lt72, lt81, lt97, lt99, lt100, lt122, lt162, lt180, lt235, lt255, lt298, lt299, lt325, lt335, lt400, lt837, lt999, lt1000, lt1001, lt1002, lt1003, lt1004, lt1005, lt1006, lt1007, lt1008, lt1100, lt1101, lt1102, lt1103, lt1104, lt1105, lt1135, lt1136, lt1172, lt2000, lt3278, lt3575, lt10000, lt12345, lt21450, lt32767, lt193050, lt1103515245, ltm162, ltm99, ltm81, ltm8, ltm1, iI_add, iI_sub, iI_mul, iI_neg, iI_divn, iI_lt_t, iI_lt_f, iI_le_t, iI_le_f, iI_eq_t, iI_eq_f, iI_lt, iI_le, iI_eq, iI_idx, iI_inb, gI_sI, gL_sL, gZ_sZ, gI_sL, gI_sZ, gL_sI, gL_sZ, gZ_sI, gZ_sL, Nat.reduceEqDiff, false_and, and_false, and_true, true_and, and_self, Bool.not_eq_true', decide_eq_false_iff_not]; done))
    | (with_reducible refine ok_f ?_ ?_; focus (simp (disch := omega) only [↓lt_def, ↓reduceIte, ckB_true, bnd_e, Int.reduceAdd, Int.reduceSub, Int.reduceMul, Int.reduceNeg, Int.reduceToNat, Bool.false_eq_true, eq_self, not_false_eq_true, not_true_eq_false, Int.toNat_natCast, lt0, lt1, lt2, lt3, lt4, lt5, lt6, lt7, lt8, lt9, lt10, lt11, lt12, lt13, lt14, lt15, lt16, lt17, lt18, lt19, lt20, lt21, lt22, lt23, lt24, lt25, lt26, lt27, lt28, lt29, lt30, lt31, lt32, lt40, lt41, lt43, lt48, lt55, lt57, lt59, lt60, lt62, lt63, lt64, lt70, lt72, lt81, lt97, lt99, lt100, lt122, lt162, lt180, lt235, lt255, lt298, lt299, lt325, lt335, lt400, lt837, lt999, lt1000, lt1001, lt1002, lt1003, lt1004, lt1005, lt1006, lt1007, lt1008, lt1100, lt1101, lt1102, lt1103, lt1104, lt1105, lt1135, lt1136, lt1172, lt2000, lt3278, lt3575, lt10000, lt12345, lt21450, lt32767, lt193050, lt1103515245, ltm162, ltm99, ltm81, ltm8, ltm1, iI_add, iI_sub, iI_mul, iI_neg, iI_divn, iI_lt_t, iI_lt_f, iI_le_t, iI_le_f, iI_eq_t, iI_eq_f, iI_lt, iI_le, iI_eq, iI_idx, iI_inb, gI_sI, gL_sL, gZ_sZ, gI_sL, gI_sZ, gL_sI, gL_sZ, gZ_sI, gZ_sL, Nat.reduceEqDiff, false_and, and_false, and_true, true_and, and_self, Bool.not_eq_true', decide_eq_false_iff_not]; done))
    | ((with_reducible refine ok_ite (fun hc => ?_) (fun hc => ?_)) <;> (try simp (disch := omega) only [↓lt_def, ↓reduceIte, ckB_true, bnd_e, Int.reduceAdd, Int.reduceSub, Int.reduceMul, Int.reduceNeg, Int.reduceToNat, Bool.false_eq_true, eq_self, not_false_eq_true, not_true_eq_false, Int.toNat_natCast, lt0, lt1, lt2, lt3, lt4, lt5, lt6, lt7, lt8, lt9, lt10, lt11, lt12, lt13, lt14, lt15, lt16, lt17, lt18, lt19, lt20, lt21, lt22, lt23, lt24, lt25, lt26, lt27, lt28, lt29, lt30, lt31, lt32, lt40, lt41, lt43, lt48, lt55, lt57, lt59, lt60, lt62, lt63, lt64, lt70, lt72, lt81, lt97, lt99, lt100, lt122, lt162, lt180, lt235, lt255, lt298, lt299, lt325, lt335, lt400, lt837, lt999, lt1000, lt1001, lt1002, lt1003, lt1004, lt1005, lt1006, lt1007, lt1008, lt1100, lt1101, lt1102, lt1103, lt1104, lt1105, lt1135, lt1136, lt1172, lt2000, lt3278, lt3575, lt10000, lt12345, lt21450, lt32767, lt193050, lt1103515245, ltm162, ltm99, ltm81, ltm8, ltm1, iI_add, iI_sub, iI_mul, iI_neg, iI_divn, iI_lt_t, iI_lt_f, iI_le_t, iI_le_f, iI_eq_t, iI_eq_f, iI_lt, iI_le, iI_eq, iI_idx, iI_inb, gI_sI, gL_sL, gZ_sZ, gI_sL, gI_sZ, gL_sI, gL_sZ, gZ_sI, gZ_sL, Nat.reduceEqDiff, false_and, and_false, and_true, true_and, and_self, Bool.not_eq_true', decide_eq_false_iff_not] at hc) <;> (try (exfalso; omega)))
    | (with_reducible refine ok_some ?_)
    | (with_reducible refine ok_xr ?_)
    | (with_reducible refine ok_xl ?_)
    | (unfold F_T_share)
    | (unfold F_M_share)
    | (unfold F_M_in)
    | (unfold F_M_throwsIf))
  all_goals first | exact ⟨ans_l (by decide) rfl, (h.thr thr_ss).inv⟩ | exact ⟨ans_r rfl, (h.thr thr_s).inv⟩ | skip
  refine ⟨ans_r ?_, (h.thr thr_s).inv⟩
  rw [show (10000 : Int32) = iI 10000 from rfl, iI_mul, iI_mul, Int.mul_comm]
theorem habit_op {B : Nat} {law : Option (List (Int × List Int))} {n mg wd tx bc : Int} {t : Mt} {m : Mem} (h : IV B law n mg wd tx bc t m) (a : Bool) : Ok (F_T_habit a m) (fun rT m1 => Ok (F_M_habit a m1) (fun rM m2 => rT = rM ∧ Inv B m2)) := by
  have bc9 := h.gr.bc9
  have e := fun a => tally_eq (a := a) h.gr.cbc h.gr.bc0 h.gr.bc9 h.gr.bo
  have e' : ∀ a, F_M_bookOf a (sI m 78 0 0) = some (iI (tl (gI m 79) a bc.toNat : Nat), sI m 78 0 0) := fun a => bookOf_eq (m := sI m 78 0 0) h.gr.wbc h.gr.bc0 h.gr.bc9
  have l0 := tl_le (gI m 79) 0 bc.toNat
  have l1 := tl_le (gI m 79) 1 bc.toNat
  have l3 := tl_le (gI m 79) 3 bc.toNat
  have l5 := tl_le (gI m 79) 5 bc.toNat
  have e0 := e 0
  have e1 := e 1
  have e3 := e 3
  have e5 := e 5
  have f0 := e' 0
  have f1 := e' 1
  have f3 := e' 3
  have f5 := e' 5
  generalize tl (gI m 79) 0 bc.toNat = p0 at *
  generalize tl (gI m 79) 1 bc.toNat = p1 at *
  generalize tl (gI m 79) 3 bc.toNat = p3 at *
  generalize tl (gI m 79) 5 bc.toNat = p5 at *
  cases a
  all_goals skip
  repeat' (first
    | (with_reducible refine ok_ck ?_ ?_; focus (simp (disch := omega) only [↓lt_def, ↓reduceIte, ckB_true, bnd_e, Int.reduceAdd, Int.reduceSub, Int.reduceMul, Int.reduceNeg, Int.reduceToNat, Bool.false_eq_true, eq_self, not_false_eq_true, not_true_eq_false, Int.toNat_natCast, lt0, lt1, lt2, lt3, lt4, lt5, lt6, lt7, lt8, lt9, lt10, lt11, lt12, lt13, lt14, lt15, lt16, lt17, lt18, lt19, lt20, lt21, lt22, lt23, lt24, lt25, lt26, lt27, lt28, lt29, lt30, lt31, lt32, lt40, lt41, lt43, lt48, lt55, lt57, lt59, lt60, lt62, lt63, lt64, lt70, lt72, lt81, lt97, lt99, lt100, lt122, lt162, lt180, lt235, lt255, lt298, lt299, lt325, lt335, lt400, lt837, lt999, lt1000, lt1001, lt1002, lt1003, lt1004, lt1005, lt1006, lt1007, lt1008, lt1100, lt1101, lt1102, lt1103, lt1104, lt1105, lt1135, lt1136, lt1172, lt2000, lt3278, lt3575, lt10000, lt12345, lt21450, lt32767, lt193050, lt1103515245, ltm162, ltm99, ltm81, ltm8, ltm1, iI_add, iI_sub, iI_mul, iI_neg, iI_divn, iI_lt_t, iI_lt_f, iI_le_t, iI_le_f, iI_eq_t, iI_eq_f, iI_lt, iI_le, iI_eq, iI_idx, iI_inb, gI_sI, gL_sL, gZ_sZ, gI_sL, gI_sZ, gL_sI, gL_sZ, gZ_sI, gZ_sL, Nat.reduceEqDiff, false_and, and_false, and_true, true_and, and_self]; done))
    | (with_reducible refine ok_bnd_e (e0) ?_)
    | (with_reducible refine ok_bnd_e (e1) ?_)
    | (with_reducible refine ok_bnd_e (e3) ?_)
    | (with_reducible refine ok_bnd_e (e5) ?_)
    | (with_reducible refine ok_bnd_e (f0) ?_)
    | (with_reducible refine ok_bnd_e (f1) ?_)
    | (with_reducible refine ok_bnd_e (f3) ?_)
    | (with_reducible refine ok_bnd_e (f5) ?_)
    | (with_reducible refine ok_bnd ?_)
    | (with_reducible refine ok_bndX ?_)
    | (with_reducible refine ok_lt ?_)
    | (with_reducible refine ok_t ?_ ?_; focus (simp (disch := omega) only [↓lt_def, ↓reduceIte, ckB_true, bnd_e, Int.reduceAdd, Int.reduceSub, Int.reduceMul, Int.reduceNeg, Int.reduceToNat, Bool.false_eq_true, eq_self, not_false_eq_true, not_true_eq_false, Int.toNat_natCast, lt0, lt1, lt2, lt3, lt4, lt5, lt6, lt7, lt8, lt9, lt10, lt11, lt12, lt13, lt14, lt15, lt16, lt17, lt18, lt19, lt20, lt21, lt22, lt23, lt24, lt25, lt26, lt27, lt28, lt29, lt30, lt31, lt32, lt40, lt41, lt43, lt48, lt55, lt57, lt59, lt60, lt62, lt63, lt64, lt70, lt72, lt81, lt97, lt99, lt100, lt122, lt162, lt180, lt235, lt255, lt298, lt299, lt325, lt335, lt400, lt837, lt999, lt1000, lt1001, lt1002, lt1003, lt1004, lt1005, lt1006, lt1007, lt1008, lt1100, lt1101, lt1102, lt1103, lt1104, lt1105, lt1135, lt1136, lt1172, lt2000, lt3278, lt3575, lt10000, lt12345, lt21450, lt32767, lt193050, lt1103515245, ltm162, ltm99, ltm81, ltm8, ltm1, iI_add, iI_sub, iI_mul, iI_neg, iI_divn, iI_lt_t, iI_lt_f, iI_le_t, iI_le_f, iI_eq_t, iI_eq_f, iI_lt, iI_le, iI_eq, iI_idx, iI_inb, gI_sI, gL_sL, gZ_sZ, gI_sL, gI_sZ, gL_sI, gL_sZ, gZ_sI, gZ_sL, Nat.reduceEqDiff, false_and, and_false, and_true, true_and, and_self]; done))
    | (with_reducible refine ok_f ?_ ?_; focus (simp (disch := omega) only [↓lt_def, ↓reduceIte, ckB_true, bnd_e, Int.reduceAdd, Int.reduceSub, Int.reduceMul, Int.reduceNeg, Int.reduceToNat, Bool.false_eq_true, eq_self, not_false_eq_true, not_true_eq_false, Int.toNat_natCast, lt0, lt1, lt2, lt3, lt4, lt5, lt6, lt7, lt8, lt9, lt10, lt11, lt12, lt13, lt14, lt15, lt16, lt17, lt18, lt19, lt20, lt21, lt22, lt23, lt24, lt25, lt26, lt27, lt28, lt29, lt30, lt31, lt32, lt40, lt41, lt43, lt48, lt55, lt57, lt59, lt60, lt62, lt63, lt64, lt70, lt72, lt81, lt97, lt99, lt100, lt122, lt162, lt180, lt235, lt255, lt298, lt299, lt325, lt335, lt400, lt837, lt999, lt1000, lt1001, lt1002, lt1003, lt1004, lt1005, lt1006, lt1007, lt1008, lt1100, lt1101, lt1102, lt1103, lt1104, lt1105, lt1135, lt1136, lt1172, lt2000, lt3278, lt3575, lt10000, lt12345, lt21450, lt32767, lt193050, lt1103515245, ltm162, ltm99, ltm81, ltm8, ltm1, iI_add, iI_sub, iI_mul, iI_neg, iI_divn, iI_lt_t, iI_lt_f, iI_le_t, iI_le_f, iI_eq_t, iI_eq_f, iI_lt, iI_le, iI_eq, iI_idx, iI_inb, gI_sI, gL_sL, gZ_sZ, gI_sL, gI_sZ, gL_sI, gL_sZ, gZ_sI, gZ_sL, Nat.reduceEqDiff, false_and, and_false, and_true, true_and, and_self]; done))
    | ((with_reducible refine ok_ite (fun hc => ?_) (fun hc => ?_)) <;> (try simp (disch := omega) only [↓lt_def, ↓reduceIte, ckB_true, bnd_e, Int.reduceAdd, Int.reduceSub, Int.reduceMul, Int.reduceNeg, Int.reduceToNat, Bool.false_eq_true, eq_self, not_false_eq_true, not_true_eq_false, Int.toNat_natCast, lt0, lt1, lt2, lt3, lt4, lt5, lt6, lt7, lt8, lt9, lt10, lt11, lt12, lt13, lt14, lt15, lt16, lt17, lt18, lt19, lt20, lt21, lt22, lt23, lt24, lt25, lt26, lt27, lt28, lt29, lt30, lt31, lt32, lt40, lt41, lt43, lt48, lt55, lt57, lt59, lt60, lt62, lt63, lt64, lt70, lt72, lt81, lt97, lt99, lt100, lt122, lt162, lt180, lt235, lt255, lt298, lt299, lt325, lt335, lt400, lt837, lt999, lt1000, lt1001, lt1002, lt1003, lt1004, lt1005, lt1006, lt1007, lt1008, lt1100, lt1101, lt1102, lt1103, lt1104, lt1105, lt1135, lt1136, lt1172, lt2000, lt3278, lt3575, lt10000, lt12345, lt21450, lt32767, lt193050, lt1103515245, ltm162, ltm99, ltm81, ltm8, ltm1, iI_add, iI_sub, iI_mul, iI_neg, iI_divn, iI_lt_t, iI_lt_f, iI_le_t, iI_le_f, iI_eq_t, iI_eq_f, iI_lt, iI_le, iI_eq, iI_idx, iI_inb, gI_sI, gL_sL, gZ_sZ, gI_sL, gI_sZ, gL_sI, gL_sZ, gZ_sI, gZ_sL, Nat.reduceEqDiff, false_and, and_false, and_true, true_and, and_self] at hc) <;> (try (exfalso; omega)))
    | (with_reducible refine ok_some ?_)
    | (with_reducible refine ok_xr ?_)
    | (with_reducible refine ok_xl ?_)
    | (unfold F_T_habit)
    | (unfold F_M_habit))
  all_goals exact ⟨rfl, (h.thr thr_s).inv⟩
theorem streak_op {B : Nat} {law : Option (List (Int × List Int))} {n mg wd tx bc : Int} {t : Mt} {m : Mem} (h : IV B law n mg wd tx bc t m) (a : Int32) : Both B cdN (F_T_streak a) (F_M_streak a) m := by
  obtain ⟨z, rfl, z1, z2⟩ := iI_ex a
  unfold Both
  have e1 := run_eq (a := iI z + 3) h.gr.cbc h.gr.bc0 h.gr.bc9 h.gr.bo
  have e2 : F_M_streak_L36 (iI z) 1000000 0 0 0 (sI m 78 0 0) = some (iI ((rn (gI m 79) (iI (z + 3)) bc.toNat).1 : Nat), sI m 78 0 0) := Mrun_eq (m := sI m 78 0 0) h.gr.wbc h.gr.bc0 h.gr.bc9
  rw [show (iI z + 3 : Int32) = iI (z + 3) by rw [lt3, iI_add]] at e1
  have e3 : F_Bk_longestRun (iI z + 3) m = some (iI ((rn (gI m 79) (iI (z + 3)) bc.toNat).1 : Nat), m) := by rw [lt3, iI_add]; exact e1
  repeat' (first
    | (with_reducible refine ok_ck ?_ ?_; focus (simp (disch := omega) only [↓lt_def, ↓reduceIte, ckB_true, bnd_e, Int.reduceAdd, Int.reduceSub, Int.reduceMul, Int.reduceNeg, Int.reduceToNat, Bool.false_eq_true, eq_self, not_false_eq_true, not_true_eq_false, Int.toNat_natCast, lt0, lt1, lt2, lt3, lt4, lt5, lt6, lt7, lt8, lt9, lt10, lt11, lt12, lt13, lt14, lt15, lt16, lt17, lt18, lt19, lt20, lt21, lt22, lt23, lt24, lt25, lt26, lt27, lt28, lt29, lt30, lt31, lt32, lt40, lt41, lt43, lt48, lt55, lt57, lt59, lt60, lt62, lt63, lt64, lt70, lt72, lt81, lt97, lt99, lt100, lt122, lt162, lt180, lt235, lt255, lt298, lt299, lt325, lt335, lt400, lt837, lt999, lt1000, lt1001, lt1002, lt1003, lt1004, lt1005, lt1006, lt1007, lt1008, lt1100, lt1101, lt1102, lt1103, lt1104, lt1105, lt1135, lt1136, lt1172, lt2000, lt3278, lt3575, lt10000, lt12345, lt21450, lt32767, lt193050, lt1103515245, ltm162, ltm99, ltm81, ltm8, ltm1, iI_add, iI_sub, iI_mul, iI_neg, iI_divn, iI_lt_t, iI_lt_f, iI_le_t, iI_le_f, iI_eq_t, iI_eq_f, iI_lt, iI_le, iI_eq, iI_idx, iI_inb, gI_sI, gL_sL, gZ_sZ, gI_sL, gI_sZ, gL_sI, gL_sZ, gZ_sI, gZ_sL, Nat.reduceEqDiff, false_and, and_false, and_true, true_and, and_self]; done))
    | (with_reducible refine ok_bnd_e (e3) ?_)
    | (with_reducible refine ok_e e2 ?_)
    | (with_reducible refine ok_bnd ?_)
    | (with_reducible refine ok_bndX ?_)
    | (with_reducible refine ok_lt ?_)
    | (with_reducible refine ok_t ?_ ?_; focus (simp (disch := omega) only [↓lt_def, ↓reduceIte, ckB_true, bnd_e, Int.reduceAdd, Int.reduceSub, Int.reduceMul, Int.reduceNeg, Int.reduceToNat, Bool.false_eq_true, eq_self, not_false_eq_true, not_true_eq_false, Int.toNat_natCast, lt0, lt1, lt2, lt3, lt4, lt5, lt6, lt7, lt8, lt9, lt10, lt11, lt12, lt13, lt14, lt15, lt16, lt17, lt18, lt19, lt20, lt21, lt22, lt23, lt24, lt25, lt26, lt27, lt28, lt29, lt30, lt31, lt32, lt40, lt41, lt43, lt48, lt55, lt57, lt59, lt60, lt62, lt63, lt64, lt70, lt72, lt81, lt97, lt99, lt100, lt122, lt162, lt180, lt235, lt255, lt298, lt299, lt325, lt335, lt400, lt837, lt999, lt1000, lt1001, lt1002, lt1003, lt1004, lt1005, lt1006, lt1007, lt1008, lt1100, lt1101, lt1102, lt1103, lt1104, lt1105, lt1135, lt1136, lt1172, lt2000, lt3278, lt3575, lt10000, lt12345, lt21450, lt32767, lt193050, lt1103515245, ltm162, ltm99, ltm81, ltm8, ltm1, iI_add, iI_sub, iI_mul, iI_neg, iI_divn, iI_lt_t, iI_lt_f, iI_le_t, iI_le_f, iI_eq_t, iI_eq_f, iI_lt, iI_le, iI_eq, iI_idx, iI_inb, gI_sI, gL_sL, gZ_sZ, gI_sL, gI_sZ, gL_sI, gL_sZ, gZ_sI, gZ_sL, Nat.reduceEqDiff, false_and, and_false, and_true, true_and, and_self]; done))
    | (with_reducible refine ok_f ?_ ?_; focus (simp (disch := omega) only [↓lt_def, ↓reduceIte, ckB_true, bnd_e, Int.reduceAdd, Int.reduceSub, Int.reduceMul, Int.reduceNeg, Int.reduceToNat, Bool.false_eq_true, eq_self, not_false_eq_true, not_true_eq_false, Int.toNat_natCast, lt0, lt1, lt2, lt3, lt4, lt5, lt6, lt7, lt8, lt9, lt10, lt11, lt12, lt13, lt14, lt15, lt16, lt17, lt18, lt19, lt20, lt21, lt22, lt23, lt24, lt25, lt26, lt27, lt28, lt29, lt30, lt31, lt32, lt40, lt41, lt43, lt48, lt55, lt57, lt59, lt60, lt62, lt63, lt64, lt70, lt72, lt81, lt97, lt99, lt100, lt122, lt162, lt180, lt235, lt255, lt298, lt299, lt325, lt335, lt400, lt837, lt999, lt1000, lt1001, lt1002, lt1003, lt1004, lt1005, lt1006, lt1007, lt1008, lt1100, lt1101, lt1102, lt1103, lt1104, lt1105, lt1135, lt1136, lt1172, lt2000, lt3278, lt3575, lt10000, lt12345, lt21450, lt32767, lt193050, lt1103515245, ltm162, ltm99, ltm81, ltm8, ltm1, iI_add, iI_sub, iI_mul, iI_neg, iI_divn, iI_lt_t, iI_lt_f, iI_le_t, iI_le_f, iI_eq_t, iI_eq_f, iI_lt, iI_le, iI_eq, iI_idx, iI_inb, gI_sI, gL_sL, gZ_sZ, gI_sL, gI_sZ, gL_sI, gL_sZ, gZ_sI, gZ_sL, Nat.reduceEqDiff, false_and, and_false, and_true, true_and, and_self]; done))
    | ((with_reducible refine ok_ite (fun hc => ?_) (fun hc => ?_)) <;> (try simp (disch := omega) only [↓lt_def, ↓reduceIte, ckB_true, bnd_e, Int.reduceAdd, Int.reduceSub, Int.reduceMul, Int.reduceNeg, Int.reduceToNat, Bool.false_eq_true, eq_self, not_false_eq_true, not_true_eq_false, Int.toNat_natCast, lt0, lt1, lt2, lt3, lt4, lt5, lt6, lt7, lt8, lt9, lt10, lt11, lt12, lt13, lt14, lt15, lt16, lt17, lt18, lt19, lt20, lt21, lt22, lt23, lt24, lt25, lt26, lt27, lt28, lt29, lt30, lt31, lt32, lt40, lt41, lt43, lt48, lt55, lt57, lt59, lt60, lt62, lt63, lt64, lt70, lt72, lt81, lt97, lt99, lt100, lt122, lt162, lt180, lt235, lt255, lt298, lt299, lt325, lt335, lt400, lt837, lt999, lt1000, lt1001, lt1002, lt1003, lt1004, lt1005, lt1006, lt1007, lt1008, lt1100, lt1101, lt1102, lt1103, lt1104, lt1105, lt1135, lt1136, lt1172, lt2000, lt3278, lt3575, lt10000, lt12345, lt21450, lt32767, lt193050, lt1103515245, ltm162, ltm99, ltm81, ltm8, ltm1, iI_add, iI_sub, iI_mul, iI_neg, iI_divn, iI_lt_t, iI_lt_f, iI_le_t, iI_le_f, iI_eq_t, iI_eq_f, iI_lt, iI_le, iI_eq, iI_idx, iI_inb, gI_sI, gL_sL, gZ_sZ, gI_sL, gI_sZ, gL_sI, gL_sZ, gZ_sI, gZ_sL, Nat.reduceEqDiff, false_and, and_false, and_true, true_and, and_self] at hc) <;> (try (exfalso; omega)))
    | (with_reducible refine ok_some ?_)
    | (with_reducible refine ok_xr ?_)
    | (with_reducible refine ok_xl ?_)
    | (unfold F_T_streak)
    | (unfold F_M_streak)
    | (unfold F_M_in)
    | (unfold F_M_throwsIf))
  all_goals first | exact ⟨ans_l (by decide) rfl, (h.thr thr_ss).inv⟩ | exact ⟨ans_r rfl, (h.thr thr_s).inv⟩ | (refine ⟨ans_r ?_, (h.thr thr_s).inv⟩; simp (disch := omega) only [↓lt_def, ↓reduceIte, ckB_true, bnd_e, Int.reduceAdd, Int.reduceSub, Int.reduceMul, Int.reduceNeg, Int.reduceToNat, Bool.false_eq_true, eq_self, not_false_eq_true, not_true_eq_false, Int.toNat_natCast, lt0, lt1, lt2, lt3, lt4, lt5, lt6, lt7, lt8, lt9, lt10, lt11, lt12, lt13, lt14, lt15, lt16, lt17, lt18, lt19, lt20, lt21, lt22, lt23, lt24, lt25, lt26, lt27, lt28, lt29, lt30, lt31, lt32, lt40, lt41, lt43, lt48, lt55, lt57, lt59, lt60, lt62, lt63, lt64, lt70, lt72, lt81, lt97, lt99, lt100, lt122, lt162, lt180, lt235, lt255, lt298, lt299, lt325, lt335, lt400, lt837, lt999, lt1000, lt1001, lt1002, lt1003, lt1004, lt1005, lt1006, lt1007, lt1008, lt1100, lt1101, lt1102, lt1103, lt1104, lt1105, lt1135, lt1136, lt1172, lt2000, lt3278, lt3575, lt10000, lt12345, lt21450, lt32767, lt193050, lt1103515245, ltm162, ltm99, ltm81, ltm8, ltm1, iI_add, iI_sub, iI_mul, iI_neg, iI_divn, iI_lt_t, iI_lt_f, iI_le_t, iI_le_f, iI_eq_t, iI_eq_f, iI_lt, iI_le, iI_eq, iI_idx, iI_inb, gI_sI, gL_sL, gZ_sZ, gI_sL, gI_sZ, gL_sI, gL_sZ, gZ_sI, gZ_sL, Nat.reduceEqDiff, false_and, and_false, and_true, true_and, and_self, h]; done)
end BOOK
