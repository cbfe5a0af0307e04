section MPLAYB
theorem Mtail_ok {t : Mt} {m : Mem} {n lv sl ou ru : Int} (h : WF m t) (hlg : ∀ j : Nat, (j : Int) < 7 * t.pl → gI m 79 (235 + j) = t.lg j) (hn : gI m 79 0 = iI n) (n1 : 1 ≤ n) (n9 : n ≤ 9) (i0 : 0 ≤ t.inn) (i3 : t.inn ≤ 3) (fo : t.fol = true → 2 ≤ t.inn) (f0 : 0 ≤ t.fi) (f1 : t.fi ≤ 1) (o0 : 0 ≤ t.out) (o1 : t.out ≤ 10) (u0 : 0 ≤ ou) (u9 : ou ≤ 9) (p0 : 0 ≤ t.pl) (pn : t.pl < n) (hwn : t.win = -1) (r0 : 0 ≤ t.r0) (r09 : t.r0 ≤ 90) (r1 : 0 ≤ t.r1) (r19 : t.r1 ≤ 90) (kq : Mem → Option (Int32 × Mem)) (hk : kq = fun mq22 => (lt (iI (t.out + ou)) fun xq24 =>
lt (sI mq22 79 13 (mnI (10 : Int32) xq24)) fun mq25 =>
lt (sI mq25 79 14 (0 : Int32)) fun mq26 =>
bnd (F_M_leadOf (iI (batZ t)) mq26) fun xq29 mq27 =>
lt ((235 : Int32) + ((7 : Int32) * iI t.pl) : Int32) fun xq30 =>
ckB (inb xq30 1972) <|
lt (sI mq27 79 xq30.toNatClampNeg (gI mq27 79 11)) fun mq31 =>
ckB (inb (xq30 + (1 : Int32)) 1972) <|
lt (sI mq31 79 (xq30 + (1 : Int32)).toNatClampNeg (iI (batZ t))) fun mq33 =>
ckB (inb (xq30 + (2 : Int32)) 1972) <|
lt (sI mq33 79 (xq30 + (2 : Int32)).toNatClampNeg (iI lv)) fun mq35 =>
ckB (inb (xq30 + (3 : Int32)) 1972) <|
lt (sI mq35 79 (xq30 + (3 : Int32)).toNatClampNeg (iI sl)) fun mq37 =>
ckB (inb (xq30 + (4 : Int32)) 1972) <|
lt (sI mq37 79 (xq30 + (4 : Int32)).toNatClampNeg xq29) fun mq39 =>
ckB (inb (xq30 + (5 : Int32)) 1972) <|
lt (sI mq39 79 (xq30 + (5 : Int32)).toNatClampNeg (gI mq39 79 13)) fun mq41 =>
ckB (inb (xq30 + (6 : Int32)) 1972) <|
lt (sI mq41 79 (xq30 + (6 : Int32)).toNatClampNeg (iI ru)) fun mq43 =>
lt (sI mq43 79 17 ((gI mq43 79 17) + (1 : Int32))) fun mq45 =>
bnd (F_M_settles mq45) fun _ mq46 =>
some (xq29, mq46))) : Ok (kq m) (fun v m' => v = iI (leadZ t (batZ t)) ∧ WM m' 79 0 (plR t n lv sl ou ru) ∧ ∀ j, (j < 9 ∨ (19 ≤ j ∧ j < 235) ∨ 298 ≤ j) → gI m' 79 j = gI m 79 j) := by
  obtain ⟨c0, c1, c2, c3, c4, c5, c6, c7, c8, c9⟩ := h
  have hbr := batZ_rng (t := t) f0 f1
  have e2 : ∀ m, gI m 79 15 = iI t.r0 → gI m 79 16 = iI t.r1 → F_M_leadOf (iI (batZ t)) m = some (iI (leadZ t (batZ t)), m) := fun m h8 h9 => Mlead_eq (t := t) (m := m) h8 h9 hbr.1 hbr.2
  rw [hk]
  dsimp only
  rw [lt_def, lt10, mnI_iI (by omega) (by omega) (by omega) (by omega)]
  with_reducible refine ok_lt ?_
  with_reducible refine ok_lt ?_
  with_reducible refine ok_bnd_e (e2 _ ?_ ?_) ?_
  focus simp (disch := omega) only [↓lt_def, ↓reduceIte, ckB_true, bnd_e, Int.reduceAdd, Int.reduceSub, Int.reduceMul, Int.reduceNeg, Int.reduceToNat, Bool.false_eq_true, eq_self, not_false_eq_true, not_true_eq_false, Int.toNat_natCast, lt0, lt1, lt2, lt3, lt4, lt5, lt6, lt7, lt8, lt9, lt10, lt11, lt12, lt13, lt14, lt15, lt16, lt17, lt18, lt19, lt20, lt21, lt22, lt23, lt24, lt25, lt26, lt27, lt28, lt29, lt30, lt31, lt32, lt40, lt41, lt43, lt48, lt55, lt57, lt59, lt60, lt62, lt63, lt64, lt70, lt72, lt81, lt97, lt99, lt100, lt122, lt162, lt180, lt235, lt255, lt298, lt299, lt325, lt335, lt400, lt837, lt999, lt1000, lt1001, lt1002, lt1003, lt1004, lt1005, lt1006, lt1007, lt1008, lt1100, lt1101, lt1102, lt1103, lt1104, lt1105, lt1135, lt1136, lt1172, lt2000, lt3278, lt3575, lt10000, lt12345, lt21450, lt32767, lt193050, lt1103515245, ltm162, ltm99, ltm81, ltm8, ltm1, iI_add, iI_sub, iI_mul, iI_neg, iI_divn, iI_lt_t, iI_lt_f, iI_le_t, iI_le_f, iI_eq_t, iI_eq_f, iI_lt, iI_le, iI_eq, iI_idx, iI_inb, gI_sI, gL_sL, gZ_sZ, gI_sL, gI_sZ, gL_sI, gL_sZ, gZ_sI, gZ_sL, Nat.reduceEqDiff, false_and, and_false, and_true, true_and, and_self, c6]
  focus simp (disch := omega) only [↓lt_def, ↓reduceIte, ckB_true, bnd_e, Int.reduceAdd, Int.reduceSub, Int.reduceMul, Int.reduceNeg, Int.reduceToNat, Bool.false_eq_true, eq_self, not_false_eq_true, not_true_eq_false, Int.toNat_natCast, lt0, lt1, lt2, lt3, lt4, lt5, lt6, lt7, lt8, lt9, lt10, lt11, lt12, lt13, lt14, lt15, lt16, lt17, lt18, lt19, lt20, lt21, lt22, lt23, lt24, lt25, lt26, lt27, lt28, lt29, lt30, lt31, lt32, lt40, lt41, lt43, lt48, lt55, lt57, lt59, lt60, lt62, lt63, lt64, lt70, lt72, lt81, lt97, lt99, lt100, lt122, lt162, lt180, lt235, lt255, lt298, lt299, lt325, lt335, lt400, lt837, lt999, lt1000, lt1001, lt1002, lt1003, lt1004, lt1005, lt1006, lt1007, lt1008, lt1100, lt1101, lt1102, lt1103, lt1104, lt1105, lt1135, lt1136, lt1172, lt2000, lt3278, lt3575, lt10000, lt12345, lt21450, lt32767, lt193050, lt1103515245, ltm162, ltm99, ltm81, ltm8, ltm1, iI_add, iI_sub, iI_mul, iI_neg, iI_divn, iI_lt_t, iI_lt_f, iI_le_t, iI_le_f, iI_eq_t, iI_eq_f, iI_lt, iI_le, iI_eq, iI_idx, iI_inb, gI_sI, gL_sL, gZ_sZ, gI_sL, gI_sZ, gL_sI, gL_sZ, gZ_sI, gZ_sL, Nat.reduceEqDiff, false_and, and_false, and_true, true_and, and_self, c7]
  rw [lt_def, show (235 : Int32) = iI 235 from rfl, lt7, iI_mul, iI_add, lt1, lt2, lt3, lt4, lt5, lt6, iI_add, iI_add, iI_add, iI_add, iI_add, iI_add]
  rw [iI_idx (a := 235 + 7 * t.pl) (by omega) (by omega), iI_idx (a := 235 + 7 * t.pl + 1) (by omega) (by omega), iI_idx (a := 235 + 7 * t.pl + 2) (by omega) (by omega), iI_idx (a := 235 + 7 * t.pl + 3) (by omega) (by omega), iI_idx (a := 235 + 7 * t.pl + 4) (by omega) (by omega), iI_idx (a := 235 + 7 * t.pl + 5) (by omega) (by omega), iI_idx (a := 235 + 7 * t.pl + 6) (by omega) (by omega)]
  rw [show (235 + 7 * t.pl).toNat = 235 + (7 * t.pl).toNat by omega, show (235 + 7 * t.pl + 1).toNat = 235 + ((7 * t.pl).toNat + 1) by omega, show (235 + 7 * t.pl + 2).toNat = 235 + ((7 * t.pl).toNat + 2) by omega, show (235 + 7 * t.pl + 3).toNat = 235 + ((7 * t.pl).toNat + 3) by omega, show (235 + 7 * t.pl + 4).toNat = 235 + ((7 * t.pl).toNat + 4) by omega, show (235 + 7 * t.pl + 5).toNat = 235 + ((7 * t.pl).toNat + 5) by omega, show (235 + 7 * t.pl + 6).toNat = 235 + ((7 * t.pl).toNat + 6) by omega]
  have hib : ∀ z : Int, 0 ≤ z → z < 1972 → inb (iI z) 1972 = true := fun z a b => iI_inb a (by omega) (by omega)
  rw [ckB_t (hib _ (by omega) (by omega)), lt_def, ckB_t (hib _ (by omega) (by omega)), lt_def, ckB_t (hib _ (by omega) (by omega)), lt_def, ckB_t (hib _ (by omega) (by omega)), lt_def, ckB_t (hib _ (by omega) (by omega)), lt_def, ckB_t (hib _ (by omega) (by omega)), lt_def, ckB_t (hib _ (by omega) (by omega)), lt_def, lt_def]
  obtain ⟨q, hq⟩ : ∃ q : Nat, q = (7 * t.pl).toNat := ⟨_, rfl⟩
  rw [← hq]
  obtain ⟨mz, hmz⟩ : ∃ x, x = sI (sI (sI (sI (sI (sI (sI (sI (sI (sI m 79 13 (iI (min 10 (t.out + ou)))) 79 14 0) 79 (235 + q) (iI t.inn)) 79 (235 + (q + 1)) (iI (batZ t))) 79 (235 + (q + 2)) (iI lv)) 79 (235 + (q + 3)) (iI sl)) 79 (235 + (q + 4)) (iI (leadZ t (batZ t)))) 79 (235 + (q + 5)) (iI (min 10 (t.out + ou)))) 79 (235 + (q + 6)) (iI ru)) 79 17 (iI (t.pl + 1)) := ⟨_, rfl⟩
  have rd : ∀ j, j < 235 → j ≠ 13 → j ≠ 14 → j ≠ 17 → gI mz 79 j = gI m 79 j := by
    intro j a b c d
    rw [hmz, gI_sI, if_neg (by omega), gI_sI, if_neg (by omega), gI_sI, if_neg (by omega), gI_sI, if_neg (by omega), gI_sI, if_neg (by omega), gI_sI, if_neg (by omega), gI_sI, if_neg (by omega), gI_sI, if_neg (by omega), gI_sI, if_neg (by omega), gI_sI, if_neg (by omega)]
  have rd2 : ∀ j, 298 ≤ j → gI mz 79 j = gI m 79 j := by
    intro j a
    rw [hmz, gI_sI, if_neg (by omega), gI_sI, if_neg (by omega), gI_sI, if_neg (by omega), gI_sI, if_neg (by omega), gI_sI, if_neg (by omega), gI_sI, if_neg (by omega), gI_sI, if_neg (by omega), gI_sI, if_neg (by omega), gI_sI, if_neg (by omega), gI_sI, if_neg (by omega)]
  have hW : WF mz (plF t lv sl ou ru) := by
    refine ⟨(rd 9 (by omega) (by omega) (by omega) (by omega)).trans c0, (rd 10 (by omega) (by omega) (by omega) (by omega)).trans c1, (rd 11 (by omega) (by omega) (by omega) (by omega)).trans c2, (rd 12 (by omega) (by omega) (by omega) (by omega)).trans c3, ?_, ?_, (rd 15 (by omega) (by omega) (by omega) (by omega)).trans c6, (rd 16 (by omega) (by omega) (by omega) (by omega)).trans c7, ?_, (rd 18 (by omega) (by omega) (by omega) (by omega)).trans c9⟩
    · show _ = iI (min 10 (t.out + ou))
      rw [hmz, gI_sI, if_neg (by omega), gI_sI, if_neg (by omega), gI_sI, if_neg (by omega), gI_sI, if_neg (by omega), gI_sI, if_neg (by omega), gI_sI, if_neg (by omega), gI_sI, if_neg (by omega), gI_sI, if_neg (by omega), gI_sI, if_neg (by omega), gI_sI, if_pos ⟨rfl, rfl⟩]
    · show _ = b2i false
      rw [hmz, gI_sI, if_neg (by omega), gI_sI, if_neg (by omega), gI_sI, if_neg (by omega), gI_sI, if_neg (by omega), gI_sI, if_neg (by omega), gI_sI, if_neg (by omega), gI_sI, if_neg (by omega), gI_sI, if_neg (by omega), gI_sI, if_pos ⟨rfl, rfl⟩]
      rfl
    · show _ = iI (t.pl + 1)
      rw [hmz, gI_sI, if_pos ⟨rfl, rfl⟩]
  have hL : ∀ j : Nat, (j : Int) < 7 * (t.pl + 1) → gI mz 79 (235 + j) = (plF t lv sl ou ru).lg j := by
    intro j hj
    rw [show (plF t lv sl ou ru).lg j = lgP t lv sl ou ru j from rfl]
    unfold lgP
    rw [hmz, gI_sI, if_neg (by omega)]
    simp only [gI_sI, true_and]
    by_cases h0 : (j : Int) < 7 * t.pl
    · rw [if_neg (by omega), if_neg (by omega), if_neg (by omega), if_neg (by omega), if_neg (by omega), if_neg (by omega), if_neg (by omega), if_neg (by omega), if_neg (by omega), if_pos h0]
      exact hlg j h0
    · rw [if_neg h0]
      rcases (show (j : Int) = 7 * t.pl + 0 ∨ (j : Int) = 7 * t.pl + 1 ∨ (j : Int) = 7 * t.pl + 2 ∨ (j : Int) = 7 * t.pl + 3 ∨ (j : Int) = 7 * t.pl + 4 ∨ (j : Int) = 7 * t.pl + 5 ∨ (j : Int) = 7 * t.pl + 6 by omega) with h | h | h | h | h | h | h
      · rw [if_neg (by omega), if_neg (by omega), if_neg (by omega), if_neg (by omega), if_neg (by omega), if_neg (by omega), if_pos (by omega), if_pos (by omega)]
      · rw [if_neg (by omega), if_neg (by omega), if_neg (by omega), if_neg (by omega), if_neg (by omega), if_pos (by omega), if_neg (by omega), if_pos (by omega)]
      · rw [if_neg (by omega), if_neg (by omega), if_neg (by omega), if_neg (by omega), if_pos (by omega), if_neg (by omega), if_neg (by omega), if_pos (by omega)]
      · rw [if_neg (by omega), if_neg (by omega), if_neg (by omega), if_pos (by omega), if_neg (by omega), if_neg (by omega), if_neg (by omega), if_pos (by omega)]
      · rw [if_neg (by omega), if_neg (by omega), if_pos (by omega), if_neg (by omega), if_neg (by omega), if_neg (by omega), if_neg (by omega), if_pos (by omega)]
      · rw [if_neg (by omega), if_pos (by omega), if_neg (by omega), if_neg (by omega), if_neg (by omega), if_neg (by omega), if_neg (by omega), if_pos (by omega)]
      · rw [if_pos (by omega), if_neg (by omega), if_neg (by omega), if_neg (by omega), if_neg (by omega), if_neg (by omega), if_neg (by omega)]
  obtain ⟨m', e3, a3, b3⟩ := Msettle_ok hW ((rd 0 (by omega) (by omega) (by omega) (by omega)).trans hn) n1 n9 i0 i3 fo f0 f1 (show 0 ≤ min 10 (t.out + ou) by omega) (show min 10 (t.out + ou) ≤ 10 by omega) (show 0 ≤ t.pl + 1 by omega) (show t.pl + 1 ≤ n by omega) hwn r0 r09 r1 r19
  refine (show ∀ x, x = mz → Ok (bnd (F_M_settles x) fun _ mq46 => some (iI (leadZ t (batZ t)), mq46)) (fun v m' => v = iI (leadZ t (batZ t)) ∧ WM m' 79 0 (plR t n lv sl ou ru) ∧ ∀ j, (j < 9 ∨ (19 ≤ j ∧ j < 235) ∨ 298 ≤ j) → gI m' 79 j = gI m 79 j) from ?_) _ ?_
  · intro x hx
    rw [hx]
    refine ok_bnd_e e3 (ok_some ⟨rfl, a3.log ?_, ?_⟩)
    · intro j hj
      rw [b3 _ _ (by omega)]
      have hpl : (stl (plF t lv sl ou ru) n).pl = t.pl + 1 := by
        unfold stl jd nxI plF
        split <;> rfl
      have hlgg : (stl (plF t lv sl ou ru) n).lg = (plF t lv sl ou ru).lg := by
        unfold stl jd nxI
        split <;> rfl
      rw [hlgg]
      exact hL j (by rw [hpl] at hj; exact hj)
    · intro j hj
      rw [b3 _ _ (by omega)]
      rcases hj with hj | hj | hj
      · exact rd j (by omega) (by omega) (by omega) (by omega)
      · exact rd j (by omega) (by omega) (by omega) (by omega)
      · exact rd2 j hj
  · rw [hmz]
    have x1 : gI (sI (sI m 79 13 (iI (min 10 (t.out + ou)))) 79 14 0) 79 11 = iI t.inn := by
      rw [gI_sI, if_neg (by omega), gI_sI, if_neg (by omega)]
      exact c2
    have x2 : ∀ a b c d e : Int32, gI (sI (sI (sI (sI (sI (sI (sI m 79 13 (iI (min 10 (t.out + ou)))) 79 14 0) 79 (235 + q) a) 79 (235 + (q + 1)) b) 79 (235 + (q + 2)) c) 79 (235 + (q + 3)) d) 79 (235 + (q + 4)) e) 79 13 = iI (min 10 (t.out + ou)) := by
      intro a b c d e
      rw [gI_sI, if_neg (by omega), gI_sI, if_neg (by omega), gI_sI, if_neg (by omega), gI_sI, if_neg (by omega), gI_sI, if_neg (by omega), gI_sI, if_neg (by omega), gI_sI, if_pos ⟨rfl, rfl⟩]
    have x3 : ∀ a b c d e f g : Int32, gI (sI (sI (sI (sI (sI (sI (sI (sI (sI m 79 13 (iI (min 10 (t.out + ou)))) 79 14 0) 79 (235 + q) a) 79 (235 + (q + 1)) b) 79 (235 + (q + 2)) c) 79 (235 + (q + 3)) d) 79 (235 + (q + 4)) e) 79 (235 + (q + 5)) f) 79 (235 + (q + 6)) g) 79 17 = iI t.pl := by
      intro a b c d e f g
      rw [gI_sI, if_neg (by omega), gI_sI, if_neg (by omega), gI_sI, if_neg (by omega), gI_sI, if_neg (by omega), gI_sI, if_neg (by omega), gI_sI, if_neg (by omega), gI_sI, if_neg (by omega), gI_sI, if_neg (by omega), gI_sI, if_neg (by omega)]
      exact c8
    rw [x1, x2, x3, iI_add]
end MPLAYB
