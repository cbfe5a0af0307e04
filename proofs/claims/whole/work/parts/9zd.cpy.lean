section CPY
/-- a row is copied, a cell at a time -/
theorem cpy {β : Type} (L : Nat → Int32 → Mem → Option β) (N o1 a o2 b : Nat) (hd : o1 ≠ o2 ∨ b + N ≤ a ∨ a + N ≤ b) (h : ∀ nf k m, k < N → L (nf + 1) (iI k) m = L nf (iI ((k : Int) + 1)) (sI m o2 (b + k) (gI m o1 (a + k)))) (n : Nat) (m : Mem) (hn : N < n) : ∃ nf m', (∀ k, k < N → gI m' o2 (b + k) = gI m o1 (a + k)) ∧ (∀ o j, (o = o2 → j < b ∨ b + N ≤ j) → gI m' o j = gI m o j) ∧ (∀ o j, gL m' o j = gL m o j ∧ gZ m' o j = gZ m o j) ∧ L n (iI (0 : Nat)) m = L (nf + 1) (iI N) m' := by
  obtain ⟨nf, m', ⟨q1, q2, q3⟩, e⟩ := lpc L N (fun k s => (∀ i, i < k → gI s o2 (b + i) = gI m o1 (a + i)) ∧ (∀ o j, (o = o2 → j < b ∨ b + k ≤ j) → gI s o j = gI m o j) ∧ (∀ o j, gL s o j = gL m o j ∧ gZ s o j = gZ m o j)) (by
    intro nf k s hk ⟨q1, q2, q3⟩
    refine ⟨sI s o2 (b + k) (gI s o1 (a + k)), ⟨fun i hi => ?_, fun o j hj => ?_, fun o j => q3 o j⟩, h nf k s hk⟩
    · rw [gI_sI]
      by_cases hik : i = k
      · rw [if_pos ⟨rfl, by omega⟩, hik]
        exact q2 o1 (a + k) (fun q => by omega)
      · rw [if_neg (by omega)]
        exact q1 i (by omega)
    · have hne : ¬ (o = o2 ∧ j = b + k) := fun q => by have := hj q.1; omega
      rw [gI_sI, if_neg hne]
      exact q2 o j (fun q => by have := hj q; omega)) n 0 m (by omega) ⟨fun i hi => by omega, fun o j _ => rfl, fun o j => ⟨rfl, rfl⟩⟩ (by omega)
  exact ⟨nf, m', q1, q2, q3, e⟩
/-- two rows are copied in one loop -/
theorem cpy2 {β : Type} (L : Nat → Int32 → Mem → Option β) (N p1 p2 q1 q2 : Nat) (hd : p1 ≠ p2 ∧ q1 ≠ p2 ∧ p1 ≠ q2 ∧ q1 ≠ q2 ∧ p2 ≠ q2) (h : ∀ nf k m, k < N → L (nf + 1) (iI k) m = L nf (iI ((k : Int) + 1)) (sI (sI m p2 k (gI m p1 k)) q2 k (gI m q1 k))) (n : Nat) (m : Mem) (hn : N < n) : ∃ nf m', (∀ k, k < N → gI m' p2 k = gI m p1 k ∧ gI m' q2 k = gI m q1 k) ∧ (∀ o, o ≠ p2 → o ≠ q2 → ∀ j, gI m' o j = gI m o j) ∧ (∀ o j, gL m' o j = gL m o j ∧ gZ m' o j = gZ m o j) ∧ L n (iI (0 : Nat)) m = L (nf + 1) (iI N) m' := by
  obtain ⟨nf, m', ⟨r1, r2, r3⟩, e⟩ := lpc L N (fun k s => (∀ i, i < k → gI s p2 i = gI m p1 i ∧ gI s q2 i = gI m q1 i) ∧ (∀ o, o ≠ p2 → o ≠ q2 → ∀ j, gI s o j = gI m o j) ∧ (∀ o j, gL s o j = gL m o j ∧ gZ s o j = gZ m o j)) (by
    intro nf k s hk ⟨r1, r2, r3⟩
    refine ⟨sI (sI s p2 k (gI s p1 k)) q2 k (gI s q1 k), ⟨fun i hi => ?_, fun o ho ho2 j => ?_, fun o j => r3 o j⟩, h nf k s hk⟩
    · rw [gI_sI, if_neg (fun q => hd.2.2.2.2 q.1), gI_sI, gI_sI, gI_sI]
      by_cases hik : i = k
      · rw [if_pos ⟨rfl, hik⟩, if_pos ⟨rfl, hik⟩, hik, r2 p1 hd.1 hd.2.2.1, r2 q1 hd.2.1 hd.2.2.2.1]
        exact ⟨rfl, rfl⟩
      · rw [if_neg (fun q => hik q.2), if_neg (fun q => hik q.2), if_neg (fun q => hik q.2)]
        exact r1 i (by omega)
    · rw [gI_sI, if_neg (fun q => ho2 q.1), gI_sI, if_neg (fun q => ho q.1)]
      exact r2 o ho ho2 j) n 0 m (by omega) ⟨fun i hi => by omega, fun o _ _ j => rfl, fun o j => ⟨rfl, rfl⟩⟩ (by omega)
  exact ⟨nf, m', r1, r2, r3, e⟩
theorem LawRep.cg2 {law : Option (List (Int × List Int))} {m m' : Mem} {lo co A lo' co' A' : Nat} (h : LawRep law m lo co A) (h1 : ∀ j, j < 2 → gI m' lo' j = gI m lo j) (h2 : ∀ j, j < 400 → gI m' co' j = gI m co j) (h3 : gI m' A' 4 = gI m A 4) (h4 : ∀ j, j < 837 → gI m' A' (298 + j) = gI m A (298 + j)) : LawRep law m' lo' co' A' := by
  match law, h with
  | none, h => exact ⟨by rw [h3]; exact h.1, by rw [h1 0 (by omega)]; exact h.2⟩
  | some law, ⟨k1, k2, k3, k4, k5, k6, k7, k8, k9⟩ =>
    refine ⟨by rw [h3]; exact k1, k2, by rw [h1 0 (by omega)]; exact k3, by rw [h1 1 (by omega)]; exact k4, k5, ?_, (h4 0 (by omega)).trans k7, ?_, k9⟩
    · exact RowIs_cg (fun j hj => by rw [Nat.zero_add]; exact h2 j (by omega)) k6
    · exact LinesAt_cg h4 (by have := k2.1; omega) (by omega) k8
theorem GR.cg2 {m m' : Mem} {o bt bw ro uo lo co bk ce A o' bt' bw' ro' uo' lo' co' bk' ce' A' : Nat} {law : Option (List (Int × List Int))} {n mg dw tx bc : Int} (h : GR m o bt bw ro uo lo co bk ce A law n mg dw tx bc)
    (ho : ∀ j, j < 7 → gI m' o' j = gI m o j) (hbt : ∀ j, j < 2 → gI m' bt' j = gI m bt j) (hbw : ∀ j, j < 2 → gI m' bw' j = gI m bw j) (hro : ∀ j, j < 16 → gI m' ro' j = gI m ro j) (huo : ∀ j, j < 16 → gI m' uo' j = gI m uo j) (hlo : ∀ j, j < 2 → gI m' lo' j = gI m lo j) (hco : ∀ j, j < 400 → gI m' co' j = gI m co j) (hbk : gI m' bk' 0 = gI m bk 0) (hce : ∀ j, j < 180 → gI m' ce' j = gI m ce j) (hA : ∀ j, j < 1135 → (j < 9 ∨ (19 ≤ j ∧ j < 235) ∨ 298 ≤ j) → gI m' A' j = gI m A j) : GR m' o' bt' bw' ro' uo' lo' co' bk' ce' A' law n mg dw tx bc := by
  refine GR.mk ⟨h.n1, h.n9, h.mg0, h.mg9, h.dw0, h.dw9, h.tx0, h.tx9, h.bc0, h.bc9, (ho _ (by omega)).trans h.cn, (hA _ (by omega) (by omega)).trans h.wn, (ho _ (by omega)).trans h.cmg, (hA _ (by omega) (by omega)).trans h.wmg, (ho _ (by omega)).trans h.cdw, (hA _ (by omega) (by omega)).trans h.wdw, (ho _ (by omega)).trans h.ctx, (hA _ (by omega) (by omega)).trans h.wtx, hbk.trans h.cbc, (hA _ (by omega) (by omega)).trans h.wbc, ?_, ?_, ?_, ?_, ?_, ?_, ?_, ?_, ?_, ?_⟩
  · rw [ho _ (by omega), hA _ (by omega) (by omega)]; exact h.cl
  · rw [ho _ (by omega), hA _ (by omega) (by omega)]; exact h.ti
  · rw [ho _ (by omega), hA _ (by omega) (by omega)]; exact h.ra
  · have h1 := h.si
    unfold SidesRep at h1 ⊢
    rw [hbt _ (by omega), hbt _ (by omega), hbw _ (by omega), hbw _ (by omega), hA _ (by omega) (by omega), hA _ (by omega) (by omega), hA _ (by omega) (by omega), hA _ (by omega) (by omega)]; exact h1
  · intro k hk
    rw [hro _ hk, huo _ hk, hA _ (by omega) (by omega), hA _ (by omega) (by omega)]; exact h.sl k hk
  · intro j hj
    rw [hA _ (by omega) (by omega)]; exact h.sir j hj
  · intro j hj
    rw [hA _ (by omega) (by omega)]; exact h.slr j hj
  · intro j hj
    have := h.bc9
    rw [hce _ (by omega), hA _ (by omega) (by omega)]; exact h.bo j hj
  · intro j hj
    have := h.bc9
    rw [hA _ (by omega) (by omega), hA _ (by omega) (by omega), hA _ (by omega) (by omega)]; exact h.bor j hj
  · exact h.la.cg2 hlo hco (hA _ (by omega) (by omega)) (fun j hj => hA _ (by omega) (by omega))
theorem Lcopy_ok (m : Mem) : ∃ m', F_Lw_copyFrom m = some ((), m') ∧ (∀ j, j < 2 → gI m' 8 j = gI m 69 j) ∧ (∀ j, j < 400 → gI m' 9 j = gI m 70 j) ∧ ∀ o, o ≠ 8 → o ≠ 9 → ∀ j, gI m' o j = gI m o j := by
  obtain ⟨N, hN⟩ : ∃ N : Nat, N = 1000000 := ⟨_, rfl⟩
  obtain ⟨ma, hma⟩ : ∃ x, x = sI (sI m 8 0 (gI m 69 0)) 8 1 (gI m 69 1) := ⟨_, rfl⟩
  have ea : ∀ o, o ≠ 8 → ∀ j, gI ma o j = gI m o j := by
    intro o ho j
    rw [hma, gI_sI, if_neg (fun q => ho q.1), gI_sI, if_neg (fun q => ho q.1)]
  obtain ⟨nf, m2, q1, q2, -, e2⟩ := cpy F_Lw_copyFrom_L18 400 70 0 9 0 (by omega) (by
    intro nf k s hk
    rw [F_Lw_copyFrom_L18, if_neg (by simp (disch := omega) only [↓lt_def, ↓reduceIte, ckB_true, bnd_e, Int.reduceAdd, Int.reduceSub, Int.reduceMul, Int.reduceNeg, Int.reduceToNat, Bool.false_eq_true, eq_self, not_false_eq_true, not_true_eq_false, Int.toNat_natCast, lt0, lt1, lt2, lt3, lt4, lt5, lt6, lt7, lt8, lt9, lt10, lt11, lt12, lt13, lt14, lt15, lt16, lt17, lt18, lt19, lt20, lt21, lt22, lt23, lt24, lt25, lt26, lt27, lt28, lt29, lt30, lt31, lt32, lt40, lt41, lt43, lt48, lt55, lt57, lt59, lt60, lt62, lt63, lt64, lt70, lt72, lt81, lt97, lt99, lt100, lt122, lt162, lt180, lt235, lt255, lt298, lt299, lt325, lt335, lt400, lt837, lt999, lt1000, lt1001, lt1002, lt1003, lt1004, lt1005, lt1006, lt1007, lt1008, lt1100, lt1101, lt1102, lt1103, lt1104, lt1105, lt1135, lt1136, lt1172, lt2000, lt3278, lt3575, lt10000, lt12345, lt21450, lt32767, lt193050, lt1103515245, ltm162, ltm99, ltm81, ltm8, ltm1, iI_add, iI_sub, iI_mul, iI_neg, iI_divn, iI_lt_t, iI_lt_f, iI_le_t, iI_le_f, iI_eq_t, iI_eq_f, iI_lt, iI_le, iI_eq, iI_idx, iI_inb, gI_sI, gL_sL, gZ_sZ, gI_sL, gI_sZ, gL_sI, gL_sZ, gZ_sI, gZ_sL]), ckB_t (iI_inb (by omega) (by omega) (by omega)), lt_def, ckB_t (iI_inb (by omega) (by omega) (by omega)), lt_def, lt_def, iI_idx (by omega) (by omega), Int.toNat_natCast, lt1, iI_add, Nat.zero_add]) N ma (by omega)
  refine ⟨m2, ?_, fun j hj => ?_, fun j hj => ?_, fun o ho1 ho2 j => ?_⟩
  · unfold F_Lw_copyFrom
    rw [← hN]
    have e3 : F_Lw_copyFrom_L18 N (0 : Int32) ma = some ((), m2) := by
      refine e2.trans ?_
      rw [F_Lw_copyFrom_L18, if_pos (by decide)]
    rw [← e3, hma]
    rfl
  · rw [q2 8 j (fun q => absurd q (by decide)), hma]
    rcases (show j = 0 ∨ j = 1 by omega) with rfl | rfl
    · rfl
    · rfl
  · rw [← ea 70 (by decide), ← Nat.zero_add j]
    exact q1 j hj
  · rw [q2 o j (fun q => absurd q ho2), ea o ho1]
theorem Lcopy_2_ok (m : Mem) : ∃ m', F_Lw_copyFrom_2 m = some ((), m') ∧ (∀ j, j < 2 → gI m' 69 j = gI m 8 j) ∧ (∀ j, j < 400 → gI m' 70 j = gI m 9 j) ∧ ∀ o, o ≠ 69 → o ≠ 70 → ∀ j, gI m' o j = gI m o j := by
  obtain ⟨N, hN⟩ : ∃ N : Nat, N = 1000000 := ⟨_, rfl⟩
  obtain ⟨ma, hma⟩ : ∃ x, x = sI (sI m 69 0 (gI m 8 0)) 69 1 (gI m 8 1) := ⟨_, rfl⟩
  have ea : ∀ o, o ≠ 69 → ∀ j, gI ma o j = gI m o j := by
    intro o ho j
    rw [hma, gI_sI, if_neg (fun q => ho q.1), gI_sI, if_neg (fun q => ho q.1)]
  obtain ⟨nf, m2, q1, q2, -, e2⟩ := cpy F_Lw_copyFrom_2_L18 400 9 0 70 0 (by omega) (by
    intro nf k s hk
    rw [F_Lw_copyFrom_2_L18, if_neg (by simp (disch := omega) only [↓lt_def, ↓reduceIte, ckB_true, bnd_e, Int.reduceAdd, Int.reduceSub, Int.reduceMul, Int.reduceNeg, Int.reduceToNat, Bool.false_eq_true, eq_self, not_false_eq_true, not_true_eq_false, Int.toNat_natCast, lt0, lt1, lt2, lt3, lt4, lt5, lt6, lt7, lt8, lt9, lt10, lt11, lt12, lt13, lt14, lt15, lt16, lt17, lt18, lt19, lt20, lt21, lt22, lt23, lt24, lt25, lt26, lt27, lt28, lt29, lt30, lt31, lt32, lt40, lt41, lt43, lt48, lt55, lt57, lt59, lt60, lt62, lt63, lt64, lt70, lt72, lt81, lt97, lt99, lt100, lt122, lt162, lt180, lt235, lt255, lt298, lt299, lt325, lt335, lt400, lt837, lt999, lt1000, lt1001, lt1002, lt1003, lt1004, lt1005, lt1006, lt1007, lt1008, lt1100, lt1101, lt1102, lt1103, lt1104, lt1105, lt1135, lt1136, lt1172, lt2000, lt3278, lt3575, lt10000, lt12345, lt21450, lt32767, lt193050, lt1103515245, ltm162, ltm99, ltm81, ltm8, ltm1, iI_add, iI_sub, iI_mul, iI_neg, iI_divn, iI_lt_t, iI_lt_f, iI_le_t, iI_le_f, iI_eq_t, iI_eq_f, iI_lt, iI_le, iI_eq, iI_idx, iI_inb, gI_sI, gL_sL, gZ_sZ, gI_sL, gI_sZ, gL_sI, gL_sZ, gZ_sI, gZ_sL]), ckB_t (iI_inb (by omega) (by omega) (by omega)), lt_def, ckB_t (iI_inb (by omega) (by omega) (by omega)), lt_def, lt_def, iI_idx (by omega) (by omega), Int.toNat_natCast, lt1, iI_add, Nat.zero_add]) N ma (by omega)
  refine ⟨m2, ?_, fun j hj => ?_, fun j hj => ?_, fun o ho1 ho2 j => ?_⟩
  · unfold F_Lw_copyFrom_2
    rw [← hN]
    have e3 : F_Lw_copyFrom_2_L18 N (0 : Int32) ma = some ((), m2) := by
      refine e2.trans ?_
      rw [F_Lw_copyFrom_2_L18, if_pos (by decide)]
    rw [← e3, hma]
    rfl
  · rw [q2 69 j (fun q => absurd q (by decide)), hma]
    rcases (show j = 0 ∨ j = 1 by omega) with rfl | rfl
    · rfl
    · rfl
  · rw [← ea 9 (by decide), ← Nat.zero_add j]
    exact q1 j hj
  · rw [q2 o j (fun q => absurd q ho2), ea o ho1]
theorem Lcopy_3_ok (m : Mem) : ∃ m', F_Lw_copyFrom_3 m = some ((), m') ∧ (∀ j, j < 2 → gI m' 8 j = gI m 57 j) ∧ (∀ j, j < 400 → gI m' 9 j = gI m 58 j) ∧ ∀ o, o ≠ 8 → o ≠ 9 → ∀ j, gI m' o j = gI m o j := by
  obtain ⟨N, hN⟩ : ∃ N : Nat, N = 1000000 := ⟨_, rfl⟩
  obtain ⟨ma, hma⟩ : ∃ x, x = sI (sI m 8 0 (gI m 57 0)) 8 1 (gI m 57 1) := ⟨_, rfl⟩
  have ea : ∀ o, o ≠ 8 → ∀ j, gI ma o j = gI m o j := by
    intro o ho j
    rw [hma, gI_sI, if_neg (fun q => ho q.1), gI_sI, if_neg (fun q => ho q.1)]
  obtain ⟨nf, m2, q1, q2, -, e2⟩ := cpy F_Lw_copyFrom_3_L18 400 58 0 9 0 (by omega) (by
    intro nf k s hk
    rw [F_Lw_copyFrom_3_L18, if_neg (by simp (disch := omega) only [↓lt_def, ↓reduceIte, ckB_true, bnd_e, Int.reduceAdd, Int.reduceSub, Int.reduceMul, Int.reduceNeg, Int.reduceToNat, Bool.false_eq_true, eq_self, not_false_eq_true, not_true_eq_false, Int.toNat_natCast, lt0, lt1, lt2, lt3, lt4, lt5, lt6, lt7, lt8, lt9, lt10, lt11, lt12, lt13, lt14, lt15, lt16, lt17, lt18, lt19, lt20, lt21, lt22, lt23, lt24, lt25, lt26, lt27, lt28, lt29, lt30, lt31, lt32, lt40, lt41, lt43, lt48, lt55, lt57, lt59, lt60, lt62, lt63, lt64, lt70, lt72, lt81, lt97, lt99, lt100, lt122, lt162, lt180, lt235, lt255, lt298, lt299, lt325, lt335, lt400, lt837, lt999, lt1000, lt1001, lt1002, lt1003, lt1004, lt1005, lt1006, lt1007, lt1008, lt1100, lt1101, lt1102, lt1103, lt1104, lt1105, lt1135, lt1136, lt1172, lt2000, lt3278, lt3575, lt10000, lt12345, lt21450, lt32767, lt193050, lt1103515245, ltm162, ltm99, ltm81, ltm8, ltm1, iI_add, iI_sub, iI_mul, iI_neg, iI_divn, iI_lt_t, iI_lt_f, iI_le_t, iI_le_f, iI_eq_t, iI_eq_f, iI_lt, iI_le, iI_eq, iI_idx, iI_inb, gI_sI, gL_sL, gZ_sZ, gI_sL, gI_sZ, gL_sI, gL_sZ, gZ_sI, gZ_sL]), ckB_t (iI_inb (by omega) (by omega) (by omega)), lt_def, ckB_t (iI_inb (by omega) (by omega) (by omega)), lt_def, lt_def, iI_idx (by omega) (by omega), Int.toNat_natCast, lt1, iI_add, Nat.zero_add]) N ma (by omega)
  refine ⟨m2, ?_, fun j hj => ?_, fun j hj => ?_, fun o ho1 ho2 j => ?_⟩
  · unfold F_Lw_copyFrom_3
    rw [← hN]
    have e3 : F_Lw_copyFrom_3_L18 N (0 : Int32) ma = some ((), m2) := by
      refine e2.trans ?_
      rw [F_Lw_copyFrom_3_L18, if_pos (by decide)]
    rw [← e3, hma]
    rfl
  · rw [q2 8 j (fun q => absurd q (by decide)), hma]
    rcases (show j = 0 ∨ j = 1 by omega) with rfl | rfl
    · rfl
    · rfl
  · rw [← ea 58 (by decide), ← Nat.zero_add j]
    exact q1 j hj
  · rw [q2 o j (fun q => absurd q ho2), ea o ho1]
theorem Bcopy_ok (m : Mem) : ∃ m', F_Bk_copyFrom m = some ((), m') ∧ gI m' 12 0 = gI m 73 0 ∧ (∀ j, j < 180 → gI m' 13 j = gI m 74 j) ∧ ∀ o, o ≠ 12 → o ≠ 13 → ∀ j, gI m' o j = gI m o j := by
  obtain ⟨N, hN⟩ : ∃ N : Nat, N = 1000000 := ⟨_, rfl⟩
  obtain ⟨ma, hma⟩ : ∃ x, x = sI m 12 0 (gI m 73 0) := ⟨_, rfl⟩
  have ea : ∀ o, o ≠ 12 → ∀ j, gI ma o j = gI m o j := by
    intro o ho j
    rw [hma, gI_sI, if_neg (fun q => ho q.1)]
  obtain ⟨nf, m2, q1, q2, -, e2⟩ := cpy F_Bk_copyFrom_L10 180 74 0 13 0 (by omega) (by
    intro nf k s hk
    rw [F_Bk_copyFrom_L10, if_neg (by rw [show (180 : Int32) = iI 180 from rfl, iI_le (by omega) (by omega) (by omega) (by omega)]; omega), ckB_t (iI_inb (by omega) (by omega) (by omega)), lt_def, ckB_t (iI_inb (by omega) (by omega) (by omega)), lt_def, lt_def, iI_idx (by omega) (by omega), Int.toNat_natCast, lt1, iI_add, Nat.zero_add]) N ma (by omega)
  refine ⟨m2, ?_, ?_, fun j hj => ?_, fun o ho1 ho2 j => ?_⟩
  · unfold F_Bk_copyFrom
    rw [← hN]
    have e3 : F_Bk_copyFrom_L10 N (0 : Int32) ma = some ((), m2) := by
      refine e2.trans ?_
      rw [F_Bk_copyFrom_L10, if_pos (by decide)]
    rw [← e3, hma]
    rfl
  · rw [q2 12 0 (fun q => absurd q (by decide)), hma]
    rfl
  · rw [← ea 74 (by decide), ← Nat.zero_add j]
    exact q1 j hj
  · rw [q2 o j (fun q => absurd q ho2), ea o ho1]
theorem Bcopy_2_ok (m : Mem) : ∃ m', F_Bk_copyFrom_2 m = some ((), m') ∧ gI m' 73 0 = gI m 12 0 ∧ (∀ j, j < 180 → gI m' 74 j = gI m 13 j) ∧ ∀ o, o ≠ 73 → o ≠ 74 → ∀ j, gI m' o j = gI m o j := by
  obtain ⟨N, hN⟩ : ∃ N : Nat, N = 1000000 := ⟨_, rfl⟩
  obtain ⟨ma, hma⟩ : ∃ x, x = sI m 73 0 (gI m 12 0) := ⟨_, rfl⟩
  have ea : ∀ o, o ≠ 73 → ∀ j, gI ma o j = gI m o j := by
    intro o ho j
    rw [hma, gI_sI, if_neg (fun q => ho q.1)]
  obtain ⟨nf, m2, q1, q2, -, e2⟩ := cpy F_Bk_copyFrom_2_L10 180 13 0 74 0 (by omega) (by
    intro nf k s hk
    rw [F_Bk_copyFrom_2_L10, if_neg (by rw [show (180 : Int32) = iI 180 from rfl, iI_le (by omega) (by omega) (by omega) (by omega)]; omega), ckB_t (iI_inb (by omega) (by omega) (by omega)), lt_def, ckB_t (iI_inb (by omega) (by omega) (by omega)), lt_def, lt_def, iI_idx (by omega) (by omega), Int.toNat_natCast, lt1, iI_add, Nat.zero_add]) N ma (by omega)
  refine ⟨m2, ?_, ?_, fun j hj => ?_, fun o ho1 ho2 j => ?_⟩
  · unfold F_Bk_copyFrom_2
    rw [← hN]
    have e3 : F_Bk_copyFrom_2_L10 N (0 : Int32) ma = some ((), m2) := by
      refine e2.trans ?_
      rw [F_Bk_copyFrom_2_L10, if_pos (by decide)]
    rw [← e3, hma]
    rfl
  · rw [q2 73 0 (fun q => absurd q (by decide)), hma]
    rfl
  · rw [← ea 13 (by decide), ← Nat.zero_add j]
    exact q1 j hj
  · rw [q2 o j (fun q => absurd q ho2), ea o ho1]
theorem Gcopy_ok (m : Mem) : ∃ m', F_Gr_copyFrom m = some ((), m') ∧ (∀ j, j < 7 → gI m' 3 j = gI m 64 j) ∧ (∀ j, j < 2 → gI m' 4 j = gI m 65 j ∧ gI m' 5 j = gI m 66 j) ∧ (∀ j, j < 16 → gI m' 6 j = gI m 67 j ∧ gI m' 7 j = gI m 68 j) ∧ (∀ j, j < 2 → gI m' 8 j = gI m 69 j) ∧ (∀ j, j < 400 → gI m' 9 j = gI m 70 j) ∧ gI m' 12 0 = gI m 73 0 ∧ (∀ j, j < 180 → gI m' 13 j = gI m 74 j) := by
  obtain ⟨N, hN⟩ : ∃ N : Nat, N = 1000000 := ⟨_, rfl⟩
  obtain ⟨ma, hma⟩ : ∃ x, x = sI (sI (sI (sI (sI (sI (sI m 3 0 (gI m 64 0)) 3 1 (gI m 64 1)) 3 2 (gI m 64 2)) 3 3 (gI m 64 3)) 3 4 (gI m 64 4)) 3 5 (gI m 64 5)) 3 6 (gI m 64 6) := ⟨_, rfl⟩
  have ea : ∀ o, o ≠ 3 → ∀ j, gI ma o j = gI m o j := by
    intro o ho j
    rw [hma]
    simp only [gI_sI, gL_sL, gZ_sZ, gI_sL, gI_sZ, gL_sI, gL_sZ, gZ_sI, gZ_sL, ho, false_and, if_false]
  have ea0 : ∀ j, j < 7 → gI ma 3 j = gI m 64 j := by
    intro j hj
    rw [hma]
    rcases (show j = 0 ∨ j = 1 ∨ j = 2 ∨ j = 3 ∨ j = 4 ∨ j = 5 ∨ j = 6 by omega) with rfl | rfl | rfl | rfl | rfl | rfl | rfl <;> rfl
  obtain ⟨k2, hk2⟩ : ∃ x : Mem → Option (Unit × Mem), x = fun (mq9 : Mem) => ((bnd (F_Lw_copyFrom mq9) fun _ mq10 => bnd (F_Bk_copyFrom mq10) fun _ mq13 => some ((), mq13)) : Option (Unit × Mem)) := ⟨_, rfl⟩
  obtain ⟨k1, hk1⟩ : ∃ x : Mem → Option (Unit × Mem), x = fun (mq8 : Mem) => F_Gr_copyFrom_L95 k2 N (0 : Int32) mq8 := ⟨_, rfl⟩
  obtain ⟨nf1, mb, b1, b2, -, eb⟩ := cpy2 (F_Gr_copyFrom_L58 k1) 2 65 4 66 5 (by omega) (by
    intro nf k s hk
    rw [F_Gr_copyFrom_L58, if_neg (by simp (disch := omega) only [↓lt_def, ↓reduceIte, ckB_true, bnd_e, Int.reduceAdd, Int.reduceSub, Int.reduceMul, Int.reduceNeg, Int.reduceToNat, Bool.false_eq_true, eq_self, not_false_eq_true, not_true_eq_false, Int.toNat_natCast, lt0, lt1, lt2, lt3, lt4, lt5, lt6, lt7, lt8, lt9, lt10, lt11, lt12, lt13, lt14, lt15, lt16, lt17, lt18, lt19, lt20, lt21, lt22, lt23, lt24, lt25, lt26, lt27, lt28, lt29, lt30, lt31, lt32, lt40, lt41, lt43, lt48, lt55, lt57, lt59, lt60, lt62, lt63, lt64, lt70, lt72, lt81, lt97, lt99, lt100, lt122, lt162, lt180, lt235, lt255, lt298, lt299, lt325, lt335, lt400, lt837, lt999, lt1000, lt1001, lt1002, lt1003, lt1004, lt1005, lt1006, lt1007, lt1008, lt1100, lt1101, lt1102, lt1103, lt1104, lt1105, lt1135, lt1136, lt1172, lt2000, lt3278, lt3575, lt10000, lt12345, lt21450, lt32767, lt193050, lt1103515245, ltm162, ltm99, ltm81, ltm8, ltm1, iI_add, iI_sub, iI_mul, iI_neg, iI_divn, iI_lt_t, iI_lt_f, iI_le_t, iI_le_f, iI_eq_t, iI_eq_f, iI_lt, iI_le, iI_eq, iI_idx, iI_inb, gI_sI, gL_sL, gZ_sZ, gI_sL, gI_sZ, gL_sI, gL_sZ, gZ_sI, gZ_sL]), ckB_t (iI_inb (by omega) (by omega) (by omega)), lt_def, ckB_t (iI_inb (by omega) (by omega) (by omega)), lt_def, ckB_t (iI_inb (by omega) (by omega) (by omega)), lt_def, ckB_t (iI_inb (by omega) (by omega) (by omega)), lt_def, lt_def, iI_idx (by omega) (by omega), Int.toNat_natCast, lt1, iI_add, gI_sI, if_neg (fun q => absurd q.1 (by decide))]) N ma (by omega)
  obtain ⟨nf2, mc, c1, c2, -, ec⟩ := cpy2 (F_Gr_copyFrom_L95 k2) 16 67 6 68 7 (by omega) (by
    intro nf k s hk
    rw [F_Gr_copyFrom_L95, if_neg (by simp (disch := omega) only [↓lt_def, ↓reduceIte, ckB_true, bnd_e, Int.reduceAdd, Int.reduceSub, Int.reduceMul, Int.reduceNeg, Int.reduceToNat, Bool.false_eq_true, eq_self, not_false_eq_true, not_true_eq_false, Int.toNat_natCast, lt0, lt1, lt2, lt3, lt4, lt5, lt6, lt7, lt8, lt9, lt10, lt11, lt12, lt13, lt14, lt15, lt16, lt17, lt18, lt19, lt20, lt21, lt22, lt23, lt24, lt25, lt26, lt27, lt28, lt29, lt30, lt31, lt32, lt40, lt41, lt43, lt48, lt55, lt57, lt59, lt60, lt62, lt63, lt64, lt70, lt72, lt81, lt97, lt99, lt100, lt122, lt162, lt180, lt235, lt255, lt298, lt299, lt325, lt335, lt400, lt837, lt999, lt1000, lt1001, lt1002, lt1003, lt1004, lt1005, lt1006, lt1007, lt1008, lt1100, lt1101, lt1102, lt1103, lt1104, lt1105, lt1135, lt1136, lt1172, lt2000, lt3278, lt3575, lt10000, lt12345, lt21450, lt32767, lt193050, lt1103515245, ltm162, ltm99, ltm81, ltm8, ltm1, iI_add, iI_sub, iI_mul, iI_neg, iI_divn, iI_lt_t, iI_lt_f, iI_le_t, iI_le_f, iI_eq_t, iI_eq_f, iI_lt, iI_le, iI_eq, iI_idx, iI_inb, gI_sI, gL_sL, gZ_sZ, gI_sL, gI_sZ, gL_sI, gL_sZ, gZ_sI, gZ_sL]), ckB_t (iI_inb (by omega) (by omega) (by omega)), lt_def, ckB_t (iI_inb (by omega) (by omega) (by omega)), lt_def, ckB_t (iI_inb (by omega) (by omega) (by omega)), lt_def, ckB_t (iI_inb (by omega) (by omega) (by omega)), lt_def, lt_def, iI_idx (by omega) (by omega), Int.toNat_natCast, lt1, iI_add, gI_sI, if_neg (fun q => absurd q.1 (by decide))]) N mb (by omega)
  obtain ⟨md, ed, d1, d2, d3⟩ := Lcopy_ok mc
  obtain ⟨me, ee, e1, e2, e3⟩ := Bcopy_ok md
  refine ⟨me, ?_, fun j hj => ?_, fun j hj => ⟨?_, ?_⟩, fun j hj => ⟨?_, ?_⟩, fun j hj => ?_, fun j hj => ?_, ?_, fun j hj => ?_⟩
  · unfold F_Gr_copyFrom
    rw [← hN]
    have x1 : k2 mc = some ((), me) := by
      rw [hk2]
      dsimp only
      rw [bnd_some ed, bnd_some ee]
    have x2 : k1 mb = some ((), me) := by
      rw [hk1]
      refine (show _ = _ from ec).trans ?_
      rw [F_Gr_copyFrom_L95, if_pos (by decide), x1]
    have x3 : F_Gr_copyFrom_L58 k1 N (0 : Int32) ma = some ((), me) := by
      refine (show _ = _ from eb).trans ?_
      rw [F_Gr_copyFrom_L58, if_pos (by decide), x2]
    rw [← x3, hma, hk1, hk2]
    rfl
  · rw [e3 3 (by decide) (by decide), d3 3 (by decide) (by decide), c2 3 (by decide) (by decide), b2 3 (by decide) (by decide)]
    exact ea0 j hj
  · rw [e3 4 (by decide) (by decide), d3 4 (by decide) (by decide), c2 4 (by decide) (by decide), (b1 j hj).1, ea 65 (by decide)]
  · rw [e3 5 (by decide) (by decide), d3 5 (by decide) (by decide), c2 5 (by decide) (by decide), (b1 j hj).2, ea 66 (by decide)]
  · rw [e3 6 (by decide) (by decide), d3 6 (by decide) (by decide), (c1 j hj).1, b2 67 (by decide) (by decide), ea 67 (by decide)]
  · rw [e3 7 (by decide) (by decide), d3 7 (by decide) (by decide), (c1 j hj).2, b2 68 (by decide) (by decide), ea 68 (by decide)]
  · rw [e3 8 (by decide) (by decide), d1 j hj, c2 69 (by decide) (by decide), b2 69 (by decide) (by decide), ea 69 (by decide)]
  · rw [e3 9 (by decide) (by decide), d2 j hj, c2 70 (by decide) (by decide), b2 70 (by decide) (by decide), ea 70 (by decide)]
  · rw [e1, d3 73 (by decide) (by decide), c2 73 (by decide) (by decide), b2 73 (by decide) (by decide), ea 73 (by decide)]
  · rw [e2 j hj, d3 74 (by decide) (by decide), c2 74 (by decide) (by decide), b2 74 (by decide) (by decide), ea 74 (by decide)]
theorem Gcopy_2_ok (m : Mem) : ∃ m', F_Gr_copyFrom_2 m = some ((), m') ∧ (∀ j, j < 7 → gI m' 64 j = gI m 3 j) ∧ (∀ j, j < 2 → gI m' 65 j = gI m 4 j ∧ gI m' 66 j = gI m 5 j) ∧ (∀ j, j < 16 → gI m' 67 j = gI m 6 j ∧ gI m' 68 j = gI m 7 j) ∧ (∀ j, j < 2 → gI m' 69 j = gI m 8 j) ∧ (∀ j, j < 400 → gI m' 70 j = gI m 9 j) ∧ gI m' 73 0 = gI m 12 0 ∧ (∀ j, j < 180 → gI m' 74 j = gI m 13 j) := by
  obtain ⟨N, hN⟩ : ∃ N : Nat, N = 1000000 := ⟨_, rfl⟩
  obtain ⟨ma, hma⟩ : ∃ x, x = sI (sI (sI (sI (sI (sI (sI m 64 0 (gI m 3 0)) 64 1 (gI m 3 1)) 64 2 (gI m 3 2)) 64 3 (gI m 3 3)) 64 4 (gI m 3 4)) 64 5 (gI m 3 5)) 64 6 (gI m 3 6) := ⟨_, rfl⟩
  have ea : ∀ o, o ≠ 64 → ∀ j, gI ma o j = gI m o j := by
    intro o ho j
    rw [hma]
    simp only [gI_sI, gL_sL, gZ_sZ, gI_sL, gI_sZ, gL_sI, gL_sZ, gZ_sI, gZ_sL, ho, false_and, if_false]
  have ea0 : ∀ j, j < 7 → gI ma 64 j = gI m 3 j := by
    intro j hj
    rw [hma]
    rcases (show j = 0 ∨ j = 1 ∨ j = 2 ∨ j = 3 ∨ j = 4 ∨ j = 5 ∨ j = 6 by omega) with rfl | rfl | rfl | rfl | rfl | rfl | rfl <;> rfl
  obtain ⟨k2, hk2⟩ : ∃ x : Mem → Option (Unit × Mem), x = fun (mq9 : Mem) => ((bnd (F_Lw_copyFrom_2 mq9) fun _ mq10 => bnd (F_Bk_copyFrom_2 mq10) fun _ mq13 => some ((), mq13)) : Option (Unit × Mem)) := ⟨_, rfl⟩
  obtain ⟨k1, hk1⟩ : ∃ x : Mem → Option (Unit × Mem), x = fun (mq8 : Mem) => F_Gr_copyFrom_2_L95 k2 N (0 : Int32) mq8 := ⟨_, rfl⟩
  obtain ⟨nf1, mb, b1, b2, -, eb⟩ := cpy2 (F_Gr_copyFrom_2_L58 k1) 2 4 65 5 66 (by omega) (by
    intro nf k s hk
    rw [F_Gr_copyFrom_2_L58, if_neg (by simp (disch := omega) only [↓lt_def, ↓reduceIte, ckB_true, bnd_e, Int.reduceAdd, Int.reduceSub, Int.reduceMul, Int.reduceNeg, Int.reduceToNat, Bool.false_eq_true, eq_self, not_false_eq_true, not_true_eq_false, Int.toNat_natCast, lt0, lt1, lt2, lt3, lt4, lt5, lt6, lt7, lt8, lt9, lt10, lt11, lt12, lt13, lt14, lt15, lt16, lt17, lt18, lt19, lt20, lt21, lt22, lt23, lt24, lt25, lt26, lt27, lt28, lt29, lt30, lt31, lt32, lt40, lt41, lt43, lt48, lt55, lt57, lt59, lt60, lt62, lt63, lt64, lt70, lt72, lt81, lt97, lt99, lt100, lt122, lt162, lt180, lt235, lt255, lt298, lt299, lt325, lt335, lt400, lt837, lt999, lt1000, lt1001, lt1002, lt1003, lt1004, lt1005, lt1006, lt1007, lt1008, lt1100, lt1101, lt1102, lt1103, lt1104, lt1105, lt1135, lt1136, lt1172, lt2000, lt3278, lt3575, lt10000, lt12345, lt21450, lt32767, lt193050, lt1103515245, ltm162, ltm99, ltm81, ltm8, ltm1, iI_add, iI_sub, iI_mul, iI_neg, iI_divn, iI_lt_t, iI_lt_f, iI_le_t, iI_le_f, iI_eq_t, iI_eq_f, iI_lt, iI_le, iI_eq, iI_idx, iI_inb, gI_sI, gL_sL, gZ_sZ, gI_sL, gI_sZ, gL_sI, gL_sZ, gZ_sI, gZ_sL]), ckB_t (iI_inb (by omega) (by omega) (by omega)), lt_def, ckB_t (iI_inb (by omega) (by omega) (by omega)), lt_def, ckB_t (iI_inb (by omega) (by omega) (by omega)), lt_def, ckB_t (iI_inb (by omega) (by omega) (by omega)), lt_def, lt_def, iI_idx (by omega) (by omega), Int.toNat_natCast, lt1, iI_add, gI_sI, if_neg (fun q => absurd q.1 (by decide))]) N ma (by omega)
  obtain ⟨nf2, mc, c1, c2, -, ec⟩ := cpy2 (F_Gr_copyFrom_2_L95 k2) 16 6 67 7 68 (by omega) (by
    intro nf k s hk
    rw [F_Gr_copyFrom_2_L95, if_neg (by simp (disch := omega) only [↓lt_def, ↓reduceIte, ckB_true, bnd_e, Int.reduceAdd, Int.reduceSub, Int.reduceMul, Int.reduceNeg, Int.reduceToNat, Bool.false_eq_true, eq_self, not_false_eq_true, not_true_eq_false, Int.toNat_natCast, lt0, lt1, lt2, lt3, lt4, lt5, lt6, lt7, lt8, lt9, lt10, lt11, lt12, lt13, lt14, lt15, lt16, lt17, lt18, lt19, lt20, lt21, lt22, lt23, lt24, lt25, lt26, lt27, lt28, lt29, lt30, lt31, lt32, lt40, lt41, lt43, lt48, lt55, lt57, lt59, lt60, lt62, lt63, lt64, lt70, lt72, lt81, lt97, lt99, lt100, lt122, lt162, lt180, lt235, lt255, lt298, lt299, lt325, lt335, lt400, lt837, lt999, lt1000, lt1001, lt1002, lt1003, lt1004, lt1005, lt1006, lt1007, lt1008, lt1100, lt1101, lt1102, lt1103, lt1104, lt1105, lt1135, lt1136, lt1172, lt2000, lt3278, lt3575, lt10000, lt12345, lt21450, lt32767, lt193050, lt1103515245, ltm162, ltm99, ltm81, ltm8, ltm1, iI_add, iI_sub, iI_mul, iI_neg, iI_divn, iI_lt_t, iI_lt_f, iI_le_t, iI_le_f, iI_eq_t, iI_eq_f, iI_lt, iI_le, iI_eq, iI_idx, iI_inb, gI_sI, gL_sL, gZ_sZ, gI_sL, gI_sZ, gL_sI, gL_sZ, gZ_sI, gZ_sL]), ckB_t (iI_inb (by omega) (by omega) (by omega)), lt_def, ckB_t (iI_inb (by omega) (by omega) (by omega)), lt_def, ckB_t (iI_inb (by omega) (by omega) (by omega)), lt_def, ckB_t (iI_inb (by omega) (by omega) (by omega)), lt_def, lt_def, iI_idx (by omega) (by omega), Int.toNat_natCast, lt1, iI_add, gI_sI, if_neg (fun q => absurd q.1 (by decide))]) N mb (by omega)
  obtain ⟨md, ed, d1, d2, d3⟩ := Lcopy_2_ok mc
  obtain ⟨me, ee, e1, e2, e3⟩ := Bcopy_2_ok md
  refine ⟨me, ?_, fun j hj => ?_, fun j hj => ⟨?_, ?_⟩, fun j hj => ⟨?_, ?_⟩, fun j hj => ?_, fun j hj => ?_, ?_, fun j hj => ?_⟩
  · unfold F_Gr_copyFrom_2
    rw [← hN]
    have x1 : k2 mc = some ((), me) := by
      rw [hk2]
      dsimp only
      rw [bnd_some ed, bnd_some ee]
    have x2 : k1 mb = some ((), me) := by
      rw [hk1]
      refine (show _ = _ from ec).trans ?_
      rw [F_Gr_copyFrom_2_L95, if_pos (by decide), x1]
    have x3 : F_Gr_copyFrom_2_L58 k1 N (0 : Int32) ma = some ((), me) := by
      refine (show _ = _ from eb).trans ?_
      rw [F_Gr_copyFrom_2_L58, if_pos (by decide), x2]
    rw [← x3, hma, hk1, hk2]
    rfl
  · rw [e3 64 (by decide) (by decide), d3 64 (by decide) (by decide), c2 64 (by decide) (by decide), b2 64 (by decide) (by decide)]
    exact ea0 j hj
  · rw [e3 65 (by decide) (by decide), d3 65 (by decide) (by decide), c2 65 (by decide) (by decide), (b1 j hj).1, ea 4 (by decide)]
  · rw [e3 66 (by decide) (by decide), d3 66 (by decide) (by decide), c2 66 (by decide) (by decide), (b1 j hj).2, ea 5 (by decide)]
  · rw [e3 67 (by decide) (by decide), d3 67 (by decide) (by decide), (c1 j hj).1, b2 6 (by decide) (by decide), ea 6 (by decide)]
  · rw [e3 68 (by decide) (by decide), d3 68 (by decide) (by decide), (c1 j hj).2, b2 7 (by decide) (by decide), ea 7 (by decide)]
  · rw [e3 69 (by decide) (by decide), d1 j hj, c2 8 (by decide) (by decide), b2 8 (by decide) (by decide), ea 8 (by decide)]
  · rw [e3 70 (by decide) (by decide), d2 j hj, c2 9 (by decide) (by decide), b2 9 (by decide) (by decide), ea 9 (by decide)]
  · rw [e1, d3 12 (by decide) (by decide), c2 12 (by decide) (by decide), b2 12 (by decide) (by decide), ea 12 (by decide)]
  · rw [e2 j hj, d3 13 (by decide) (by decide), c2 13 (by decide) (by decide), b2 13 (by decide) (by decide), ea 13 (by decide)]
end CPY
