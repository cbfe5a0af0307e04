section SIGNSB
def sm (G : Nat → Nat) : Nat → Nat
  | 0 => 0
  | k + 1 => sm G k + G k
theorem sm_s (G : Nat → Nat) (k : Nat) : sm G (k + 1) = sm G k + G k := rfl
theorem sm_cg {G H : Nat → Nat} : ∀ {k : Nat}, (∀ i, i < k → G i = H i) → sm G k = sm H k
  | 0, _ => rfl
  | k + 1, h => by rw [sm_s, sm_s, sm_cg (fun i hi => h i (by omega)), h k (by omega)]
theorem sm_le {G : Nat → Nat} {c : Nat} : ∀ {k : Nat}, (∀ i, i < k → G i ≤ c) → sm G k ≤ k * c
  | 0, _ => by simp [sm]
  | k + 1, h => by
    have h1 := sm_le (k := k) (fun i hi => h i (by omega))
    have h2 := h k (by omega)
    rw [sm_s, Nat.succ_mul]
    omega
theorem sm_1 (G : Nat → Nat) : sm G 1 = G 0 := by
  show 0 + G 0 = _
  omega
theorem sm_4 (G : Nat → Nat) : sm G 4 = G 0 + G 1 + G 2 + G 3 := by
  show 0 + G 0 + G 1 + G 2 + G 3 = _
  omega
theorem sm_16 (G : Nat → Nat) : sm G 16 = G 0 + G 1 + G 2 + G 3 + G 4 + G 5 + G 6 + G 7 + G 8 + G 9 + G 10 + G 11 + G 12 + G 13 + G 14 + G 15 := by
  show 0 + G 0 + G 1 + G 2 + G 3 + G 4 + G 5 + G 6 + G 7 + G 8 + G 9 + G 10 + G 11 + G 12 + G 13 + G 14 + G 15 = _
  omega
def mxM (b : Nat → Int) (one two : Int) (N x : Nat) : Nat := max (swM b one two x N) (stM b one two x N)
/-- how many are told right -/
def TRn (b : Nat → Int) (one two : Int) (N : Nat) : Nat := sm (mxM b one two N) 16
theorem mxM_le (b : Nat → Int) (one two : Int) (N x : Nat) : mxM b one two N x ≤ N := by
  have h1 := cn_le (fun i => keyM b one two x i && swgM b i) N
  have h2 := cn_le (fun i => keyM b one two x i && !swgM b i) N
  unfold mxM swM stM
  omega
theorem TRn_le (b : Nat → Int) (one two : Int) (N : Nat) : TRn b one two N ≤ 16 * N := sm_le (fun x _ => mxM_le b one two N x)
theorem toldRight_ok {m : Mem} {b : Nat → Int} {one two : Int} {N : Nat} (hN : N ≤ 100) (hx : ∀ x : Nat, x < 16 → gI m 62 x = iI (swM b one two x N) ∧ gI m 63 x = iI (stM b one two x N)) : F_Mo_toldRight m = some (iI (TRn b one two N), m) := by
  obtain ⟨F, hF⟩ : ∃ F : Nat, F = 1000000 := ⟨_, rfl⟩
  have up : ∀ (d x nf : Nat), x + d = 16 → d < nf → F_Mo_toldRight_L4 nf (iI (sm (mxM b one two N) x : Nat)) (iI x) m = some (iI (TRn b one two N), m) := by
    intro d
    induction d with
    | zero =>
      intro x nf hk hnf
      obtain ⟨nf, rfl⟩ : ∃ x, nf = x + 1 := ⟨nf - 1, by omega⟩
      have e : x = 16 := by omega
      subst e
      rw [F_Mo_toldRight_L4, if_pos (by decide)]
      rfl
    | succ d ih =>
      intro x nf hk hnf
      obtain ⟨nf, rfl⟩ : ∃ x, nf = x + 1 := ⟨nf - 1, by omega⟩
      obtain ⟨x1, x2⟩ := hx x (by omega)
      have l1 := cn_le (fun i => keyM b one two x i && swgM b i) N
      have l2 := cn_le (fun i => keyM b one two x i && !swgM b i) N
      have l3 : swM b one two x N ≤ N := l1
      have l4 : stM b one two x N ≤ N := l2
      rw [F_Mo_toldRight_L4, if_neg (by simp (disch := omega) only [↓lt_def, ↓reduceIte, ckB_true, bnd_e, Int.reduceAdd, Int.reduceSub, Int.reduceMul, Int.reduceNeg, Int.reduceToNat, Bool.false_eq_true, eq_self, not_false_eq_true, not_true_eq_false, Int.toNat_natCast, lt0, lt1, lt2, lt3, lt4, lt5, lt6, lt7, lt8, lt9, lt10, lt11, lt12, lt13, lt14, lt15, lt16, lt17, lt18, lt19, lt20, lt21, lt22, lt23, lt24, lt25, lt26, lt27, lt28, lt29, lt30, lt31, lt32, lt40, lt41, lt43, lt48, lt55, lt57, lt59, lt60, lt62, lt63, lt64, lt70, lt72, lt81, lt97, lt99, lt100, lt122, lt162, lt180, lt235, lt255, lt298, lt299, lt325, lt335, lt400, lt837, lt999, lt1000, lt1001, lt1002, lt1003, lt1004, lt1005, lt1006, lt1007, lt1008, lt1100, lt1101, lt1102, lt1103, lt1104, lt1105, lt1135, lt1136, lt1172, lt2000, lt3278, lt3575, lt10000, lt12345, lt21450, lt32767, lt193050, lt1103515245, ltm162, ltm99, ltm81, ltm8, ltm1, iI_add, iI_sub, iI_mul, iI_neg, iI_divn, iI_lt_t, iI_lt_f, iI_le_t, iI_le_f, iI_eq_t, iI_eq_f, iI_lt, iI_le, iI_eq, iI_idx, iI_inb, gI_sI, gL_sL, gZ_sZ, gI_sL, gI_sZ, gL_sI, gL_sZ, gZ_sI, gZ_sL]), ckB_t (iI_inb (by omega) (by omega) (by omega)), lt_def, ckB_t (iI_inb (by omega) (by omega) (by omega)), lt_def, iI_idx (by omega) (by omega), Int.toNat_natCast, x1, x2, mxI_iI (by omega) (by omega) (by omega) (by omega), iI_add, lt_def, lt1, iI_add, lt_def]
      have e : ((sm (mxM b one two N) x : Nat) : Int) + max ((swM b one two x N : Nat) : Int) ((stM b one two x N : Nat) : Int) = ((sm (mxM b one two N) (x + 1) : Nat) : Int) := by
        rw [sm_s]
        unfold mxM
        omega
      rw [e]
      exact ih (x + 1) nf (by omega) (by omega)
  unfold F_Mo_toldRight
  rw [← hF]
  exact up 16 0 F (by omega) (by omega)
def mrM (b : Nat → Int) (one v two u : Int) (sg : Bool) (i : Nat) : Bool := decide (b (4 * i + one.toNat) = v) && (decide (two < 0) || decide (b (4 * i + two.toNat) = u)) && (!sg || swgM b i)
theorem mornings_ok {m : Mem} {b : Nat → Int} {T N : Nat} (h : RT m b T) (hN : T = 4 * N) (hb : ∀ i, i < T → b i < 4) (h10 : gI m 78 10 = iI T) {one v two u : Int} (sg : Bool) (o0 : 0 ≤ one) (o2 : one ≤ 2) (t0 : -1 ≤ two) (t2 : two ≤ 2) (v0 : 0 ≤ v) (v3 : v ≤ 3) (u0 : 0 ≤ u) (u3 : u ≤ 3) : F_M_mornings (iI one) (iI v) (iI two) (iI u) sg m = some (iI (cn (mrM b one v two u sg) N), m) := by
  have hT := h.1
  obtain ⟨F, hF⟩ : ∃ F : Nat, F = 1000000 := ⟨_, rfl⟩
  have g : ∀ i, i < T → gI m 83 i = iI (b i) ∧ 0 ≤ b i ∧ b i < 4 := by
    intro i hi
    obtain ⟨e1, e2, e3⟩ := h.2 i hi
    have := hb i hi
    refine ⟨?_, e2, this⟩
    rw [e1]
    unfold sb
    rw [if_pos (by omega)]
  have up : ∀ (d i nf : Nat), i + d = N → d < nf → F_M_mornings_L6 (iI one) (iI v) (iI two) (iI u) sg nf (iI (cn (mrM b one v two u sg) i : Nat)) (iI (4 * i : Nat)) m = some (iI (cn (mrM b one v two u sg) N), m) := by
    intro d
    induction d with
    | zero =>
      intro i nf hk hnf
      obtain ⟨nf, rfl⟩ : ∃ x, nf = x + 1 := ⟨nf - 1, by omega⟩
      have e : i = N := by omega
      subst e
      rw [F_M_mornings_L6, if_pos (by rw [h10]; simp (disch := omega) only [↓lt_def, ↓reduceIte, ckB_true, bnd_e, Int.reduceAdd, Int.reduceSub, Int.reduceMul, Int.reduceNeg, Int.reduceToNat, Bool.false_eq_true, eq_self, not_false_eq_true, not_true_eq_false, Int.toNat_natCast, lt0, lt1, lt2, lt3, lt4, lt5, lt6, lt7, lt8, lt9, lt10, lt11, lt12, lt13, lt14, lt15, lt16, lt17, lt18, lt19, lt20, lt21, lt22, lt23, lt24, lt25, lt26, lt27, lt28, lt29, lt30, lt31, lt32, lt40, lt41, lt43, lt48, lt55, lt57, lt59, lt60, lt62, lt63, lt64, lt70, lt72, lt81, lt97, lt99, lt100, lt122, lt162, lt180, lt235, lt255, lt298, lt299, lt325, lt335, lt400, lt837, lt999, lt1000, lt1001, lt1002, lt1003, lt1004, lt1005, lt1006, lt1007, lt1008, lt1100, lt1101, lt1102, lt1103, lt1104, lt1105, lt1135, lt1136, lt1172, lt2000, lt3278, lt3575, lt10000, lt12345, lt21450, lt32767, lt193050, lt1103515245, ltm162, ltm99, ltm81, ltm8, ltm1, iI_add, iI_sub, iI_mul, iI_neg, iI_divn, iI_lt_t, iI_lt_f, iI_le_t, iI_le_f, iI_eq_t, iI_eq_f, iI_lt, iI_le, iI_eq, iI_idx, iI_inb, gI_sI, gL_sL, gZ_sZ, gI_sL, gI_sZ, gL_sI, gL_sZ, gZ_sI, gZ_sL])]
    | succ d ih =>
      intro i nf hk hnf
      obtain ⟨nf, rfl⟩ : ∃ x, nf = x + 1 := ⟨nf - 1, by omega⟩
      have r1 := g (4 * i + one.toNat) (by omega)
      have r2 := g (4 * i + two.toNat) (by omega)
      have r3 := g (4 * i + 3) (by omega)
      have q1 : (((4 * i : Nat) : Int) + one).toNat = 4 * i + one.toNat := by omega
      have q3 : (((4 * i : Nat) : Int) + 3).toNat = 4 * i + 3 := by omega
      rw [F_M_mornings_L6, if_neg (by rw [h10]; simp (disch := omega) only [↓lt_def, ↓reduceIte, ckB_true, bnd_e, Int.reduceAdd, Int.reduceSub, Int.reduceMul, Int.reduceNeg, Int.reduceToNat, Bool.false_eq_true, eq_self, not_false_eq_true, not_true_eq_false, Int.toNat_natCast, lt0, lt1, lt2, lt3, lt4, lt5, lt6, lt7, lt8, lt9, lt10, lt11, lt12, lt13, lt14, lt15, lt16, lt17, lt18, lt19, lt20, lt21, lt22, lt23, lt24, lt25, lt26, lt27, lt28, lt29, lt30, lt31, lt32, lt40, lt41, lt43, lt48, lt55, lt57, lt59, lt60, lt62, lt63, lt64, lt70, lt72, lt81, lt97, lt99, lt100, lt122, lt162, lt180, lt235, lt255, lt298, lt299, lt325, lt335, lt400, lt837, lt999, lt1000, lt1001, lt1002, lt1003, lt1004, lt1005, lt1006, lt1007, lt1008, lt1100, lt1101, lt1102, lt1103, lt1104, lt1105, lt1135, lt1136, lt1172, lt2000, lt3278, lt3575, lt10000, lt12345, lt21450, lt32767, lt193050, lt1103515245, ltm162, ltm99, ltm81, ltm8, ltm1, iI_add, iI_sub, iI_mul, iI_neg, iI_divn, iI_lt_t, iI_lt_f, iI_le_t, iI_le_f, iI_eq_t, iI_eq_f, iI_lt, iI_le, iI_eq, iI_idx, iI_inb, gI_sI, gL_sL, gZ_sZ, gI_sL, gI_sZ, gL_sI, gL_sZ, gZ_sI, gZ_sL]), iI_add, ckB_t (iI_inb (by omega) (by omega) (by omega)), lt_def, iI_idx (by omega) (by omega), q1, r1.1]
      refine lt_go (fun k71 h71 => ?_)
      refine lt_go (fun k70 h70 => ?_)
      have e71 : ∀ zq : Bool, mrM b one v two u sg i = zq → k71 zq m = some (iI (cn (mrM b one v two u sg) N), m) := by
        intro zq hz
        rw [h71]
        dsimp only
        rw [b2i_add, lt_def, lt_def, lt4, iI_add, show (((4 * i : Nat) : Int) + 4) = ((4 * (i + 1) : Nat) : Int) by omega, ← hz]
        exact ih (i + 1) nf (by omega) (by omega)
      by_cases h1 : b (4 * i + one.toNat) = v
      · rw [if_pos (by rw [h1])]
        refine lt_go (fun k48 h48 => ?_)
        by_cases h2 : two < 0 ∨ b (4 * i + two.toNat) = u
        · have hm : mrM b one v two u sg i = (!sg || swgM b i) := by
            unfold mrM
            rw [decide_eq_true h1, Bool.true_and]
            rcases h2 with h2 | h2
            · rw [decide_eq_true h2, Bool.true_or, Bool.true_and]
            · rw [decide_eq_true h2, Bool.or_true, Bool.true_and]
          have e48 : k48 m = some (iI (cn (mrM b one v two u sg) N), m) := by
            rw [h48]
            dsimp only
            refine lt_go (fun k66 h66 => ?_)
            cases sg with
            | false =>
              rw [if_neg (by decide), h66]
              dsimp only
              exact e71 true hm
            | true =>
              rw [if_pos rfl, lt3, iI_add, ckB_t (iI_inb (by omega) (by omega) (by omega)), lt_def, iI_idx (by omega) (by omega), q3, r3.1]
              by_cases h3 : b (4 * i + 3) = 1
              · rw [if_pos (by rw [h3]; rfl), h66]
                dsimp only
                exact e71 true (hm.trans (by unfold swgM; rw [decide_eq_true h3]; rfl))
              · rw [if_neg (by rw [lt1, iI_eq (by omega) (by omega) (by omega) (by omega)]; exact h3), h70]
                dsimp only
                exact e71 false (hm.trans (by unfold swgM; rw [decide_eq_false h3]; rfl))
          by_cases ht : two < 0
          · rw [if_pos (by rw [lt0, iI_lt (by omega) (by omega) (by omega) (by omega)]; exact ht)]
            exact e48
          · rw [if_neg (by rw [lt0, iI_lt (by omega) (by omega) (by omega) (by omega)]; exact ht), iI_add, ckB_t (iI_inb (by omega) (by omega) (by omega)), lt_def, iI_idx (by omega) (by omega), show (((4 * i : Nat) : Int) + two).toNat = 4 * i + two.toNat by omega, r2.1, if_pos (by rw [h2.resolve_left ht])]
            exact e48
        · have ht : ¬ two < 0 := fun q => h2 (Or.inl q)
          have hu : ¬ b (4 * i + two.toNat) = u := fun q => h2 (Or.inr q)
          rw [if_neg (by rw [lt0, iI_lt (by omega) (by omega) (by omega) (by omega)]; exact ht), iI_add, ckB_t (iI_inb (by omega) (by omega) (by omega)), lt_def, iI_idx (by omega) (by omega), show (((4 * i : Nat) : Int) + two).toNat = 4 * i + two.toNat by omega, r2.1, if_neg (by rw [iI_eq (by omega) (by omega) (by omega) (by omega)]; exact hu), h70]
          dsimp only
          refine e71 false ?_
          unfold mrM
          rw [decide_eq_false ht, decide_eq_false hu, Bool.or_false, Bool.and_false, Bool.false_and]
      · rw [if_neg (by rw [iI_eq (by omega) (by omega) (by omega) (by omega)]; exact h1), h70]
        dsimp only
        refine e71 false ?_
        unfold mrM
        rw [decide_eq_false h1, Bool.false_and, Bool.false_and]
  unfold F_M_mornings
  rw [← hF]
  exact up N 0 F (by omega) (by omega)
theorem mrM_sg (b : Nat → Int) (one v two u : Int) (sg : Bool) (i : Nat) : mrM b one v two u sg i = (mrM b one v two u false i && (!sg || swgM b i)) := by
  unfold mrM
  cases sg
  · simp
  · simp
theorem mrM_one {b : Nat → Int} {one v u : Int} {i : Nat} : mrM b one v (-1) u false i = keyM b one one v i := by
  unfold mrM keyM vlM
  rw [if_pos rfl, Int.add_zero]
  simp
theorem mrM_two {b : Nat → Int} {one two : Int} {v u i : Nat} (ht : 0 ≤ two) (hne : one ≠ two) (hv : v < 4) (hu : u < 4) (h1 : 0 ≤ b (4 * i + one.toNat) ∧ b (4 * i + one.toNat) < 4) (h2 : 0 ≤ b (4 * i + two.toNat) ∧ b (4 * i + two.toNat) < 4) : mrM b one v two u false i = keyM b one two ((v + 4 * u : Nat) : Int) i := by
  unfold mrM keyM vlM
  rw [if_neg hne, decide_eq_false (show ¬ two < 0 by omega), Bool.false_or, Bool.not_false, Bool.true_or, Bool.and_true, ← Bool.decide_and, decide_eq_decide]
  omega
/-- what the reference adds for a pair of values -/
def hM (b : Nat → Int) (one two : Int) (N v u : Nat) : Nat := max (cn (mrM b one v two u true) N) (cn (mrM b one v two u false) N - cn (mrM b one v two u true) N)
theorem hM_le (b : Nat → Int) (one two : Int) (N v u : Nat) : hM b one two N v u ≤ N := by
  have h1 := cn_le (mrM b one v two u true) N
  have h2 := cn_le (mrM b one v two u false) N
  unfold hM
  omega
theorem hM_key {b : Nat → Int} {one two on2 : Int} {N v u x : Nat} (h : ∀ i, i < N → mrM b one v two u false i = keyM b one on2 x i) : hM b one two N v u = mxM b one on2 N x := by
  unfold hM mxM
  have e1 : cn (mrM b one v two u true) N = swM b one on2 x N := by
    unfold swM
    refine cn_cg (fun i hi => ?_)
    rw [mrM_sg, h i hi]
    simp
  have e2 : cn (mrM b one v two u false) N = cn (keyM b one on2 x) N := cn_cg h
  have e3 := cn_split (keyM b one on2 x) (swgM b) N
  have e4 : swM b one on2 x N + stM b one on2 x N = cn (keyM b one on2 x) N := e3
  rw [e1, e2]
  omega
theorem rightBy_loop {m : Mem} {b : Nat → Int} {T N U : Nat} (h : RT m b T) (hN : T = 4 * N) (hb : ∀ i, i < T → b i < 4) (h10 : gI m 78 10 = iI T) {one two : Int} (o0 : 0 ≤ one) (o2 : one ≤ 2) (t0 : -1 ≤ two) (t2 : two ≤ 2) (hU : U = if two < 0 then 1 else 4) : F_M_rightBy (iI one) (iI two) m = some (iI (sm (fun v => sm (hM b one two N v) U) 4 : Nat), m) := by
  have hT := h.1
  have hU4 : U ≤ 4 := by rw [hU]; split <;> omega
  obtain ⟨F, hF⟩ : ∃ F : Nat, F = 1000000 := ⟨_, rfl⟩
  have inner : ∀ (kk : Int32 → Mem → Option (Int32 × Mem)) (A v : Nat), A ≤ 10000 → v < 4 → ∀ (d u nf : Nat), u + d = U → d < nf → F_M_rightBy_L14 (iI one) (iI two) (iI v) kk nf (iI (A + sm (hM b one two N v) u : Nat)) (iI u) m = kk (iI (A + sm (hM b one two N v) U : Nat)) m := by
    intro kk A v hA hv d
    induction d with
    | zero =>
      intro u nf hk hnf
      obtain ⟨nf, rfl⟩ : ∃ x, nf = x + 1 := ⟨nf - 1, by omega⟩
      have e : u = U := by omega
      rw [e, F_M_rightBy_L14, lt_def]
      by_cases ht : two < 0
      · rw [if_pos ht] at hU
        rw [if_neg (by rw [lt0, iI_le (by omega) (by omega) (by omega) (by omega)]; omega)]
        dsimp only
        rw [if_pos (by rw [hU]; decide)]
      · rw [if_neg ht] at hU
        rw [if_pos (by rw [lt0, iI_le (by omega) (by omega) (by omega) (by omega)]; omega)]
        dsimp only
        rw [if_pos (by rw [hU]; decide)]
    | succ d ih =>
      intro u nf hk hnf
      obtain ⟨nf, rfl⟩ : ∃ x, nf = x + 1 := ⟨nf - 1, by omega⟩
      have hm1 := mornings_ok h hN hb h10 (one := one) (v := v) (two := two) (u := u) true o0 o2 t0 t2 (by omega) (by omega) (by omega) (by omega)
      have hm2 := mornings_ok h hN hb h10 (one := one) (v := v) (two := two) (u := u) false o0 o2 t0 t2 (by omega) (by omega) (by omega) (by omega)
      have l1 := cn_le (mrM b one v two u true) N
      have l2 := cn_le (mrM b one v two u false) N
      have l3 : cn (mrM b one v two u true) N ≤ cn (mrM b one v two u false) N := by
        have e3 := cn_split (mrM b one v two u false) (swgM b) N
        have e1 : cn (mrM b one v two u true) N = cn (fun i => mrM b one v two u false i && swgM b i) N := cn_cg (fun i hi => by rw [mrM_sg]; simp)
        omega
      have step : ∀ c : Int, u < c → c ≤ 4 → (fun (xq15 : Int32) (mq14 : Mem) => ((if xq15 ≤ iI u then (kk (iI (A + sm (hM b one two N v) u : Nat)) mq14) else (bnd (F_M_mornings (iI one) (iI v) (iI two) (iI u) true mq14) fun xq18 mq16 => bnd (F_M_mornings (iI one) (iI v) (iI two) (iI u) false mq16) fun xq21 mq19 => lt (iI (A + sm (hM b one two N v) u : Nat) + (mxI xq18 (xq21 - xq18)) : Int32) fun xq22 => lt (iI u + (1 : Int32) : Int32) fun xq23 => F_M_rightBy_L14 (iI one) (iI two) (iI v) kk nf xq22 xq23 mq19)) : Option (Int32 × Mem))) (iI c) m = kk (iI (A + sm (hM b one two N v) U : Nat)) m := by
        intro c h1 h2
        dsimp only
        rw [if_neg (by rw [iI_le (by omega) (by omega) (by omega) (by omega)]; omega), bnd_some hm1, bnd_some hm2, iI_sub, mxI_iI (by omega) (by omega) (by omega) (by omega), iI_add, lt_def, lt1, iI_add, lt_def]
        have e : ((A + sm (hM b one two N v) u : Nat) : Int) + max ((cn (mrM b one v two u true) N : Nat) : Int) (((cn (mrM b one v two u false) N : Nat) : Int) - ((cn (mrM b one v two u true) N : Nat) : Int)) = ((A + sm (hM b one two N v) (u + 1) : Nat) : Int) := by
          rw [sm_s]
          unfold hM
          omega
        rw [e]
        exact ih (u + 1) nf (by omega) (by omega)
      rw [F_M_rightBy_L14, lt_def]
      by_cases ht : two < 0
      · rw [if_pos ht] at hU
        rw [if_neg (by rw [lt0, iI_le (by omega) (by omega) (by omega) (by omega)]; omega)]
        exact step 1 (by omega) (by omega)
      · rw [if_neg ht] at hU
        rw [if_pos (by rw [lt0, iI_le (by omega) (by omega) (by omega) (by omega)]; omega)]
        exact step 4 (by omega) (by omega)
  have outer : ∀ (d v nf : Nat), v + d = 4 → d < nf → F_M_rightBy_L5 (iI one) (iI two) nf (iI (sm (fun v => sm (hM b one two N v) U) v : Nat)) (iI v) m = some (iI (sm (fun v => sm (hM b one two N v) U) 4 : Nat), m) := by
    intro d
    induction d with
    | zero =>
      intro v nf hk hnf
      obtain ⟨nf, rfl⟩ : ∃ x, nf = x + 1 := ⟨nf - 1, by omega⟩
      have e : v = 4 := by omega
      subst e
      rw [F_M_rightBy_L5, if_pos (by decide)]
    | succ d ih =>
      intro v nf hk hnf
      obtain ⟨nf, rfl⟩ : ∃ x, nf = x + 1 := ⟨nf - 1, by omega⟩
      have hA : sm (fun v => sm (hM b one two N v) U) v ≤ v * (U * N) := sm_le (fun x _ => sm_le (fun y _ => hM_le b one two N x y))
      have hA2 : v * (U * N) ≤ 4 * (4 * 100) := Nat.mul_le_mul (by omega) (Nat.mul_le_mul hU4 (by omega))
      rw [F_M_rightBy_L5, if_neg (by simp (disch := omega) only [↓lt_def, ↓reduceIte, ckB_true, bnd_e, Int.reduceAdd, Int.reduceSub, Int.reduceMul, Int.reduceNeg, Int.reduceToNat, Bool.false_eq_true, eq_self, not_false_eq_true, not_true_eq_false, Int.toNat_natCast, lt0, lt1, lt2, lt3, lt4, lt5, lt6, lt7, lt8, lt9, lt10, lt11, lt12, lt13, lt14, lt15, lt16, lt17, lt18, lt19, lt20, lt21, lt22, lt23, lt24, lt25, lt26, lt27, lt28, lt29, lt30, lt31, lt32, lt40, lt41, lt43, lt48, lt55, lt57, lt59, lt60, lt62, lt63, lt64, lt70, lt72, lt81, lt97, lt99, lt100, lt122, lt162, lt180, lt235, lt255, lt298, lt299, lt325, lt335, lt400, lt837, lt999, lt1000, lt1001, lt1002, lt1003, lt1004, lt1005, lt1006, lt1007, lt1008, lt1100, lt1101, lt1102, lt1103, lt1104, lt1105, lt1135, lt1136, lt1172, lt2000, lt3278, lt3575, lt10000, lt12345, lt21450, lt32767, lt193050, lt1103515245, ltm162, ltm99, ltm81, ltm8, ltm1, iI_add, iI_sub, iI_mul, iI_neg, iI_divn, iI_lt_t, iI_lt_f, iI_le_t, iI_le_f, iI_eq_t, iI_eq_f, iI_lt, iI_le, iI_eq, iI_idx, iI_inb, gI_sI, gL_sL, gZ_sZ, gI_sL, gI_sZ, gL_sI, gL_sZ, gZ_sI, gZ_sL]), lt_def, ← hF]
      refine (inner _ (sm (fun v => sm (hM b one two N v) U) v) v (by omega) (by omega) U 0 F (by omega) (by omega)).trans ?_
      rw [lt1, iI_add, lt_def]
      exact ih (v + 1) nf (by omega) (by omega)
  unfold F_M_rightBy
  rw [← hF]
  exact outer 4 0 F (by omega) (by omega)
theorem rightBy_two {m : Mem} {b : Nat → Int} {T N : Nat} (h : RT m b T) (hN : T = 4 * N) (hb : ∀ i, i < T → b i < 4) (h10 : gI m 78 10 = iI T) {one two : Int} (o0 : 0 ≤ one) (o2 : one ≤ 2) (t0 : 0 ≤ two) (t2 : two ≤ 2) (hne : one ≠ two) : F_M_rightBy (iI one) (iI two) m = some (iI (TRn b one two N), m) := by
  have e := rightBy_loop h hN hb h10 o0 o2 (by omega) t2 (U := 4) (by rw [if_neg (by omega)])
  have g : ∀ v u, v < 4 → u < 4 → hM b one two N v u = mxM b one two N (v + 4 * u) := by
    intro v u hv hu
    refine hM_key (fun i hi => mrM_two t0 hne hv hu ?_ ?_)
    · exact ⟨(h.2 _ (by omega)).2.1, hb _ (by omega)⟩
    · exact ⟨(h.2 _ (by omega)).2.1, hb _ (by omega)⟩
  rw [e]
  congr 3
  unfold TRn
  have e2 : ∀ v, v < 4 → sm (hM b one two N v) 4 = sm (fun u => mxM b one two N (v + 4 * u)) 4 := fun v hv => sm_cg (fun u hu => g v u hv hu)
  rw [sm_cg e2, sm_4, sm_4, sm_4, sm_4, sm_4, sm_16]
  generalize mxM b one two N = G
  simp only [Nat.mul_zero, Nat.mul_one, Nat.add_zero, Nat.zero_add, Nat.reduceMul, Nat.reduceAdd]
  omega
theorem rightBy_one {m : Mem} {b : Nat → Int} {T N : Nat} (h : RT m b T) (hN : T = 4 * N) (hb : ∀ i, i < T → b i < 4) (h10 : gI m 78 10 = iI T) {one : Int} (o0 : 0 ≤ one) (o2 : one ≤ 2) : F_M_rightBy (iI one) (iI (-1)) m = some (iI (TRn b one one N), m) := by
  have e := rightBy_loop h hN hb h10 o0 o2 (two := -1) (by omega) (by omega) (U := 1) (by rw [if_pos (by omega)])
  have g : ∀ v u, v < 4 → hM b one (-1) N v u = mxM b one one N v := fun v u hv => hM_key (fun i hi => mrM_one)
  have z : ∀ x : Nat, 4 ≤ x → mxM b one one N x = 0 := by
    intro x hx
    have q : ∀ i, i < N → keyM b one one x i = false := by
      intro i hi
      unfold keyM vlM
      rw [if_pos rfl, decide_eq_false_iff_not]
      have := hb (4 * i + one.toNat) (by omega)
      omega
    unfold mxM swM stM
    rw [cn_none (fun i hi => by rw [q i hi, Bool.false_and]), cn_none (fun i hi => by rw [q i hi, Bool.false_and])]
    rfl
  rw [e]
  congr 3
  unfold TRn
  have e2 : ∀ v, v < 4 → sm (hM b one (-1) N v) 1 = mxM b one one N v := fun v hv => by rw [sm_1, g v 0 hv]
  rw [sm_cg e2, sm_4, sm_16, z 4 (by omega), z 5 (by omega), z 6 (by omega), z 7 (by omega), z 8 (by omega), z 9 (by omega), z 10 (by omega), z 11 (by omega), z 12 (by omega), z 13 (by omega), z 14 (by omega), z 15 (by omega)]
  simp only [Nat.add_zero]
end SIGNSB
