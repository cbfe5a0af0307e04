section MOD1
def mu (j : Int) : Int := if j = 3 then 4 else if j = 4 then 3 else j
theorem mu0 : mu 0 = 0 := rfl
theorem mu1 : mu 1 = 1 := rfl
theorem mu2 : mu 2 = 2 := rfl
theorem mu3 : mu 3 = 4 := rfl
theorem mu4 : mu 4 = 3 := rfl
theorem mu5 : mu 5 = 5 := rfl
theorem mu_rng {j : Int} (h : 0 ≤ j) (h1 : j ≤ 5) : 0 ≤ mu j ∧ mu j ≤ 5 := by unfold mu; split; omega; split <;> omega
theorem mu_inn {j : Int} (h : 0 ≤ j) (h1 : j ≤ 5) : (inn (mu j) = 3) = (3 < j) := by
  rcases (show j = 0 ∨ j = 1 ∨ j = 2 ∨ j = 3 ∨ j = 4 ∨ j = 5 by omega) with rfl | rfl | rfl | rfl | rfl | rfl <;> decide
theorem Minn_eq {j : Int} {m : Mem} (h : 0 ≤ j) (h1 : j ≤ 5) : F_M_inningsOf (iI j) m = some (iI (inn (mu j)), m) := by
  unfold F_M_inningsOf
  rcases (show j = 0 ∨ j = 1 ∨ j = 2 ∨ j = 3 ∨ j = 4 ∨ j = 5 by omega) with rfl | rfl | rfl | rfl | rfl | rfl <;> rfl
theorem Mbat_eq {j f : Int} {m : Mem} (h : 0 ≤ j) (h1 : j ≤ 5) : F_M_batting (iI f) (iI (inn (mu j))) (decide (j = 3 ∨ j = 5)) m = some (iI (btK f (mu j)), m) := by
  unfold F_M_batting btK
  have hq1 : some ((1 : Int32) - iI f, m) = some (iI (1 - f), m) := by rw [lt1, iI_sub]
  rcases (show j = 0 ∨ j = 1 ∨ j = 2 ∨ j = 3 ∨ j = 4 ∨ j = 5 by omega) with rfl | rfl | rfl | rfl | rfl | rfl
  · rfl
  · exact hq1
  · rfl
  · exact hq1
  · exact hq1
  · rfl
theorem Mbehind_eq {j : Int} {m : Mem} (h : 0 ≤ j) (h1 : j ≤ 5) : F_M_isBehind (iI j) m = some (decide (j = 3 ∨ j = 5), m) := by
  unfold F_M_isBehind
  rcases (show j = 0 ∨ j = 1 ∨ j = 2 ∨ j = 3 ∨ j = 4 ∨ j = 5 by omega) with rfl | rfl | rfl | rfl | rfl | rfl <;> rfl
theorem Mall_eq {n q : Int} {m : Mem} (h : gI m 79 0 = iI n) (n9 : n ≤ 9) (q0 : 0 ≤ q) (qn : q ≤ n) : F_M_all (iI q) m = some (iI (four (n - q).toNat), m) := by
  unfold F_M_all F_M_size
  rw [h, bnd_e, lt_def, iI_sub]
  generalize hr : n - q = r
  rcases (show r = 0 ∨ r = 1 ∨ r = 2 ∨ r = 3 ∨ r = 4 ∨ r = 5 ∨ r = 6 ∨ r = 7 ∨ r = 8 ∨ r = 9 by omega) with h | h | h | h | h | h | h | h | h | h <;> subst h <;> rfl
def cx (q j o l : Int) : Nat := ((q % 2) * 21450 + j * 3575 + o * 325 + l + 162).toNat
theorem cx_lt {q j o l : Int} (h3 : 0 ≤ j) (h4 : j ≤ 5) (h5 : 0 ≤ o) (h6 : o ≤ 10) (h7 : -162 ≤ l) (h8 : l ≤ 162) : cx q j o l < 42900 := by unfold cx; omega
theorem cx_inj {q j o l q' j' o' l' : Int} (h3 : 0 ≤ j) (h4 : j ≤ 5) (h5 : 0 ≤ o) (h6 : o ≤ 10) (h7 : -162 ≤ l) (h8 : l ≤ 162) (q3 : 0 ≤ j') (q4 : j' ≤ 5) (q5 : 0 ≤ o') (q6 : o' ≤ 10) (q7 : -162 ≤ l') (q8 : l' ≤ 162) (h : cx q j o l = cx q' j' o' l') : q % 2 = q' % 2 ∧ j = j' ∧ o = o' ∧ l = l' := by
  unfold cx at h
  omega
theorem cell_eq {q j o l : Int} {m : Mem} (q0 : 0 ≤ q) (q9 : q ≤ 9) (h3 : 0 ≤ j) (h4 : j ≤ 5) (h5 : 0 ≤ o) (h6 : o ≤ 10) (h7 : -162 ≤ l) (h8 : l ≤ 162) : F_M_cell (iI q) (iI j) (iI o) (iI l) m = some (iI (cx q j o l : Nat), m) := by
  unfold F_M_cell
  have h1 : iI q &&& (1 : Int32) = iI (q % 2) := by
    rcases (show q = 0 ∨ q = 1 ∨ q = 2 ∨ q = 3 ∨ q = 4 ∨ q = 5 ∨ q = 6 ∨ q = 7 ∨ q = 8 ∨ q = 9 by omega) with h | h | h | h | h | h | h | h | h | h <;> subst h <;> rfl
  have hz : ((q % 2) * 21450 + j * 3575 + o * 325 + l + 162 : Int) = (cx q j o l : Nat) := by unfold cx; omega
  rw [h1]
  simp (disch := omega) only [↓lt_def, ↓reduceIte, ckB_true, bnd_e, Int.reduceAdd, Int.reduceSub, Int.reduceMul, Int.reduceNeg, Int.reduceToNat, Bool.false_eq_true, eq_self, not_false_eq_true, not_true_eq_false, Int.toNat_natCast, lt0, lt1, lt2, lt3, lt4, lt5, lt6, lt7, lt8, lt9, lt10, lt11, lt12, lt13, lt14, lt15, lt16, lt17, lt18, lt19, lt20, lt21, lt22, lt23, lt24, lt25, lt26, lt27, lt28, lt29, lt30, lt31, lt32, lt40, lt41, lt43, lt48, lt55, lt57, lt59, lt60, lt62, lt63, lt64, lt70, lt72, lt81, lt97, lt99, lt100, lt122, lt162, lt180, lt235, lt255, lt298, lt299, lt325, lt335, lt400, lt837, lt999, lt1000, lt1001, lt1002, lt1003, lt1004, lt1005, lt1006, lt1007, lt1008, lt1100, lt1101, lt1102, lt1103, lt1104, lt1105, lt1135, lt1136, lt1172, lt2000, lt3278, lt3575, lt10000, lt12345, lt21450, lt32767, lt193050, lt1103515245, ltm162, ltm99, ltm81, ltm8, ltm1, iI_add, iI_sub, iI_mul, iI_neg, iI_divn, iI_lt_t, iI_lt_f, iI_le_t, iI_le_f, iI_eq_t, iI_eq_f, iI_lt, iI_le, iI_eq, iI_idx, iI_inb, gI_sI, gL_sL, gZ_sZ, gI_sL, gI_sZ, gL_sI, gL_sZ, gZ_sI, gZ_sL]
  rw [hz]
theorem Mrain_eq {p : Int} {m : Mem} : F_M_isRain (iI p) m = some (rainB (gI m 79) p, m) := by
  unfold F_M_isRain F_M_has rainB
  by_cases h : (gI m 79 8 >>> (iI p &&& 31)) &&& (1 : Int32) = 1
  · rw [if_pos h, bnd_e, decide_eq_true h]
  · rw [if_neg h, bnd_e, decide_eq_false h]
/-- what the reference's count of the odds stands on -/
def MB (law : Option (List (Int × List Int))) (P : OP) (mg tx bc f dw : Int) (bl : Bool) (wd : Int) (m0 : Mem) : Prop := (GR m0 3 4 5 6 7 8 9 12 13 79 law P.n mg wd tx bc) ∧ (P = opOf (gI m0 79) law P.n mg f dw bl) ∧ (0 ≤ f) ∧ (f ≤ 1) ∧ (0 ≤ dw) ∧ (dw ≤ 100) ∧ (gI m0 78 20 = iI f) ∧ (gI m0 78 21 = iI dw) ∧ (gZ m0 78 22 = bl)
theorem MB.gr {law : Option (List (Int × List Int))} {P : OP} {mg tx bc f dw : Int} {bl : Bool} {wd : Int} {m0 : Mem} (h : MB law P mg tx bc f dw bl wd m0) : GR m0 3 4 5 6 7 8 9 12 13 79 law P.n mg wd tx bc := h.1
theorem MB.hP {law : Option (List (Int × List Int))} {P : OP} {mg tx bc f dw : Int} {bl : Bool} {wd : Int} {m0 : Mem} (h : MB law P mg tx bc f dw bl wd m0) : P = opOf (gI m0 79) law P.n mg f dw bl := h.2.1
theorem MB.f0 {law : Option (List (Int × List Int))} {P : OP} {mg tx bc f dw : Int} {bl : Bool} {wd : Int} {m0 : Mem} (h : MB law P mg tx bc f dw bl wd m0) : 0 ≤ f := h.2.2.1
theorem MB.f1 {law : Option (List (Int × List Int))} {P : OP} {mg tx bc f dw : Int} {bl : Bool} {wd : Int} {m0 : Mem} (h : MB law P mg tx bc f dw bl wd m0) : f ≤ 1 := h.2.2.2.1
theorem MB.d0 {law : Option (List (Int × List Int))} {P : OP} {mg tx bc f dw : Int} {bl : Bool} {wd : Int} {m0 : Mem} (h : MB law P mg tx bc f dw bl wd m0) : 0 ≤ dw := h.2.2.2.2.1
theorem MB.d1 {law : Option (List (Int × List Int))} {P : OP} {mg tx bc f dw : Int} {bl : Bool} {wd : Int} {m0 : Mem} (h : MB law P mg tx bc f dw bl wd m0) : dw ≤ 100 := h.2.2.2.2.2.1
theorem MB.hf {law : Option (List (Int × List Int))} {P : OP} {mg tx bc f dw : Int} {bl : Bool} {wd : Int} {m0 : Mem} (h : MB law P mg tx bc f dw bl wd m0) : gI m0 78 20 = iI f := h.2.2.2.2.2.2.1
theorem MB.hd {law : Option (List (Int × List Int))} {P : OP} {mg tx bc f dw : Int} {bl : Bool} {wd : Int} {m0 : Mem} (h : MB law P mg tx bc f dw bl wd m0) : gI m0 78 21 = iI dw := h.2.2.2.2.2.2.2.1
theorem MB.hb {law : Option (List (Int × List Int))} {P : OP} {mg tx bc f dw : Int} {bl : Bool} {wd : Int} {m0 : Mem} (h : MB law P mg tx bc f dw bl wd m0) : gZ m0 78 22 = bl := h.2.2.2.2.2.2.2.2
theorem MB.mk {law : Option (List (Int × List Int))} {P : OP} {mg tx bc f dw : Int} {bl : Bool} {wd : Int} {m0 : Mem} (h : (GR m0 3 4 5 6 7 8 9 12 13 79 law P.n mg wd tx bc) ∧ (P = opOf (gI m0 79) law P.n mg f dw bl) ∧ (0 ≤ f) ∧ (f ≤ 1) ∧ (0 ≤ dw) ∧ (dw ≤ 100) ∧ (gI m0 78 20 = iI f) ∧ (gI m0 78 21 = iI dw) ∧ (gZ m0 78 22 = bl)) : MB law P mg tx bc f dw bl wd m0 := h
/-- the levels of a session stand -/
def LV (law : Option (List (Int × List Int))) (f p : Int) (m : Mem) : Prop := ∀ j : Int, 0 ≤ j → j ≤ 5 → gI m 88 j.toNat = iI (levZ (gI m 79) law p (inn (mu j)) (btK f (mu j)))
def GW (m : Mem) (v : Int × Int) : Prop := gI m 78 23 = iI v.1 ∧ gI m 78 24 = iI v.2
def LY (P : OP) (m : Mem) (q : Int) (r : Nat) (L : Int) : Prop := ∀ j o l : Int, 0 ≤ j → j ≤ 5 → 0 ≤ o → o ≤ 10 → -L ≤ l → l ≤ L → gI m 86 (cx q j o l) = iI (V P r (mu j) o l).1 ∧ gI m 87 (cx q j o l) = iI (V P r (mu j) o l).2
/-- what a count leaves alone -/
def SameM (m0 m : Mem) : Prop := Fr [85, 86, 87, 88] [(78, 23), (78, 24)] m0 m
theorem SameM.I {m0 m : Mem} (h : SameM m0 m) {o j : Nat} (a : o ∉ [85, 86, 87, 88]) (b : (o, j) ∉ [(78, 23), (78, 24)]) : gI m o j = gI m0 o j := (h o j a b).1
theorem MruOf_eq {law : Option (List (Int × List Int))} {P : OP} {mg tx bc f dw : Int} {bl : Bool} {wd : Int} {m0 m : Mem} (hB : MB law P mg tx bc f dw bl wd m0) (h : SameM m0 m) {p j s : Int} (hd : Bool) (hl : LV law f p m) (j0 : 0 ≤ j) (j5 : j ≤ 5) (s0 : 0 ≤ s) (s3 : s < 4) : F_M_runsOf (iI p) (iI j) (iI s) hd m = some (iI (ru P p (mu j) s hd), m) ∧ 0 ≤ ru P p (mu j) s hd ∧ ru P p (mu j) s hd ≤ 9 := by
  have hw : gI m 79 = gI m0 79 := by funext i; exact h.I (by decide) (by simp)
  have hlv := levZ_rng (w := gI m0 79) (s := p) (i := inn (mu j)) (b := btK f (mu j)) hB.gr.la.okl
  unfold F_M_runsOf ru
  cases hd
  · rw [if_neg (by decide), if_neg (by decide), bnd_some Mrain_eq, hw]
    have hR : P.R p (mu j) s = if rainB (gI m0 79) p = true then 0 else (gI m0 79 (23 + 2 * (4 * levZ (gI m0 79) law p (inn (mu j)) (btK f (mu j)) + s)).toNat).toInt := by rw [hB.hP]; rfl
    rw [hR]
    by_cases hr : rainB (gI m0 79) p = true
    · rw [if_pos hr, if_pos hr]
      exact ⟨rfl, by omega, by omega⟩
    · rw [if_neg hr, if_neg hr, ckB_t (iI_inb j0 (by omega) (by omega)), lt_def, iI_idx (by omega) (by omega), hl j j0 j5, hw, lt0, bnd_some (ofSlot_eq hlv.1 (by omega) s0 s3 (by omega) (by omega)), hw]
      obtain ⟨z, e, z0, z9⟩ := hB.gr.slr (2 * (4 * levZ (gI m0 79) law p (inn (mu j)) (btK f (mu j)) + s)).toNat (by omega)
      rw [show (23 + 2 * (4 * levZ (gI m0 79) law p (inn (mu j)) (btK f (mu j)) + s) + 0).toNat = 23 + (2 * (4 * levZ (gI m0 79) law p (inn (mu j)) (btK f (mu j)) + s)).toNat by omega, show (23 + 2 * (4 * levZ (gI m0 79) law p (inn (mu j)) (btK f (mu j)) + s)).toNat = 23 + (2 * (4 * levZ (gI m0 79) law p (inn (mu j)) (btK f (mu j)) + s)).toNat by omega, e, iI_toInt (by omega) (by omega)]
      exact ⟨rfl, z0, z9⟩
  · rw [if_pos rfl, if_pos rfl]
    exact ⟨rfl, by omega, by omega⟩
theorem MouOf_eq {law : Option (List (Int × List Int))} {P : OP} {mg tx bc f dw : Int} {bl : Bool} {wd : Int} {m0 m : Mem} (hB : MB law P mg tx bc f dw bl wd m0) (h : SameM m0 m) {p j s : Int} (hd : Bool) (hl : LV law f p m) (j0 : 0 ≤ j) (j5 : j ≤ 5) (s0 : 0 ≤ s) (s3 : s < 4) : F_M_outsOf (iI p) (iI j) (iI s) hd m = some (iI (ou P p (mu j) s hd), m) ∧ 0 ≤ ou P p (mu j) s hd ∧ ou P p (mu j) s hd ≤ 9 := by
  have hw : gI m 79 = gI m0 79 := by funext i; exact h.I (by decide) (by simp)
  have hlv := levZ_rng (w := gI m0 79) (s := p) (i := inn (mu j)) (b := btK f (mu j)) hB.gr.la.okl
  have hU : P.U p (mu j) s = if rainB (gI m0 79) p = true then 0 else (gI m0 79 (24 + 2 * (4 * levZ (gI m0 79) law p (inn (mu j)) (btK f (mu j)) + s)).toNat).toInt := by rw [hB.hP]; rfl
  unfold F_M_outsOf ou
  rw [bnd_some Mrain_eq, hw, hU]
  by_cases hr : rainB (gI m0 79) p = true
  · rw [if_pos hr, if_pos hr]
    cases hd <;> exact ⟨rfl, by decide, by decide⟩
  · rw [if_neg hr, if_neg hr, ckB_t (iI_inb j0 (by omega) (by omega)), lt_def, iI_idx (by omega) (by omega), hl j j0 j5, hw, lt1, bnd_some (ofSlot_eq hlv.1 (by omega) s0 s3 (by omega) (by omega)), hw]
    obtain ⟨z, e, z0, z9⟩ := hB.gr.slr (1 + 2 * (4 * levZ (gI m0 79) law p (inn (mu j)) (btK f (mu j)) + s)).toNat (by omega)
    rw [show (23 + 2 * (4 * levZ (gI m0 79) law p (inn (mu j)) (btK f (mu j)) + s) + 1).toNat = 23 + (1 + 2 * (4 * levZ (gI m0 79) law p (inn (mu j)) (btK f (mu j)) + s)).toNat by omega, show (24 + 2 * (4 * levZ (gI m0 79) law p (inn (mu j)) (btK f (mu j)) + s)).toNat = 23 + (1 + 2 * (4 * levZ (gI m0 79) law p (inn (mu j)) (btK f (mu j)) + s)).toNat by omega, e, iI_toInt (by omega) (by omega)]
    rw [lt_def]
    cases hd
    · rw [if_neg (by decide), if_neg (by decide)]
      dsimp only
      rw [b2i_f, iI_sub, lt0, mxI_iI (by omega) (by omega) (by omega) (by omega), show max 0 (z - 0) = z by omega]
      exact ⟨rfl, z0, z9⟩
    · rw [if_pos rfl, if_pos rfl]
      dsimp only
      rw [b2i_t, iI_sub, lt0, mxI_iI (by omega) (by omega) (by omega) (by omega)]
      exact ⟨rfl, by omega, by omega⟩
end MOD1
