section LEVEL
theorem and1_ex (x : Int32) : x &&& 1 = 0 ∨ x &&& 1 = 1 := by
  have h2 : (x.toBitVec &&& 1#32).toNat ≤ 1 := by
    rw [BitVec.toNat_and]
    exact Nat.and_le_right
  rcases (show (x.toBitVec &&& 1#32).toNat = 0 ∨ (x.toBitVec &&& 1#32).toNat = 1 by omega) with h | h
  · left
    apply Int32.toBitVec_inj.mp
    rw [Int32.toBitVec_and]
    exact BitVec.eq_of_toNat_eq h
  · right
    apply Int32.toBitVec_inj.mp
    rw [Int32.toBitVec_and]
    exact BitVec.eq_of_toNat_eq h
theorem mnI_iI {a b : Int} (a1 : -2147483648 ≤ a) (a2 : a < 2147483648) (b1 : -2147483648 ≤ b) (b2 : b < 2147483648) : mnI (iI a) (iI b) = iI (min a b) := by
  unfold mnI
  by_cases h : b < a
  · rw [if_pos (by rw [iI_lt b1 b2 a1 a2]; exact h), show min a b = b by omega]
  · rw [if_neg (by rw [iI_lt b1 b2 a1 a2]; exact h), show min a b = a by omega]
theorem mxI_iI {a b : Int} (a1 : -2147483648 ≤ a) (a2 : a < 2147483648) (b1 : -2147483648 ≤ b) (b2 : b < 2147483648) : mxI (iI a) (iI b) = iI (max a b) := by
  unfold mxI
  by_cases h : a < b
  · rw [if_pos (by rw [iI_lt a1 a2 b1 b2]; exact h), show max a b = b by omega]
  · rw [if_neg (by rw [iI_lt a1 a2 b1 b2]; exact h), show max a b = a by omega]
/-- the law as it stands in class and reference -/
def LawRep (law : Option (List (Int × List Int))) (m : Mem) (lo co A : Nat) : Prop := match law with
  | none => gI m A 4 = iI 0 ∧ gI m lo 0 = iI (-1)
  | some law => gI m A 4 = iI 1 ∧ okLaw law ∧ gI m lo 0 = iI law.length ∧ gI m lo 1 = iI (codeL law).length ∧ (codeL law).length ≤ 400 ∧ RowIs m co 0 (codeL law) ∧ gI m A 298 = iI law.length ∧ LinesAt m A 298 0 0 law ∧ stepsL law ≤ 400
def levZ (w : Nat → Int32) (law : Option (List (Int × List Int))) (s i b : Int) : Int := match law with
  | none => 1
  | some law => min 3 (sumL (fcW w s i b) law)
theorem sumL_rng (fact : Int → Int32) : ∀ (law : List (Int × List Int)), (∀ x ∈ law, 0 ≤ x.1 ∧ x.1 ≤ 9 ∧ (x.2 = [] ∨ okT x.2 [])) → 0 ≤ sumL fact law ∧ sumL fact law ≤ 9 * law.length
  | [], _ => by simp [sumL]
  | x :: r, h => by
    obtain ⟨h1, h2, -⟩ := h x List.mem_cons_self
    obtain ⟨h3, h4⟩ := sumL_rng fact r (fun y hy => h y (List.mem_cons_of_mem _ hy))
    simp only [sumL, List.length_cons]
    split <;> omega
theorem levZ_rng {w : Nat → Int32} {law : Option (List (Int × List Int))} {s i b : Int} (h : ∀ l, law = some l → okLaw l) : 0 ≤ levZ w law s i b ∧ levZ w law s i b ≤ 3 := by
  match law, h with
  | none, _ => simp [levZ]
  | some l, h =>
    have h1 := sumL_rng (fcW w s i b) l (h l rfl).2
    simp only [levZ]
    omega
theorem fcW_bit (w : Nat → Int32) (s i b : Int) : ∀ q : Int, q = 1006 ∨ q = 1007 → fcW w s i b q = 0 ∨ fcW w s i b q = 1 := by
  intro q hq
  unfold fcW
  rcases hq with rfl | rfl
  · exact and1_ex _
  · exact and1_ex _
theorem Mlevel_eq {law : Option (List (Int × List Int))} {m : Mem} {lo co : Nat} (h : LawRep law m lo co 79) {s i b : Int} (s0 : 0 ≤ s) (s9 : s < 9) (b0 : 0 ≤ b) (b1 : b < 2) : ∃ m', F_M_levelOf (iI s) (iI i) (iI b) m = some (iI (levZ (gI m 79) law s i b), m') ∧ ∀ o j, o ≠ 85 → gI m' o j = gI m o j := by
  match law, h with
  | none, h =>
    refine ⟨m, ?_, fun _ _ _ => rfl⟩
    unfold F_M_levelOf
    rw [if_pos (by rw [h.1]; rfl)]
    rfl
  | some law, ⟨h1, h2, h3, h4, h5, h6, h7, h8, h9⟩ =>
    have hr := sumL_rng (fcW (gI m 79) s i b) law h2.2
    have h12 := h2.1
    obtain ⟨m1, e1, f1⟩ := mo_levels s i b s0 s9 b0 b1 (fun xq2 mq1 => some (mnI (3 : Int32) xq2, mq1)) _ (fcW_bit _ s i b) law.length h12 law 0 0 0 m (999999 - law.length) h2.2 h7 (by omega) h8 (by omega) rfl
    refine ⟨m1, ?_, f1⟩
    unfold F_M_levelOf
    rw [if_neg (by rw [h1]; decide)]
    rw [show 999999 - law.length + law.length + 1 = 1000000 by omega] at e1
    refine (show _ = _ from e1).trans ?_
    rw [lt3, mnI_iI (by omega) (by omega) (by omega) (by omega), Int.zero_add]
    rfl
end LEVEL
