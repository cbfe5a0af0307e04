section TLEVEL
theorem bit_eq (x : Int32) (s : Int) (s0 : 0 ≤ s) (s9 : s < 9) : (x.toUInt32 >>> ((iI s).toUInt32 &&& Int32.toUInt32 31)).toInt32 &&& 1 = (x >>> (iI s &&& 31)) &&& 1 := by
  apply Int32.toBitVec_inj.mp
  rcases (show s = 0 ∨ s = 1 ∨ s = 2 ∨ s = 3 ∨ s = 4 ∨ s = 5 ∨ s = 6 ∨ s = 7 ∨ s = 8 by omega) with rfl | rfl | rfl | rfl | rfl | rfl | rfl | rfl | rfl
  all_goals (simp only [← lt0, ← lt1, ← lt2, ← lt3, ← lt4, ← lt5, ← lt6, ← lt7, ← lt8]; simp)
  all_goals (apply BitVec.eq_of_getLsbD_eq; intro i hi; rcases Nat.eq_zero_or_pos i with rfl | h)
  all_goals first | (have h0 : i ≠ 0 := Nat.ne_of_gt h; simp [h0]; done) | (simp [BitVec.getLsbD_sshiftRight, BitVec.getLsbD_ushiftRight, BitVec.getElem_sshiftRight]; done)
theorem bitOf_eq {x : Int32} {s : Int} {m : Mem} (s0 : 0 ≤ s) (s9 : s < 9) : F_T_bitOf x (iI s) m = some ((x >>> (iI s &&& 31)) &&& 1, m) := by
  unfold F_T_bitOf
  refine lt_go (fun y hy => ?_)
  rw [hy, bit_eq x s s0 s9]
/-- sides as told: the class's two rows against the reference's -/
def SidesRep (m : Mem) (bt bw A : Nat) : Prop := gI m bt 0 = gI m A 19 ∧ gI m bt 1 = gI m A 21 ∧ gI m bw 0 = gI m A 20 ∧ gI m bw 1 = gI m A 22
/-- levels once found are right -/
def LevOK (law : Option (List (Int × List Int))) (m : Mem) : Prop := ∀ k : Nat, k < 72 → gI m 14 k = iI (-1) ∨ gI m 14 k = iI (levZ (gI m 79) law ((k : Int) / 8) ((k : Int) / 2 % 4) ((k : Int) % 2))
theorem stand_eq {s i b : Int} {m : Mem} (s0 : 0 ≤ s) (s9 : s < 9) : F_Lw_stand (iI s) (iI i) (iI b) m = some ((), sI (sI (sI (sI m 10 0 (iI s)) 10 1 (iI (s / 3))) 10 2 (iI i)) 10 3 (iI b)) := by
  unfold F_Lw_stand
  simp only [lt_def, lt3]
  rw [iI_divn (by omega) (by omega) (by omega) (by omega)]
theorem batOf_eq {b : Int} {m : Mem} (b0 : 0 ≤ b) (b1 : b < 2) : F_Gr_batOf (iI b) m = some (gI m 4 b.toNat, m) := by
  unfold F_Gr_batOf
  rcases (show b = 0 ∨ b = 1 by omega) with rfl | rfl
  · rfl
  · rfl
theorem bowlOf_eq {b : Int} {m : Mem} (b0 : 0 ≤ b) (b1 : b < 2) : F_Gr_bowlOf (iI b) m = some (gI m 5 b.toNat, m) := by
  unfold F_Gr_bowlOf
  rcases (show b = 0 ∨ b = 1 by omega) with rfl | rfl
  · rfl
  · rfl
end TLEVEL
