section NUM
/-! ===== whole numbers as ints and longs ===== -/
def iI (z : Int) : Int32 := Int32.ofInt z
def iL (z : Int) : Int64 := Int64.ofInt z
theorem iI_of (x : Int32) : iI x.toInt = x := Int32.ofInt_toInt x
theorem iI_ex (x : Int32) : ∃ z : Int, x = iI z ∧ -2147483648 ≤ z ∧ z < 2147483648 := ⟨x.toInt, (iI_of x).symm, by have := x.le_toInt; omega, by have := x.toInt_lt; omega⟩
theorem iI_toInt {z : Int} (h1 : -2147483648 ≤ z) (h2 : z < 2147483648) : (iI z).toInt = z := Int32.toInt_ofInt_of_le h1 h2
theorem iI_add (a b : Int) : iI a + iI b = iI (a + b) := (Int32.ofInt_add a b).symm
theorem iI_sub (a b : Int) : iI a - iI b = iI (a - b) := (Int32.ofInt_sub a b).symm
theorem iI_mul (a b : Int) : iI a * iI b = iI (a * b) := (Int32.ofInt_mul a b).symm
theorem iI_neg (a : Int) : -iI a = iI (-a) := (Int32.ofInt_neg a).symm
theorem iI_lt {a b : Int} (a1 : -2147483648 ≤ a) (a2 : a < 2147483648) (b1 : -2147483648 ≤ b) (b2 : b < 2147483648) : (iI a < iI b) = (a < b) := by
  rw [Int32.lt_iff_toInt_lt, iI_toInt a1 a2, iI_toInt b1 b2]
theorem iI_le {a b : Int} (a1 : -2147483648 ≤ a) (a2 : a < 2147483648) (b1 : -2147483648 ≤ b) (b2 : b < 2147483648) : (iI a ≤ iI b) = (a ≤ b) := by
  rw [Int32.le_iff_toInt_le, iI_toInt a1 a2, iI_toInt b1 b2]
theorem iI_eq {a b : Int} (a1 : -2147483648 ≤ a) (a2 : a < 2147483648) (b1 : -2147483648 ≤ b) (b2 : b < 2147483648) : (iI a = iI b) = (a = b) := by
  rw [← Int32.toInt_inj, iI_toInt a1 a2, iI_toInt b1 b2]
theorem iI_idx {a : Int} (a1 : -2147483648 ≤ a) (a2 : a < 2147483648) : (iI a).toNatClampNeg = a.toNat := Int32.toNatClampNeg_ofInt_of_le a1 a2
theorem iI_inb {a : Int} {N : Nat} (a1 : 0 ≤ a) (a2 : a < 2147483648) (h : a < N) : inb (iI a) N = true := by
  unfold inb
  rw [decide_eq_true_eq, iI_idx (by omega) a2, show ((0 : Int32)) = iI 0 from rfl, iI_lt (by omega) a2 (by omega) (by omega)]
  omega
theorem inb_ex {x : Int32} {N : Nat} (h : inb x N = true) : ∃ k : Nat, k < N ∧ x = iI k ∧ x.toNatClampNeg = k := by
  have h1 := inb_in h
  have h2 : ¬ (x < 0 ∨ N ≤ x.toNatClampNeg) := h1
  obtain ⟨z, rfl, z1, z2⟩ := iI_ex x
  rw [iI_idx z1 z2, show ((0 : Int32)) = iI 0 from rfl, iI_lt z1 z2 (by omega) (by omega)] at h2
  exact ⟨z.toNat, by omega, by rw [Int.toNat_of_nonneg (by omega)], iI_idx z1 z2⟩
theorem iI_div {a b : Int} (a1 : -2147483648 < a) (a2 : a < 2147483648) (b1 : -2147483648 ≤ b) (b2 : b < 2147483648) : iI a / iI b = iI (a.tdiv b) := by
  apply Int32.toInt_inj.mp
  rw [Int32.toInt_div_of_ne_left, iI_toInt (by omega) a2, iI_toInt b1 b2]
  · have h1 : (a.tdiv b).natAbs ≤ a.natAbs := by rw [Int.natAbs_tdiv]; exact Nat.div_le_self _ _
    rw [iI_toInt (by omega) (by omega)]
  · intro h
    have h1 := congrArg Int32.toInt h
    rw [iI_toInt (by omega) a2] at h1
    have h2 : Int32.minValue.toInt = -2147483648 := by decide
    omega
theorem iL_of (x : Int64) : iL x.toInt = x := Int64.ofInt_toInt x
theorem iL_ex (x : Int64) : ∃ z : Int, x = iL z ∧ -9223372036854775808 ≤ z ∧ z < 9223372036854775808 := ⟨x.toInt, (iL_of x).symm, by have := x.le_toInt; omega, by have := x.toInt_lt; omega⟩
theorem iL_toInt {z : Int} (h1 : -9223372036854775808 ≤ z) (h2 : z < 9223372036854775808) : (iL z).toInt = z := Int64.toInt_ofInt_of_le h1 h2
theorem iL_add (a b : Int) : iL a + iL b = iL (a + b) := (Int64.ofInt_add a b).symm
theorem iL_sub (a b : Int) : iL a - iL b = iL (a - b) := (Int64.ofInt_sub a b).symm
theorem iL_mul (a b : Int) : iL a * iL b = iL (a * b) := (Int64.ofInt_mul a b).symm
theorem iL_neg (a : Int) : -iL a = iL (-a) := (Int64.ofInt_neg a).symm
theorem iL_lt {a b : Int} (a1 : -9223372036854775808 ≤ a) (a2 : a < 9223372036854775808) (b1 : -9223372036854775808 ≤ b) (b2 : b < 9223372036854775808) : (iL a < iL b) = (a < b) := by
  rw [Int64.lt_iff_toInt_lt, iL_toInt a1 a2, iL_toInt b1 b2]
theorem iL_le {a b : Int} (a1 : -9223372036854775808 ≤ a) (a2 : a < 9223372036854775808) (b1 : -9223372036854775808 ≤ b) (b2 : b < 9223372036854775808) : (iL a ≤ iL b) = (a ≤ b) := by
  rw [Int64.le_iff_toInt_le, iL_toInt a1 a2, iL_toInt b1 b2]
theorem iL_eq {a b : Int} (a1 : -9223372036854775808 ≤ a) (a2 : a < 9223372036854775808) (b1 : -9223372036854775808 ≤ b) (b2 : b < 9223372036854775808) : (iL a = iL b) = (a = b) := by
  rw [← Int64.toInt_inj, iL_toInt a1 a2, iL_toInt b1 b2]
theorem iI_L {a : Int} (a1 : -2147483648 ≤ a) (a2 : a < 2147483648) : (iI a).toInt64 = iL a := by
  apply Int64.toInt_inj.mp
  rw [Int32.toInt_toInt64, iI_toInt a1 a2, iL_toInt (by omega) (by omega)]
/-! reading and writing the memory -/
theorem gI_sI (m : Mem) (o j o' j' : Nat) (v : Int32) : gI (sI m o j v) o' j' = if o' = o ∧ j' = j then v else gI m o' j' := rfl
theorem gL_sL (m : Mem) (o j o' j' : Nat) (v : Int64) : gL (sL m o j v) o' j' = if o' = o ∧ j' = j then v else gL m o' j' := rfl
theorem gZ_sZ (m : Mem) (o j o' j' : Nat) (v : Bool) : gZ (sZ m o j v) o' j' = if o' = o ∧ j' = j then v else gZ m o' j' := rfl
theorem gI_sL (m : Mem) (o j o' j' : Nat) (v : Int64) : gI (sL m o j v) o' j' = gI m o' j' := rfl
theorem gI_sZ (m : Mem) (o j o' j' : Nat) (v : Bool) : gI (sZ m o j v) o' j' = gI m o' j' := rfl
theorem gL_sI (m : Mem) (o j o' j' : Nat) (v : Int32) : gL (sI m o j v) o' j' = gL m o' j' := rfl
theorem gL_sZ (m : Mem) (o j o' j' : Nat) (v : Bool) : gL (sZ m o j v) o' j' = gL m o' j' := rfl
theorem gZ_sI (m : Mem) (o j o' j' : Nat) (v : Int32) : gZ (sI m o j v) o' j' = gZ m o' j' := rfl
theorem gZ_sL (m : Mem) (o j o' j' : Nat) (v : Int64) : gZ (sL m o j v) o' j' = gZ m o' j' := rfl
theorem b2i_1 {b : Bool} : (b2i b = 1) = (b = true) := by cases b <;> simp [b2i]
theorem b2i_inj {a b : Bool} : (b2i a = b2i b) = (a = b) := by cases a <;> cases b <;> simp [b2i]
end NUM
