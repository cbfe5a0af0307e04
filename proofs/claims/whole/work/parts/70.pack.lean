section PACK
theorem iL_bv (n : Nat) : (iL n).toBitVec = BitVec.ofNat 64 n := by
  show BitVec.ofInt 64 (n : Int) = _
  exact BitVec.ofInt_natCast ..
theorem bv_lowN (k : Nat) (hk : k < 64) (x : BitVec 64) : x &&& BitVec.ofNat 64 (2 ^ k - 1) = BitVec.ofNat 64 (x.toNat % 2 ^ k) := by
  apply BitVec.eq_of_toNat_eq
  have h1 : 2 ^ k - 1 < 2 ^ 64 := by
    have := Nat.pow_lt_pow_right (a := 2) (by omega) hk
    omega
  rw [BitVec.toNat_and, BitVec.toNat_ofNat, BitVec.toNat_ofNat, Nat.mod_eq_of_lt h1, Nat.and_two_pow_sub_one_eq_mod]
  rw [Nat.mod_eq_of_lt (Nat.lt_of_le_of_lt (Nat.mod_le _ _) x.isLt)]
theorem L_low20 (n : Nat) (h : n < 2 ^ 64) : iL n &&& (1048575 : Int64) = iL (n % 1048576 : Nat) := by
  apply Int64.toBitVec_inj.mp
  rw [Int64.toBitVec_and, iL_bv, iL_bv]
  show BitVec.ofNat 64 n &&& BitVec.ofNat 64 (2 ^ 20 - 1) = _
  rw [bv_lowN 20 (by omega), BitVec.toNat_ofNat, Nat.mod_eq_of_lt h]
theorem L_low40 (n : Nat) (h : n < 2 ^ 64) : iL n &&& (1099511627775 : Int64) = iL (n % 1099511627776 : Nat) := by
  apply Int64.toBitVec_inj.mp
  rw [Int64.toBitVec_and, iL_bv, iL_bv]
  show BitVec.ofNat 64 n &&& BitVec.ofNat 64 (2 ^ 40 - 1) = _
  rw [bv_lowN 40 (by omega), BitVec.toNat_ofNat, Nat.mod_eq_of_lt h]
theorem L_shr20 (x : Int64) : (x.toUInt64 >>> ((20 : Int32).toInt64.toUInt64 &&& Int64.toUInt64 63)).toInt64 = iL (x.toBitVec.toNat / 1048576 : Nat) := by
  apply Int64.toBitVec_inj.mp
  rw [iL_bv]
  apply BitVec.eq_of_toNat_eq
  show (x.toBitVec >>> (20 : Nat)).toNat = _
  rw [BitVec.toNat_ushiftRight, Nat.shiftRight_eq_div_pow, BitVec.toNat_ofNat, Nat.mod_eq_of_lt (Nat.lt_of_le_of_lt (Nat.div_le_self _ _) x.toBitVec.isLt)]
theorem L_shr40 (x : Int64) : (x.toUInt64 >>> ((40 : Int32).toInt64.toUInt64 &&& Int64.toUInt64 63)).toInt64 = iL (x.toBitVec.toNat / 1099511627776 : Nat) := by
  apply Int64.toBitVec_inj.mp
  rw [iL_bv]
  apply BitVec.eq_of_toNat_eq
  show (x.toBitVec >>> (40 : Nat)).toNat = _
  rw [BitVec.toNat_ushiftRight, Nat.shiftRight_eq_div_pow, BitVec.toNat_ofNat, Nat.mod_eq_of_lt (Nat.lt_of_le_of_lt (Nat.div_le_self _ _) x.toBitVec.isLt)]
theorem iL_N (n : Nat) (h : n < 2 ^ 64) : (iL n).toBitVec.toNat = n := by
  rw [iL_bv, BitVec.toNat_ofNat, Nat.mod_eq_of_lt h]
theorem L_mix (n : Nat) (h : n < 1099511627776) (mk : Int64) : (iL n ||| (mk <<< ((40 : Int32).toInt64 &&& 63))).toBitVec.toNat = n + 1099511627776 * (mk.toBitVec.toNat % 16777216) := by
  rw [Int64.toBitVec_or, iL_bv]
  show (BitVec.ofNat 64 n ||| mk.toBitVec <<< (40 : Nat)).toNat = _
  rw [BitVec.toNat_or, BitVec.toNat_ofNat, BitVec.toNat_shiftLeft, Nat.mod_eq_of_lt (by omega)]
  rw [show (mk.toBitVec.toNat <<< 40) % 2 ^ 64 = (mk.toBitVec.toNat % 16777216) <<< 40 by rw [Nat.shiftLeft_eq, Nat.shiftLeft_eq]; omega]
  rw [Nat.or_comm, ← Nat.shiftLeft_add_eq_or_of_lt h, Nat.shiftLeft_eq]
  omega
/-- ways of one side and the other in one number -/
def pk (fb : Bool) (v : Int × Int) : Int64 := if fb = true then iL (v.1 + 1048576 * v.2) else iL (v.2 + 1048576 * v.1)
def vOK (v : Int × Int) (al : Int) : Prop := 0 ≤ v.1 ∧ 0 ≤ v.2 ∧ v.1 + v.2 ≤ al
theorem pk_add (fb : Bool) (v w : Int × Int) : pk fb v + pk fb w = pk fb (v.1 + w.1, v.2 + w.2) := by
  unfold pk
  cases fb
  · rw [if_neg (by decide), if_neg (by decide), if_neg (by decide), iL_add]; congr 1; dsimp only; omega
  · rw [if_pos rfl, if_pos rfl, if_pos rfl, iL_add]; congr 1; dsimp only; omega
theorem pk_sw (fb : Bool) (v : Int × Int) : pk fb (v.2, v.1) = pk (!fb) v := by cases fb <;> rfl
theorem pk_nat (fb : Bool) (v : Int × Int) (al : Int) (h : vOK v al) (ha : al ≤ 262144) : ∃ n : Nat, pk fb v = iL n ∧ n < 1099511627776 ∧ (n % 1048576 : Nat) = (if fb = true then v.1 else v.2) ∧ (n / 1048576 % 1048576 : Nat) = (if fb = true then v.2 else v.1) := by
  obtain ⟨h1, h2, h3⟩ := h
  cases fb
  · refine ⟨(v.2 + 1048576 * v.1).toNat, ?_, ?_, ?_, ?_⟩
    · unfold pk; rw [if_neg (by decide), Int.toNat_of_nonneg (by omega)]
    · omega
    · rw [if_neg (by decide)]; omega
    · rw [if_neg (by decide)]; omega
  · refine ⟨(v.1 + 1048576 * v.2).toNat, ?_, ?_, ?_, ?_⟩
    · unfold pk; rw [if_pos rfl, Int.toNat_of_nonneg (by omega)]
    · omega
    · rw [if_pos rfl]; omega
    · rw [if_pos rfl]; omega
theorem waysOf_eq (fb b : Bool) (v : Int × Int) (al : Int) (h : vOK v al) (ha : al ≤ 262144) (m : Mem) : F_Od_waysOf (pk fb v) b m = some (iL (if b = fb then v.1 else v.2), m) := by
  obtain ⟨n, e, h1, h2, h3⟩ := pk_nat fb v al h ha
  unfold F_Od_waysOf
  cases b
  · rw [if_neg (by decide), lt_def, e, L_shr20, iL_N n (by omega), L_low20 _ (by omega), h3]
    cases fb <;> rfl
  · rw [if_pos rfl, e, L_low20 _ (by omega), h2]
    cases fb <;> rfl
end PACK
