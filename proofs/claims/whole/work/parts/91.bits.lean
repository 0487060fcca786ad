/-! Bits of long words, as numbers. -/
theorem JL_bv (a : Int) : (JL a).toBitVec = BitVec.ofInt 64 a := rfl
theorem JL_and40 {a : Int} : JL a &&& JL 1099511627775 = JL (a % 1099511627776) := by
  apply Int64.toBitVec_inj.mp
  rw [Int64.toBitVec_and, JL_bv, JL_bv, JL_bv]
  apply BitVec.eq_of_toNat_eq
  rw [BitVec.toNat_and, BitVec.toNat_ofInt, BitVec.toNat_ofInt, BitVec.toNat_ofInt]
  have e : ((1099511627775 : Int) % ((2 ^ 64 : Nat) : Int)).toNat = 2 ^ 40 - 1 := by decide
  rw [e, Nat.and_two_pow_sub_one_eq_mod]
  omega
theorem JL_and28 {a : Int} : JL a &&& JL 268435455 = JL (a % 268435456) := by
  apply Int64.toBitVec_inj.mp
  rw [Int64.toBitVec_and, JL_bv, JL_bv, JL_bv]
  apply BitVec.eq_of_toNat_eq
  rw [BitVec.toNat_and, BitVec.toNat_ofInt, BitVec.toNat_ofInt, BitVec.toNat_ofInt]
  have e : ((268435455 : Int) % ((2 ^ 64 : Nat) : Int)).toNat = 2 ^ 28 - 1 := by decide
  rw [e, Nat.and_two_pow_sub_one_eq_mod]
  omega
theorem JL_and19 {a : Int} : JL a &&& JL 524287 = JL (a % 524288) := by
  apply Int64.toBitVec_inj.mp
  rw [Int64.toBitVec_and, JL_bv, JL_bv, JL_bv]
  apply BitVec.eq_of_toNat_eq
  rw [BitVec.toNat_and, BitVec.toNat_ofInt, BitVec.toNat_ofInt, BitVec.toNat_ofInt]
  have e : ((524287 : Int) % ((2 ^ 64 : Nat) : Int)).toNat = 2 ^ 19 - 1 := by decide
  rw [e, Nat.and_two_pow_sub_one_eq_mod]
  omega
theorem JL_shr28 {a : Int} (h1 : -9223372036854775808 ≤ a) (h2 : a ≤ 9223372036854775807) : JL a >>> ((J 28).toInt64 &&& (63 : Int64)) = JL (a / 268435456) := by
  have e : ((J 28).toInt64 &&& (63 : Int64)) = (28 : Int64) := by decide
  rw [e]
  apply Int64.toInt_inj.mp
  rw [toInt_JL (a := a / 268435456) (by omega) (by omega)]
  have t : (JL a >>> (28 : Int64)).toInt = ((JL a).toBitVec.sshiftRight 28).toInt := rfl
  rw [t, BitVec.toInt_sshiftRight, Int.shiftRight_eq_div_pow]
  have : (JL a).toBitVec.toInt = a := toInt_JL h1 h2
  rw [this]
  rfl
theorem JL_shr19 {a : Int} (h1 : -9223372036854775808 ≤ a) (h2 : a ≤ 9223372036854775807) : JL a >>> ((J 19).toInt64 &&& (63 : Int64)) = JL (a / 524288) := by
  have e : ((J 19).toInt64 &&& (63 : Int64)) = (19 : Int64) := by decide
  rw [e]
  apply Int64.toInt_inj.mp
  rw [toInt_JL (a := a / 524288) (by omega) (by omega)]
  have t : (JL a >>> (19 : Int64)).toInt = ((JL a).toBitVec.sshiftRight 19).toInt := rfl
  rw [t, BitVec.toInt_sshiftRight, Int.shiftRight_eq_div_pow]
  have : (JL a).toBitVec.toInt = a := toInt_JL h1 h2
  rw [this]
  rfl
theorem JL_shl28 {a : Int} : JL a <<< ((J 28).toInt64 &&& (63 : Int64)) = JL (a * 268435456) := by
  have e : ((J 28).toInt64 &&& (63 : Int64)) = (28 : Int64) := by decide
  rw [e]
  apply Int64.toBitVec_inj.mp
  have t : (JL a <<< (28 : Int64)).toBitVec = (BitVec.ofInt 64 a) <<< 28 := rfl
  rw [t, JL_bv]
  apply BitVec.eq_of_toNat_eq
  rw [BitVec.toNat_shiftLeft, BitVec.toNat_ofInt, BitVec.toNat_ofInt, Nat.shiftLeft_eq]
  omega
theorem JL_shl40 {a : Int} : JL a <<< ((J 40).toInt64 &&& (63 : Int64)) = JL (a * 1099511627776) := by
  have e : ((J 40).toInt64 &&& (63 : Int64)) = (40 : Int64) := by decide
  rw [e]
  apply Int64.toBitVec_inj.mp
  have t : (JL a <<< (40 : Int64)).toBitVec = (BitVec.ofInt 64 a) <<< 40 := rfl
  rw [t, JL_bv]
  apply BitVec.eq_of_toNat_eq
  rw [BitVec.toNat_shiftLeft, BitVec.toNat_ofInt, BitVec.toNat_ofInt, Nat.shiftLeft_eq]
  omega
theorem JL_ush40 {a : Int} (h1 : 0 ≤ a) (h2 : a ≤ 9223372036854775807) : ((JL a).toUInt64 >>> ((J 40).toInt64.toUInt64 &&& Int64.toUInt64 63)).toInt64 = JL (a / 1099511627776) := by
  have e : ((J 40).toInt64.toUInt64 &&& Int64.toUInt64 63) = (40 : UInt64) := by decide
  rw [e]
  apply Int64.toBitVec_inj.mp
  have t : (((JL a).toUInt64 >>> (40 : UInt64)).toInt64).toBitVec = (BitVec.ofInt 64 a) >>> 40 := rfl
  rw [t, JL_bv]
  apply BitVec.eq_of_toNat_eq
  rw [BitVec.toNat_ushiftRight, BitVec.toNat_ofInt, BitVec.toNat_ofInt, Nat.shiftRight_eq_div_pow]
  omega
/-- the place of a key -/
theorem JL_hash (x : Int64) : ∃ i : Nat, i < 2048 ∧ ((x.toUInt64 >>> ((J 53).toInt64.toUInt64 &&& Int64.toUInt64 63)).toInt64).toInt32 = J i := by
  have e : ((J 53).toInt64.toUInt64 &&& Int64.toUInt64 63) = (53 : UInt64) := by decide
  rw [e]
  refine ⟨(x.toBitVec >>> 53).toNat, ?_, ?_⟩
  · rw [BitVec.toNat_ushiftRight, Nat.shiftRight_eq_div_pow]
    have := x.toBitVec.isLt
    omega
  · have hb : (x.toBitVec >>> 53).toNat < 2048 := by
      rw [BitVec.toNat_ushiftRight, Nat.shiftRight_eq_div_pow]
      have := x.toBitVec.isLt
      omega
    have t : (x.toUInt64 >>> (53 : UInt64)).toInt64 = JL ((x.toBitVec >>> 53).toNat : Int) := by
      apply Int64.toBitVec_inj.mp
      have t : (x.toUInt64 >>> (53 : UInt64)).toInt64.toBitVec = x.toBitVec >>> 53 := rfl
      rw [t, JL_bv]
      apply BitVec.eq_of_toNat_eq
      rw [BitVec.toNat_ofInt]
      generalize (x.toBitVec >>> 53).toNat = w at hb
      omega
    rw [t, JL_toI]
