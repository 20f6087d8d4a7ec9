/-! counting bits -/
def bcN (m : Nat) : Nat :=
  let a1 := m - ((m / 2) &&& 1431655765)
  let a2 := (a1 &&& 858993459) + ((a1 / 4) &&& 858993459)
  let a3 := (a2 + a2 / 16) &&& 252645135
  let a4 := a3 + a3 / 256
  let a5 := a4 + a4 / 65536
  a5 &&& 63
theorem i32_ushr (a : Nat) (ha : a < 2147483648) (i : Nat) (hi : i < 32) : ((Int32.ofInt (a : Int)).toUInt32 >>> ((Int32.ofInt (i : Int)).toUInt32 &&& Int32.toUInt32 31)).toInt32.toInt = ((a / 2 ^ i : Nat) : Int) := by
  apply i32t
  · show ((Int32.ofInt (a : Int)).toBitVec >>> (((Int32.ofInt (i : Int)).toUInt32 &&& Int32.toUInt32 31).toBitVec % 32)).toNat = _
    have e : ∀ i : Nat, i < 32 → (((Int32.ofInt (i : Int)).toUInt32 &&& Int32.toUInt32 31).toBitVec % 32) = BitVec.ofNat 32 i := by decide
    rw [e i hi]
    rw [BitVec.ushiftRight_eq', BitVec.toNat_ushiftRight, i32n a ha, BitVec.toNat_ofNat, Nat.mod_eq_of_lt (by omega), Nat.shiftRight_eq_div_pow]
  · have := Nat.div_le_self a (2 ^ i)
    omega
