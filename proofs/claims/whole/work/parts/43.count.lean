/-! counting bits -/
def bcN (m : Nat) : Nat :=
  let a1 := m - ((m / 2) &&& 1431655765)
  let a2 := (a1 &&& 858993459) + ((a1 / 4) &&& 858993459)
  let a3 := (a2 + a2 / 16) &&& 252645135
  let a4 := a3 + a3 / 256
  let a5 := a4 + a4 / 65536
  a5 &&& 63
theorem i32_ushr (a : Nat) (ha : a < 2147483648) (i : Nat) (hi : i < 32) : ((Int32.ofInt (a : Int)).toUInt32 >>> ((Int32.ofInt (i : Int)).toUInt32 &&& Int32.toUInt32 31)).toInt32.toInt = ((a / 2 ^ i : Nat) : Int) := by
  apply i32t
  · show ((Int32.ofInt (a : Int)).toBitVec >>> (((Int32.ofInt (i : Int)).toUInt32 &&& Int32.toUInt32 31).toBitVec % 32)).toNat = _
    have e : ∀ i : Nat, i < 32 → (((Int32.ofInt (i : Int)).toUInt32 &&& Int32.toUInt32 31).toBitVec % 32) = BitVec.ofNat 32 i := by decide
    rw [e i hi]
    rw [BitVec.ushiftRight_eq', BitVec.toNat_ushiftRight, i32n a ha, BitVec.toNat_ofNat, Nat.mod_eq_of_lt (by omega), Nat.shiftRight_eq_div_pow]
  · have := Nat.div_le_self a (2 ^ i)
    omega
theorem and_dig (n x y c d : Nat) (hy : y < 2 ^ n) (hd : d < 2 ^ n) : (2 ^ n * x + y) &&& (2 ^ n * c + d) = 2 ^ n * (x &&& c) + (y &&& d) := by
  apply Nat.eq_of_testBit_eq
  intro j
  have h3 : y &&& d < 2 ^ n := Nat.lt_of_le_of_lt Nat.and_le_left hy
  rw [Nat.testBit_and, Nat.testBit_two_pow_mul_add _ hy, Nat.testBit_two_pow_mul_add _ hd, Nat.testBit_two_pow_mul_add _ h3]
  split <;> rw [Nat.testBit_and]
theorem and_d16 (x y c d : Nat) (hy : y < 16) (hd : d < 16) : (16 * x + y) &&& (16 * c + d) = 16 * (x &&& c) + (y &&& d) := and_dig 4 x y c d hy hd
/-- four digits under a mask -/
theorem and_4 (a b c d p q r s t : Nat) (ha : a < 16) (hb : b < 16) (hc : c < 16) (hd : d < 16) (hp : p < 16) (hq : q < 16) (hr : r < 16) (hs : s < 16) : (4096 * a + 256 * b + 16 * c + d) &&& (65536 * t + 4096 * p + 256 * q + 16 * r + s) = 4096 * (a &&& p) + 256 * (b &&& q) + 16 * (c &&& r) + (d &&& s) := by
  rw [show 4096 * a + 256 * b + 16 * c + d = 16 * (16 * (16 * (16 * 0 + a) + b) + c) + d by omega, show 65536 * t + 4096 * p + 256 * q + 16 * r + s = 16 * (16 * (16 * (16 * t + p) + q) + r) + s by omega]
  rw [and_d16 _ _ _ _ hd hs, and_d16 _ _ _ _ hc hr, and_d16 _ _ _ _ hb hq, and_d16 _ _ _ _ ha hp, Nat.zero_and]
  omega
def f1 (d : Nat) : Nat := d - ((d / 2) &&& 5)
def f2 (d : Nat) : Nat := (f1 d &&& 3) + ((f1 d / 4) &&& 3)
theorem m5 : ∀ d, d < 16 → ∀ e, e < 2 → (d / 2 + 8 * e) &&& 5 = (d / 2) &&& 5 := by decide
theorem m5le : ∀ d, d < 16 → (d / 2) &&& 5 ≤ d ∧ f1 d < 16 ∧ f2 d ≤ 4 ∧ f2 d = (d % 2) + (d / 2 % 2) + (d / 4 % 2) + (d / 8) := by decide
theorem m3 : ∀ d, d < 16 → ∀ e, e < 4 → (d / 4 + 4 * e) &&& 3 = (d / 4) &&& 3 := by decide
theorem bc_dig (a b c d : Nat) (ha : a < 16) (hb : b < 16) (hc : c < 16) (hd : d < 16) : bcN (4096 * a + 256 * b + 16 * c + d) = f2 a + f2 b + f2 c + f2 d := by
  obtain ⟨la, sa, ta, -⟩ := m5le a ha
  obtain ⟨lb, sb, tb, -⟩ := m5le b hb
  obtain ⟨lc, sc, tc, -⟩ := m5le c hc
  obtain ⟨ld, sd, td, -⟩ := m5le d hd
  have e1 : ((4096 * a + 256 * b + 16 * c + d) / 2) &&& 1431655765 = 4096 * ((a / 2) &&& 5) + 256 * ((b / 2) &&& 5) + 16 * ((c / 2) &&& 5) + ((d / 2) &&& 5) := by
    rw [show (4096 * a + 256 * b + 16 * c + d) / 2 = 4096 * (a / 2 + 8 * 0) + 256 * (b / 2 + 8 * (a % 2)) + 16 * (c / 2 + 8 * (b % 2)) + (d / 2 + 8 * (c % 2)) by omega, show 1431655765 = 65536 * 21845 + 4096 * 5 + 256 * 5 + 16 * 5 + 5 by omega, and_4 _ _ _ _ _ _ _ _ _ (by omega) (by omega) (by omega) (by omega) (by omega) (by omega) (by omega) (by omega), m5 a ha 0 (by omega), m5 b hb _ (by omega), m5 c hc _ (by omega), m5 d hd _ (by omega)]
  have e2 : (4096 * a + 256 * b + 16 * c + d) - (((4096 * a + 256 * b + 16 * c + d) / 2) &&& 1431655765) = 4096 * f1 a + 256 * f1 b + 16 * f1 c + f1 d := by
    rw [e1]
    unfold f1
    omega
  have e3 : (4096 * f1 a + 256 * f1 b + 16 * f1 c + f1 d) &&& 858993459 = 4096 * (f1 a &&& 3) + 256 * (f1 b &&& 3) + 16 * (f1 c &&& 3) + (f1 d &&& 3) := by
    rw [show 858993459 = 65536 * 13107 + 4096 * 3 + 256 * 3 + 16 * 3 + 3 by omega, and_4 _ _ _ _ _ _ _ _ _ sa sb sc sd (by omega) (by omega) (by omega) (by omega)]
  have e4 : ((4096 * f1 a + 256 * f1 b + 16 * f1 c + f1 d) / 4) &&& 858993459 = 4096 * ((f1 a / 4) &&& 3) + 256 * ((f1 b / 4) &&& 3) + 16 * ((f1 c / 4) &&& 3) + ((f1 d / 4) &&& 3) := by
    rw [show (4096 * f1 a + 256 * f1 b + 16 * f1 c + f1 d) / 4 = 4096 * (f1 a / 4 + 4 * 0) + 256 * (f1 b / 4 + 4 * (f1 a % 4)) + 16 * (f1 c / 4 + 4 * (f1 b % 4)) + (f1 d / 4 + 4 * (f1 c % 4)) by omega, show 858993459 = 65536 * 13107 + 4096 * 3 + 256 * 3 + 16 * 3 + 3 by omega, and_4 _ _ _ _ _ _ _ _ _ (by omega) (by omega) (by omega) (by omega) (by omega) (by omega) (by omega) (by omega), m3 _ sa 0 (by omega), m3 _ sb _ (by omega), m3 _ sc _ (by omega), m3 _ sd _ (by omega)]
  have e5 : ((4096 * f1 a + 256 * f1 b + 16 * f1 c + f1 d) &&& 858993459) + (((4096 * f1 a + 256 * f1 b + 16 * f1 c + f1 d) / 4) &&& 858993459) = 4096 * f2 a + 256 * f2 b + 16 * f2 c + f2 d := by
    rw [e3, e4]
    unfold f2
    omega
  have e6 : (4096 * f2 a + 256 * f2 b + 16 * f2 c + f2 d + (4096 * f2 a + 256 * f2 b + 16 * f2 c + f2 d) / 16) &&& 252645135 = 256 * (f2 a + f2 b) + (f2 c + f2 d) := by
    rw [show 4096 * f2 a + 256 * f2 b + 16 * f2 c + f2 d + (4096 * f2 a + 256 * f2 b + 16 * f2 c + f2 d) / 16 = 4096 * f2 a + 256 * (f2 a + f2 b) + 16 * (f2 b + f2 c) + (f2 c + f2 d) by omega, show 252645135 = 65536 * 3855 + 4096 * 0 + 256 * 15 + 16 * 0 + 15 by omega, and_4 _ _ _ _ _ _ _ _ _ (by omega) (by omega) (by omega) (by omega) (by omega) (by omega) (by omega) (by omega), Nat.and_zero, Nat.and_zero, show (15 : Nat) = 2 ^ 4 - 1 from rfl, Nat.and_two_pow_sub_one_eq_mod, Nat.and_two_pow_sub_one_eq_mod]
    omega
  have fin : ∀ A B : Nat, A ≤ 8 → B ≤ 8 → (256 * A + B + (256 * A + B) / 256 + (256 * A + B + (256 * A + B) / 256) / 65536) &&& 63 = A + B := by
    intro A B hA hB
    rw [show (63 : Nat) = 2 ^ 6 - 1 from rfl, Nat.and_two_pow_sub_one_eq_mod, show (256 * A + B) / 256 = A by omega, show (256 * A + B + A) / 65536 = 0 by omega]
    omega
  unfold bcN
  simp only [e2, e5, e6]
  rw [fin _ _ (by omega) (by omega)]
  omega
