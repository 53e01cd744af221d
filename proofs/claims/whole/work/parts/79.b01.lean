/-! BITS: bitCount of 24 bits -/
theorem nat_land_split {x y p q k : Nat} (hx : x < 2 ^ k) (hp : p < 2 ^ k) : (2 ^ k * y + x) &&& (2 ^ k * q + p) = 2 ^ k * (y &&& q) + (x &&& p) := by
  apply Nat.eq_of_testBit_eq
  intro i
  have hxp : x &&& p < 2 ^ k := Nat.lt_of_le_of_lt Nat.and_le_left hx
  rw [Nat.testBit_and, Nat.testBit_two_pow_mul_add _ hx, Nat.testBit_two_pow_mul_add _ hp, Nat.testBit_two_pow_mul_add _ hxp]
  by_cases c : i < k
  · rw [if_pos c, if_pos c, if_pos c, Nat.testBit_and]
  · rw [if_neg c, if_neg c, if_neg c, Nat.testBit_and]
theorem land3 {a b c : Nat} (ha : a < 256) (hb : b < 256) (p : Nat) (hp : p < 256) : (a + 256 * b + 65536 * c) &&& (p + 256 * p + 65536 * p) = (a &&& p) + 256 * (b &&& p) + 65536 * (c &&& p) := by
  have e1 : a + 256 * b + 65536 * c = 2 ^ 8 * (2 ^ 8 * c + b) + a := by omega
  have e2 : p + 256 * p + 65536 * p = 2 ^ 8 * (2 ^ 8 * p + p) + p := by omega
  rw [e1, e2, nat_land_split (by simpa using ha) (by simpa using hp), nat_land_split (by simpa using hb) (by simpa using hp)]
  omega
/-- one byte's bits -/
def zpc (a : Nat) : Nat := ((((a - ((a / 2) &&& 85)) &&& 51) + (((a - ((a / 2) &&& 85)) / 4) &&& 51)) + (((((a - ((a / 2) &&& 85)) &&& 51) + (((a - ((a / 2) &&& 85)) / 4) &&& 51))) / 16)) &&& 15
theorem zpc_facts : ∀ a : Nat, a < 256 → ((a / 2) &&& 85 ≤ a) ∧ a - ((a / 2) &&& 85) < 256 ∧ zpc a = (a % 2 + a / 2 % 2 + a / 4 % 2 + a / 8 % 2 + a / 16 % 2 + a / 32 % 2 + a / 64 % 2 + a / 128 % 2) ∧ zpc a ≤ 8 := by decide +kernel
