theorem iand_nat {x m : Nat} (hx : x < 2147483648) (hm : m < 2147483648) : iand (x : Int) (m : Int) = ((x &&& m : Nat) : Int) := by
  unfold iand
  have h : (Int32.ofInt (x : Int) &&& Int32.ofInt (m : Int)).toBitVec.toNat = x &&& m := by
    rw [Int32.toBitVec_and, BitVec.toNat_and, i32_nat (by omega) (by omega), i32_nat (by omega) (by omega)]
    have e1 : ((x : Int) % 4294967296).toNat = x := by omega
    have e2 : ((m : Int) % 4294967296).toNat = m := by omega
    rw [e1, e2]
  have lt : x &&& m < 2147483648 := Nat.lt_of_le_of_lt Nat.and_le_left hx
  generalize Int32.ofInt (x : Int) &&& Int32.ofInt (m : Int) = z at h ⊢
  show z.toBitVec.toInt = _
  rw [BitVec.toInt_eq_toNat_of_lt (by omega), h]
theorem iushr_nat {x : Nat} (k : Nat) (s : Int) (hx : x < 2147483648) (hs : (((Int32.ofInt s).toUInt32 &&& Int32.toUInt32 31).toBitVec % 32).toNat = k) : iushr (x : Int) s = ((x / 2 ^ k : Nat) : Int) := by
  unfold iushr
  have h := pk_ushr (Int32.ofInt (x : Int)) (Int32.ofInt s) k hs
  rw [i32_nat (by omega) (by omega)] at h
  have e1 : ((x : Int) % 4294967296).toNat = x := by omega
  rw [e1] at h
  have lt : x / 2 ^ k ≤ x := Nat.div_le_self _ _
  generalize ((Int32.ofInt (x : Int)).toUInt32 >>> ((Int32.ofInt s).toUInt32 &&& Int32.toUInt32 31)).toInt32 = z at h ⊢
  show z.toBitVec.toInt = _
  rw [BitVec.toInt_eq_toNat_of_lt (by omega), h]
theorem land4 {a b c : Nat} (ha : a < 256) (hb : b < 256) (hc : c < 256) (p : Nat) (hp : p < 256) : (a + 256 * b + 65536 * c) &&& (p + 256 * p + 65536 * p + 16777216 * p) = (a &&& p) + 256 * (b &&& p) + 65536 * (c &&& p) := by
  have e1 : a + 256 * b + 65536 * c = 2 ^ 8 * (2 ^ 8 * (2 ^ 8 * 0 + c) + b) + a := by omega
  have e2 : p + 256 * p + 65536 * p + 16777216 * p = 2 ^ 8 * (2 ^ 8 * (2 ^ 8 * p + p) + p) + p := by omega
  rw [e1, e2, nat_land_split (by simpa using ha) (by simpa using hp), nat_land_split (by simpa using hb) (by simpa using hp), nat_land_split (by simpa using hc) (by simpa using hp), Nat.zero_and]
  omega
def zu1 (a : Nat) : Nat := a - ((a / 2) &&& 85)
def zu2 (a : Nat) : Nat := (a &&& 51) + ((a / 4) &&& 51)
theorem byte1 : ∀ a : Nat, a < 256 → ((a / 2 &&& 85) ≤ a) ∧ ((a / 2 + 128) &&& 85) = (a / 2 &&& 85) ∧ zu1 a < 256 := by decide +kernel
theorem byte2 : ∀ a : Nat, a < 256 → ((a / 4 + 64) &&& 51) = (a / 4 &&& 51) ∧ ((a / 4 + 128) &&& 51) = (a / 4 &&& 51) ∧ ((a / 4 + 192) &&& 51) = (a / 4 &&& 51) := by decide +kernel
theorem byte3 : ∀ a : Nat, a < 256 → zu2 (zu1 a) ≤ 68 ∧ ((zu2 (zu1 a) + zu2 (zu1 a) / 16) &&& 15) = zpc a ∧ zu2 (zu1 a) % 16 ≤ 4 := by decide +kernel
theorem byte4 : ∀ a : Nat, a < 73 → ∀ t : Nat, t < 16 → ((a + 16 * t) &&& 15) = (a &&& 15) := by decide +kernel
theorem stage1 {a b c : Nat} (ha : a < 256) (hb : b < 256) (hc : c < 256) : (a + 256 * b + 65536 * c) - (((a + 256 * b + 65536 * c) / 2) &&& 1431655765) = zu1 a + 256 * zu1 b + 65536 * zu1 c := by
  have e : (a + 256 * b + 65536 * c) / 2 = (a / 2 + 128 * (b % 2)) + 256 * (b / 2 + 128 * (c % 2)) + 65536 * (c / 2) := by omega
  have m : 1431655765 = 85 + 256 * 85 + 65536 * 85 + 16777216 * 85 := by decide
  rw [e, m, land4 (by omega) (by omega) (by omega) 85 (by decide)]
  have f1 := byte1 a ha
  have f2 := byte1 b hb
  have f3 := byte1 c hc
  have g1 : (a / 2 + 128 * (b % 2)) &&& 85 = (a / 2 &&& 85) := by
    have : b % 2 = 0 ∨ b % 2 = 1 := by omega
    rcases this with h | h <;> rw [h]
    · rfl
    · exact f1.2.1
  have g2 : (b / 2 + 128 * (c % 2)) &&& 85 = (b / 2 &&& 85) := by
    have : c % 2 = 0 ∨ c % 2 = 1 := by omega
    rcases this with h | h <;> rw [h]
    · rfl
    · exact f2.2.1
  rw [g1, g2]
  unfold zu1
  have h1 := f1.1
  have h2 := f2.1
  have h3 := f3.1
  generalize (a / 2 &&& 85) = p at *
  generalize (b / 2 &&& 85) = q at *
  generalize (c / 2 &&& 85) = r at *
  omega
theorem stage2 {a b c : Nat} (ha : a < 256) (hb : b < 256) (hc : c < 256) : ((a + 256 * b + 65536 * c) &&& 858993459) + (((a + 256 * b + 65536 * c) / 4) &&& 858993459) = zu2 a + 256 * zu2 b + 65536 * zu2 c := by
  have e : (a + 256 * b + 65536 * c) / 4 = (a / 4 + 64 * (b % 4)) + 256 * (b / 4 + 64 * (c % 4)) + 65536 * (c / 4) := by omega
  have m : 858993459 = 51 + 256 * 51 + 65536 * 51 + 16777216 * 51 := by decide
  rw [e, m, land4 ha hb hc 51 (by decide), land4 (by omega) (by omega) (by omega) 51 (by decide)]
  have f1 := byte2 a ha
  have f2 := byte2 b hb
  have g1 : (a / 4 + 64 * (b % 4)) &&& 51 = (a / 4 &&& 51) := by
    have : b % 4 = 0 ∨ b % 4 = 1 ∨ b % 4 = 2 ∨ b % 4 = 3 := by omega
    rcases this with h | h | h | h <;> rw [h]
    · rfl
    · exact f1.1
    · exact f1.2.1
    · exact f1.2.2
  have g2 : (b / 4 + 64 * (c % 4)) &&& 51 = (b / 4 &&& 51) := by
    have : c % 4 = 0 ∨ c % 4 = 1 ∨ c % 4 = 2 ∨ c % 4 = 3 := by omega
    rcases this with h | h | h | h <;> rw [h]
    · rfl
    · exact f2.1
    · exact f2.2.1
    · exact f2.2.2
  rw [g1, g2]
  unfold zu2
  omega
theorem stage3 {a b c : Nat} (ha : a < 256) (hb : b < 256) (hc : c < 256) : ((zu2 (zu1 a) + 256 * zu2 (zu1 b) + 65536 * zu2 (zu1 c)) + (zu2 (zu1 a) + 256 * zu2 (zu1 b) + 65536 * zu2 (zu1 c)) / 16) &&& 252645135 = zpc a + 256 * zpc b + 65536 * zpc c := by
  have f1 := byte3 a ha
  have f2 := byte3 b hb
  have f3 := byte3 c hc
  generalize zu2 (zu1 a) = x at *
  generalize zu2 (zu1 b) = y at *
  generalize zu2 (zu1 c) = z at *
  have l1 := f1.1
  have l2 := f2.1
  have l3 := f3.1
  have k2 := f2.2.2
  have k3 := f3.2.2
  have e : (x + 256 * y + 65536 * z) + (x + 256 * y + 65536 * z) / 16 = (x + x / 16 + 16 * (y % 16)) + 256 * (y + y / 16 + 16 * (z % 16)) + 65536 * (z + z / 16) := by omega
  have m : 252645135 = 15 + 256 * 15 + 65536 * 15 + 16777216 * 15 := by decide
  rw [e, m, land4 (by omega) (by omega) (by omega) 15 (by decide), byte4 (x + x / 16) (by omega) (y % 16) (by omega), byte4 (y + y / 16) (by omega) (z % 16) (by omega), f1.2.1, f2.2.1, f3.2.1]
